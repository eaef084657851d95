theorem qThen_r {a : fwPq} {i : Nat} {W : Nat → Int} {f : Nat → (Nat → Int) → fwPq} (h : a = .inr (i, W)) : qThen a f = f i W := by rw [h]; rfl
theorem qThen_l {a : fwPq} {e : Int × Nat} {f : Nat → (Nat → Int) → fwPq} (h : a = .inl e) : qThen a f = .inl e := by rw [h]; rfl
section Q6
variable {K V : Nat → Int} {i : Nat} {W : Nat → Int} {X : Int}
theorem q6_t {x lo hi : Int} {s : Nat} (hs : s ≠ 6) (h : K i = x) (h3 : K (i + 1) = 3) (hv : lo ≤ V (i + 1) ∧ V (i + 1) ≤ hi) : qFact K V x lo hi s i (fwFu W 6 X) = .inr (i + 1 + 1, fwFu (fwFu W s (V (i + 1))) 6 X) := by
  rw [qFact_t h h3 hv, fwFu_comm W X _ (Ne.symm hs)]
theorem qBef6 {f g : Nat} : qBef (fwFu W 6 X) f g = fwFu (qBef W f g) 6 X := by
  unfold qBef
  rw [fwFu_ne (g := W) (j := 6) (s := 19 + (7 * f + 6)) (by omega), fwFu_comm W X _ (show 6 ≠ 19 + (7 * f + 6) by omega), fwFu_ne (j := 6) (s := 19 + (7 * g + 6)) (by omega), fwFu_comm _ X _ (show 6 ≠ 19 + (7 * g + 6) by omega)]
def qW2 (K : Nat → Int) : Nat → (Nat → Int) → fwPq := fun i W => qWord K 2 i W
def qDo (K V : Nat → Int) (f n i : Nat) (W : Nat → Int) : fwPq := qThen (qThen (qNum K V 0 ((f : Int) - 1) (fun v _ => qBef W f v.toNat) i) (fun i W => qTl K V f n i W)) (qW2 K)
theorem tl_step {f m : Nat} (h3 : K i = 3) (hv : 0 ≤ V i ∧ V i ≤ (f : Int) - 1) (h2 : K (i + 1) ≠ 2) : qDo K V f (m + 1) i W = qDo K V f m (i + 1) (qBef W f (V i).toNat) := by
  unfold qDo
  rw [qThen_r (qNum_t h3 hv)]
  by_cases a : K (i + 1) = 3
  · by_cases b : 0 ≤ V (i + 1) ∧ V (i + 1) ≤ (f : Int) - 1
    · rw [qThen_r (qNum_t a b), qTl, if_pos a, if_pos b]
    · rw [qThen_l (qNum_2 a b), qTl, if_pos a, if_neg b]
  · rw [qThen_l (qNum_1 a), qTl, if_neg a]
    exact qWord_f h2
theorem tl_end {f m : Nat} (h3 : K i = 3) (hv : 0 ≤ V i ∧ V i ≤ (f : Int) - 1) (h2 : K (i + 1) = 2) : qDo K V f (m + 1) i W = qThen (.inr (i + 1, qBef W f (V i).toNat)) (qW2 K) := by
  unfold qDo
  rw [qThen_r (qNum_t h3 hv), qTl, if_neg (by omega)]
theorem tl_2 {f n : Nat} (h3 : K i = 3) (hv : ¬ (0 ≤ V i ∧ V i ≤ (f : Int) - 1)) : qDo K V f n i W = qThen (.inl (2, i)) (qW2 K) := by
  unfold qDo
  rw [qThen_l (qNum_2 h3 hv)]
theorem tl_1 {f n : Nat} (h3 : ¬ K i = 3) : qDo K V f n i W = qThen (.inl (1, i)) (qW2 K) := by
  unfold qDo
  rw [qThen_l (qNum_1 h3)]
end Q6
theorem ix_lo {f : Nat} (k : Int) (hk : 0 ≤ k ∧ k ≤ 6) : 0 ≤ 19 + (7 * (f : Int)) + k := by omega
theorem ix_hi {f : Nat} (hf : f < 8) (k : Int) (hk : 0 ≤ k ∧ k ≤ 6) : 19 + (7 * (f : Int)) + k < 135 := by omega
theorem ix_nat (f : Nat) (k : Nat) : (19 + (7 * (f : Int)) + (k : Int)).toNat = 19 + (7 * f + k) := by omega
theorem f_readFolk_154 {d : Nat} {h gg g : fwH} {Q : Option fwV → fwH → Prop} (f : Nat) (hf : f < 8) (e : Int × Nat) (S : mSt gg (.inl e) g) (F : mFr h g) (k : ∀ g, mSt gg (.inl e) g → mFr h g → Q none g) : fwWP mX12_readFolk (d + 8) 154 [some (aR 12 0), some (aI (f : Int)), some (aI (19 + (7 * (f : Int)))), none] [] g Q := by
  obtain ⟨hl1, hl2, hl3, hl4⟩ := mSt_l S
  refine w_aload_n dX12_readFolk_154 rfl ?_
  refine w_ldcS (n := 22) dX12_readFolk_155 rfl ?_
  refine w_callV (d := d + 7) (S := []) [aR 50 22] dX12_readFolk_157 ml_X12_147 ok_X12_needs vi_X12_needs rfl rfl (by decide) rfl (Nat.le_of_ble_eq_true rfl) ?_
  refine c_f_needs (d := (d + 1)) 22 _ S (by omega) ?_
  show fwWP mX12_readFolk (d + 8) 160 [some (aR 12 0), some (aI (f : Int)), some (aI (19 + (7 * (f : Int)))), none] [] g Q
  refine w_aload_n dX12_readFolk_160 rfl ?_
  refine w_iconst dX12_readFolk_161 ?_
  refine w_iload_n dX12_readFolk_162 rfl ?_
  refine w_iconst dX12_readFolk_163 ?_
  refine w_isub dX12_readFolk_164 ?_
  refine w_callV (d := d + 7) (S := []) [aI 0, aI ((f : Int) - 1)] dX12_readFolk_165 ml_X12_151 ok_X12_number vi_X12_number rfl rfl (by decide) rfl (Nat.le_of_ble_eq_true rfl) ?_
  refine c_f_number (d := (d + 5)) 0 ((f : Int) - 1) _ S ?_
  show fwWP mX12_readFolk (d + 8) 168 [some (aR 12 0), some (aI (f : Int)), some (aI (19 + (7 * (f : Int)))), none] [aI 0] g Q
  refine w_istore_n [some (aR 12 0), some (aI (f : Int)), some (aI (19 + (7 * (f : Int)))), some (aI 0)] dX12_readFolk_168 rfl (by decide) ?_
  refine w_aload_n dX12_readFolk_169 rfl ?_
  refine w_callV (d := d + 7) (S := []) [] dX12_readFolk_170 ml_X12_121 ok_X12_good vi_X12_good rfl rfl (by decide) rfl (Nat.le_of_ble_eq_true rfl) ?_
  refine c_f_good (d := (d + 7)) _ S ?_
  show fwWP mX12_readFolk (d + 8) 173 [some (aR 12 0), some (aI (f : Int)), some (aI (19 + (7 * (f : Int)))), some (aI 0)] [aI 0] g Q
  refine w_if_ne 177 dX12_readFolk_173 (by decide) (by omega) (fun c173 => ?_) (fun c173 => ?_)
  · (exfalso; omega)
  · exact w_vret dX12_readFolk_176 rfl (k _ S F)
theorem f_readFolk_111 {d : Nat} {h gg g : fwH} {Q : Option fwV → fwH → Prop} (f : Nat) (hf : f < 8) (e : Int × Nat) (S : mSt gg (.inl e) g) (F : mFr h g) (k : ∀ g, mSt gg (.inl e) g → mFr h g → Q none g) : fwWP mX12_readFolk (d + 8) 111 [some (aR 12 0), some (aI (f : Int)), some (aI (19 + (7 * (f : Int)))), none] [] g Q := by
  obtain ⟨hl1, hl2, hl3, hl4⟩ := mSt_l S
  refine w_aload_n dX12_readFolk_111 rfl ?_
  refine w_getr 41 0 dX12_readFolk_112 fl_X12_31 rfl (by decide) ?_
  refine w_iload_n dX12_readFolk_115 rfl ?_
  refine w_iconst dX12_readFolk_116 ?_
  refine w_iadd dX12_readFolk_117 ?_
  refine w_iconst dX12_readFolk_118 ?_
  refine w_iast dX12_readFolk_119 rfl (by decide) (ix_lo _ (by decide)) (ix_hi hf _ (by decide)) ?_
  rw [show ((19 + (7 * (f : Int))) + 5 : Int).toNat = (19 + (7 * f + 5)) from (ix_nat f 5)]
  have S95 : mSt gg (.inl e) (fwUp g 41 0 (19 + (7 * f + 5)) 0) := mSt_put S (19 + (7 * f + 5)) 0
  have F95 := mFr_41 F (19 + (7 * f + 5)) 0
  generalize fwUp g 41 0 (19 + (7 * f + 5)) 0 = g95 at S95 F95 ⊢
  refine w_aload_n dX12_readFolk_120 rfl ?_
  refine w_getr 41 0 dX12_readFolk_121 fl_X12_31 rfl (by decide) ?_
  refine w_iload_n dX12_readFolk_124 rfl ?_
  refine w_bipush dX12_readFolk_125 rfl ?_
  refine w_iadd dX12_readFolk_127 ?_
  refine w_iconst dX12_readFolk_128 ?_
  refine w_iast dX12_readFolk_129 rfl (by decide) (ix_lo _ (by decide)) (ix_hi hf _ (by decide)) ?_
  rw [show ((19 + (7 * (f : Int))) + 6 : Int).toNat = (19 + (7 * f + 6)) from (ix_nat f 6)]
  have S96 : mSt gg (.inl e) (fwUp g95 41 0 (19 + (7 * f + 6)) 0) := mSt_put S95 (19 + (7 * f + 6)) 0
  have F96 := mFr_41 F95 (19 + (7 * f + 6)) 0
  generalize fwUp g95 41 0 (19 + (7 * f + 6)) 0 = g96 at S96 F96 ⊢
  refine w_aload_n dX12_readFolk_130 rfl ?_
  refine w_ldcS (n := 21) dX12_readFolk_131 rfl ?_
  refine w_callV (d := d + 7) (S := []) [aR 50 21] dX12_readFolk_133 ml_X12_140 ok_X12_takes vi_X12_takes rfl rfl (by decide) rfl (Nat.le_of_ble_eq_true rfl) ?_
  refine c_f_takes (d := (d + 2)) 21 _ S96 (by omega) ?_
  show fwWP mX12_readFolk (d + 8) 136 [some (aR 12 0), some (aI (f : Int)), some (aI (19 + (7 * (f : Int)))), none] [aI 0] g96 Q
  refine w_if_eq 221 dX12_readFolk_136 (by decide) (by omega) (fun c136 => ?_) (fun c136 => ?_)
  · refine w_aload_n dX12_readFolk_221 rfl ?_
    refine w_getr 41 0 dX12_readFolk_222 fl_X12_31 rfl (by decide) ?_
    refine w_bipush dX12_readFolk_225 rfl ?_
    refine w_dup2 dX12_readFolk_227 rfl rfl ?_
    refine w_ialdE (v := g96 41 0 6) dX12_readFolk_228 rfl (by decide) (by omega) (by omega) (by rw [show (6 : Int).toNat = 6 by omega]) ?_
    refine w_iconst dX12_readFolk_229 ?_
    refine w_iadd dX12_readFolk_230 ?_
    refine w_iast dX12_readFolk_231 rfl (by decide) (by omega) (by omega) ?_
    rw [show (6 : Int).toNat = 6 from by omega]
    have S97 : mSt gg (.inl e) (fwUp g96 41 0 6 ((g96 41 0 6) + 1)) := mSt_put S96 6 ((g96 41 0 6) + 1)
    have F97 := mFr_41 F96 6 ((g96 41 0 6) + 1)
    generalize fwUp g96 41 0 6 ((g96 41 0 6) + 1) = g97 at S97 F97 ⊢
    exact w_vret dX12_readFolk_232 rfl (k _ S97 F97)
  · (exfalso; omega)
theorem f_readFolk_94 {d : Nat} {h gg g : fwH} {Q : Option fwV → fwH → Prop} (f : Nat) (hf : f < 8) (e : Int × Nat) (S : mSt gg (.inl e) g) (F : mFr h g) (k : ∀ g, mSt gg (.inl e) g → mFr h g → Q none g) : fwWP mX12_readFolk (d + 8) 94 [some (aR 12 0), some (aI (f : Int)), some (aI (19 + (7 * (f : Int)))), none] [] g Q := by
  obtain ⟨hl1, hl2, hl3, hl4⟩ := mSt_l S
  refine w_aload_n dX12_readFolk_94 rfl ?_
  refine w_getr 41 0 dX12_readFolk_95 fl_X12_31 rfl (by decide) ?_
  refine w_iload_n dX12_readFolk_98 rfl ?_
  refine w_iconst dX12_readFolk_99 ?_
  refine w_iadd dX12_readFolk_100 ?_
  refine w_aload_n dX12_readFolk_101 rfl ?_
  refine w_ldcS (n := 20) dX12_readFolk_102 rfl ?_
  refine w_iconst dX12_readFolk_104 ?_
  refine w_bipush dX12_readFolk_105 rfl ?_
  refine w_callV (d := d + 7) (S := [aI ((19 + (7 * (f : Int))) + 4), aR 41 0]) [aR 50 20, aI 0, aI 9] dX12_readFolk_107 ml_X12_160 ok_X12_told vi_X12_told rfl rfl (by decide) rfl (Nat.le_of_ble_eq_true rfl) ?_
  refine c_f_told (d := d) 20 0 9 _ S (by omega) ?_
  show fwWP mX12_readFolk (d + 8) 110 [some (aR 12 0), some (aI (f : Int)), some (aI (19 + (7 * (f : Int)))), none] [aI 0, aI ((19 + (7 * (f : Int))) + 4), aR 41 0] g Q
  refine w_iast dX12_readFolk_110 rfl (by decide) (ix_lo _ (by decide)) (ix_hi hf _ (by decide)) ?_
  rw [show ((19 + (7 * (f : Int))) + 4 : Int).toNat = (19 + (7 * f + 4)) from (ix_nat f 4)]
  have S98 : mSt gg (.inl e) (fwUp g 41 0 (19 + (7 * f + 4)) 0) := mSt_put S (19 + (7 * f + 4)) 0
  have F98 := mFr_41 F (19 + (7 * f + 4)) 0
  generalize fwUp g 41 0 (19 + (7 * f + 4)) 0 = g98 at S98 F98 ⊢
  exact f_readFolk_111 f hf _ S98 F98 (fun g9 S9 F9 => k g9 S9 F9)
theorem f_readFolk_77 {d : Nat} {h gg g : fwH} {Q : Option fwV → fwH → Prop} (f : Nat) (hf : f < 8) (e : Int × Nat) (S : mSt gg (.inl e) g) (F : mFr h g) (k : ∀ g, mSt gg (.inl e) g → mFr h g → Q none g) : fwWP mX12_readFolk (d + 8) 77 [some (aR 12 0), some (aI (f : Int)), some (aI (19 + (7 * (f : Int)))), none] [] g Q := by
  obtain ⟨hl1, hl2, hl3, hl4⟩ := mSt_l S
  refine w_aload_n dX12_readFolk_77 rfl ?_
  refine w_getr 41 0 dX12_readFolk_78 fl_X12_31 rfl (by decide) ?_
  refine w_iload_n dX12_readFolk_81 rfl ?_
  refine w_iconst dX12_readFolk_82 ?_
  refine w_iadd dX12_readFolk_83 ?_
  refine w_aload_n dX12_readFolk_84 rfl ?_
  refine w_ldcS (n := 14) dX12_readFolk_85 rfl ?_
  refine w_iconst dX12_readFolk_87 ?_
  refine w_bipush dX12_readFolk_88 rfl ?_
  refine w_callV (d := d + 7) (S := [aI ((19 + (7 * (f : Int))) + 3), aR 41 0]) [aR 50 14, aI 0, aI 9] dX12_readFolk_90 ml_X12_160 ok_X12_told vi_X12_told rfl rfl (by decide) rfl (Nat.le_of_ble_eq_true rfl) ?_
  refine c_f_told (d := d) 14 0 9 _ S (by omega) ?_
  show fwWP mX12_readFolk (d + 8) 93 [some (aR 12 0), some (aI (f : Int)), some (aI (19 + (7 * (f : Int)))), none] [aI 0, aI ((19 + (7 * (f : Int))) + 3), aR 41 0] g Q
  refine w_iast dX12_readFolk_93 rfl (by decide) (ix_lo _ (by decide)) (ix_hi hf _ (by decide)) ?_
  rw [show ((19 + (7 * (f : Int))) + 3 : Int).toNat = (19 + (7 * f + 3)) from (ix_nat f 3)]
  have S99 : mSt gg (.inl e) (fwUp g 41 0 (19 + (7 * f + 3)) 0) := mSt_put S (19 + (7 * f + 3)) 0
  have F99 := mFr_41 F (19 + (7 * f + 3)) 0
  generalize fwUp g 41 0 (19 + (7 * f + 3)) 0 = g99 at S99 F99 ⊢
  exact f_readFolk_94 f hf _ S99 F99 (fun g9 S9 F9 => k g9 S9 F9)
theorem f_readFolk_60 {d : Nat} {h gg g : fwH} {Q : Option fwV → fwH → Prop} (f : Nat) (hf : f < 8) (e : Int × Nat) (S : mSt gg (.inl e) g) (F : mFr h g) (k : ∀ g, mSt gg (.inl e) g → mFr h g → Q none g) : fwWP mX12_readFolk (d + 8) 60 [some (aR 12 0), some (aI (f : Int)), some (aI (19 + (7 * (f : Int)))), none] [] g Q := by
  obtain ⟨hl1, hl2, hl3, hl4⟩ := mSt_l S
  refine w_aload_n dX12_readFolk_60 rfl ?_
  refine w_getr 41 0 dX12_readFolk_61 fl_X12_31 rfl (by decide) ?_
  refine w_iload_n dX12_readFolk_64 rfl ?_
  refine w_iconst dX12_readFolk_65 ?_
  refine w_iadd dX12_readFolk_66 ?_
  refine w_aload_n dX12_readFolk_67 rfl ?_
  refine w_ldcS (n := 19) dX12_readFolk_68 rfl ?_
  refine w_iconst dX12_readFolk_70 ?_
  refine w_bipush dX12_readFolk_71 rfl ?_
  refine w_callV (d := d + 7) (S := [aI ((19 + (7 * (f : Int))) + 2), aR 41 0]) [aR 50 19, aI 0, aI 9] dX12_readFolk_73 ml_X12_160 ok_X12_told vi_X12_told rfl rfl (by decide) rfl (Nat.le_of_ble_eq_true rfl) ?_
  refine c_f_told (d := d) 19 0 9 _ S (by omega) ?_
  show fwWP mX12_readFolk (d + 8) 76 [some (aR 12 0), some (aI (f : Int)), some (aI (19 + (7 * (f : Int)))), none] [aI 0, aI ((19 + (7 * (f : Int))) + 2), aR 41 0] g Q
  refine w_iast dX12_readFolk_76 rfl (by decide) (ix_lo _ (by decide)) (ix_hi hf _ (by decide)) ?_
  rw [show ((19 + (7 * (f : Int))) + 2 : Int).toNat = (19 + (7 * f + 2)) from (ix_nat f 2)]
  have S100 : mSt gg (.inl e) (fwUp g 41 0 (19 + (7 * f + 2)) 0) := mSt_put S (19 + (7 * f + 2)) 0
  have F100 := mFr_41 F (19 + (7 * f + 2)) 0
  generalize fwUp g 41 0 (19 + (7 * f + 2)) 0 = g100 at S100 F100 ⊢
  exact f_readFolk_77 f hf _ S100 F100 (fun g9 S9 F9 => k g9 S9 F9)
theorem f_readFolk_43 {d : Nat} {h gg g : fwH} {Q : Option fwV → fwH → Prop} (f : Nat) (hf : f < 8) (e : Int × Nat) (S : mSt gg (.inl e) g) (F : mFr h g) (k : ∀ g, mSt gg (.inl e) g → mFr h g → Q none g) : fwWP mX12_readFolk (d + 8) 43 [some (aR 12 0), some (aI (f : Int)), some (aI (19 + (7 * (f : Int)))), none] [] g Q := by
  obtain ⟨hl1, hl2, hl3, hl4⟩ := mSt_l S
  refine w_aload_n dX12_readFolk_43 rfl ?_
  refine w_getr 41 0 dX12_readFolk_44 fl_X12_31 rfl (by decide) ?_
  refine w_iload_n dX12_readFolk_47 rfl ?_
  refine w_iconst dX12_readFolk_48 ?_
  refine w_iadd dX12_readFolk_49 ?_
  refine w_aload_n dX12_readFolk_50 rfl ?_
  refine w_ldcS (n := 16) dX12_readFolk_51 rfl ?_
  refine w_iconst dX12_readFolk_53 ?_
  refine w_bipush dX12_readFolk_54 rfl ?_
  refine w_callV (d := d + 7) (S := [aI ((19 + (7 * (f : Int))) + 1), aR 41 0]) [aR 50 16, aI 1, aI 99] dX12_readFolk_56 ml_X12_160 ok_X12_told vi_X12_told rfl rfl (by decide) rfl (Nat.le_of_ble_eq_true rfl) ?_
  refine c_f_told (d := d) 16 1 99 _ S (by omega) ?_
  show fwWP mX12_readFolk (d + 8) 59 [some (aR 12 0), some (aI (f : Int)), some (aI (19 + (7 * (f : Int)))), none] [aI 0, aI ((19 + (7 * (f : Int))) + 1), aR 41 0] g Q
  refine w_iast dX12_readFolk_59 rfl (by decide) (ix_lo _ (by decide)) (ix_hi hf _ (by decide)) ?_
  rw [show ((19 + (7 * (f : Int))) + 1 : Int).toNat = (19 + (7 * f + 1)) from (ix_nat f 1)]
  have S101 : mSt gg (.inl e) (fwUp g 41 0 (19 + (7 * f + 1)) 0) := mSt_put S (19 + (7 * f + 1)) 0
  have F101 := mFr_41 F (19 + (7 * f + 1)) 0
  generalize fwUp g 41 0 (19 + (7 * f + 1)) 0 = g101 at S101 F101 ⊢
  exact f_readFolk_60 f hf _ S101 F101 (fun g9 S9 F9 => k g9 S9 F9)
theorem lp_readFolk {d : Nat} {h gg : fwH} {Q : Option fwV → fwH → Prop} (f : Nat) (i : Nat) (W : Nat → Int) (S : mSt gg (.inr (i + 1, W)) h) (hf : f < 8) (i0 : Nat) (k : ∀ q g, mSt gg q g → mFr h g → qThen q (qW2 (cutH gg 14 0)) = qThen (qFolk (cutH gg 14 0) (cutH gg 16 0) f i W) (qW2 (cutH gg 14 0)) → Q none g) : ∀ c : Nat, c ≤ 900 → ∀ (Wc : Nat → Int) (gc : fwH), mSt gg (.inr (i0 + c, Wc)) gc → mFr h gc → Wc 6 = (f : Int) → qThen (qFolk (cutH gg 14 0) (cutH gg 16 0) f i W) (qW2 (cutH gg 14 0)) = qDo (cutH gg 14 0) (cutH gg 16 0) f (900 - c) (i0 + c) (fwFu Wc 6 ((f : Int) + 1)) → fwWP mX12_readFolk (d + 8) 160 [some (aR 12 0), some (aI (f : Int)), some (aI (19 + (7 * (f : Int)))), none] [] gc Q := by
  have hTN := (tk_cut S.1.1).2.1
  refine fw_up (fun c hc160 ih160 => ?_)
  intro Wc gc Sc Fc hw6 he160
  have hkc := tk_kind S.1.1 (mSt_r Sc).1
  obtain ⟨hc1, hc2, hc3, hc4, hc5, hc6b, hc7⟩ := hkc
  clear hc1 hc2 hc3 hc5 hc6b
  refine w_aload_n dX12_readFolk_160 rfl ?_
  refine w_iconst dX12_readFolk_161 ?_
  refine w_iload_n dX12_readFolk_162 rfl ?_
  refine w_iconst dX12_readFolk_163 ?_
  refine w_isub dX12_readFolk_164 ?_
  refine w_callV (d := d + 7) (S := []) [aI 0, aI ((f : Int) - 1)] dX12_readFolk_165 ml_X12_151 ok_X12_number vi_X12_number rfl rfl (by decide) rfl (Nat.le_of_ble_eq_true rfl) ?_
  refine c_r_number (d := (d + 5)) 0 ((f : Int) - 1) _ _ Sc (by omega) (by omega) ⟨?_, ?_, ?_⟩
  · intro cn163 cv163 g163 S163 F163
    have hvr163 := (tk_cut S.1.1).2.2.2 (i0 + c) (mSt_r Sc).1
    show fwWP mX12_readFolk (d + 8) 168 [some (aR 12 0), some (aI (f : Int)), some (aI (19 + (7 * (f : Int)))), none] [aI (cutH gg 16 0 (i0 + c))] g163 Q
    have G163 := mFr_tr Fc F163
    obtain ⟨o, ho⟩ : ∃ o : Nat, cutH gg 16 0 (i0 + c) = (o : Int) := ⟨(cutH gg 16 0 (i0 + c)).toNat, by omega⟩
    rw [ho]
    rw [ho] at cv163 hvr163
    refine w_istore_n [some (aR 12 0), some (aI (f : Int)), some (aI (19 + (7 * (f : Int)))), some (aI (o : Int))] dX12_readFolk_168 rfl (by decide) ?_
    refine w_aload_n dX12_readFolk_169 rfl ?_
    refine w_callV (d := d + 7) (S := []) [] dX12_readFolk_170 ml_X12_121 ok_X12_good vi_X12_good rfl rfl (by decide) rfl (Nat.le_of_ble_eq_true rfl) ?_
    refine c_r_good (d := (d + 7)) _ _ S163 ?_
    show fwWP mX12_readFolk (d + 8) 173 [some (aR 12 0), some (aI (f : Int)), some (aI (19 + (7 * (f : Int)))), some (aI (o : Int))] [aI 1] g163 Q
    refine w_if_ne 177 dX12_readFolk_173 (by decide) (by omega) (fun c173 => ?_) (fun c173 => ?_)
    · refine w_aload_n dX12_readFolk_177 rfl ?_
      refine w_getr 41 0 dX12_readFolk_178 fl_X12_31 rfl (by decide) ?_
      refine w_iload_n dX12_readFolk_181 rfl ?_
      refine w_bipush dX12_readFolk_182 rfl ?_
      refine w_iadd dX12_readFolk_184 ?_
      refine w_dup2 dX12_readFolk_185 rfl rfl ?_
      refine w_ialdE (v := Wc (19 + (7 * f + 6))) dX12_readFolk_186 rfl (by decide) (ix_lo _ (by decide)) (ix_hi hf _ (by decide)) (by rw [show ((19 + (7 * (f : Int))) + 6 : Int).toNat = (19 + (7 * f + 6)) by omega]; exact (mSt_r S163).2.2.2.2 _ (by omega)) ?_
      refine w_iconst dX12_readFolk_187 ?_
      refine w_iload_n dX12_readFolk_188 rfl ?_
      refine w_ishl dX12_readFolk_189 ?_
      refine w_ior dX12_readFolk_190 ?_
      refine w_iast dX12_readFolk_191 rfl (by decide) (ix_lo _ (by decide)) (ix_hi hf _ (by decide)) ?_
      rw [show ((19 + (7 * (f : Int))) + 6 : Int).toNat = (19 + (7 * f + 6)) from (ix_nat f 6)]
      have S166 : mSt gg (.inr (((i0 + c) + 1), fwFu Wc (19 + (7 * f + 6)) (fwOr (Wc (19 + (7 * f + 6))) (fwShl 1 (o : Int))))) (fwUp g163 41 0 (19 + (7 * f + 6)) (fwOr (Wc (19 + (7 * f + 6))) (fwShl 1 (o : Int)))) := mSt_put S163 (19 + (7 * f + 6)) (fwOr (Wc (19 + (7 * f + 6))) (fwShl 1 (o : Int)))
      have F166 := mFr_41 G163 (19 + (7 * f + 6)) (fwOr (Wc (19 + (7 * f + 6))) (fwShl 1 (o : Int)))
      generalize fwUp g163 41 0 (19 + (7 * f + 6)) (fwOr (Wc (19 + (7 * f + 6))) (fwShl 1 (o : Int))) = g166 at S166 F166 ⊢
      refine w_aload_n dX12_readFolk_192 rfl ?_
      refine w_getr 41 0 dX12_readFolk_193 fl_X12_31 rfl (by decide) ?_
      refine w_bipush dX12_readFolk_196 rfl ?_
      refine w_bipush dX12_readFolk_198 rfl ?_
      refine w_iload_n dX12_readFolk_200 rfl ?_
      refine w_imul dX12_readFolk_201 ?_
      refine w_iadd dX12_readFolk_202 ?_
      refine w_bipush dX12_readFolk_203 rfl ?_
      refine w_iadd dX12_readFolk_205 ?_
      refine w_dup2 dX12_readFolk_206 rfl rfl ?_
      refine w_ialdE (v := (fwFu Wc (19 + (7 * f + 6)) (fwOr (Wc (19 + (7 * f + 6))) (fwShl 1 (o : Int)))) (19 + (7 * o + 6))) dX12_readFolk_207 rfl (by decide) (by omega) (by omega) (by rw [show ((19 + (7 * (o : Int))) + 6 : Int).toNat = (19 + (7 * o + 6)) by omega]; exact (mSt_r S166).2.2.2.2 _ (by omega)) ?_
      refine w_iconst dX12_readFolk_208 ?_
      refine w_iload_n dX12_readFolk_209 rfl ?_
      refine w_ishl dX12_readFolk_210 ?_
      refine w_ior dX12_readFolk_211 ?_
      refine w_iast dX12_readFolk_212 rfl (by decide) (by omega) (by omega) ?_
      rw [show ((19 + (7 * (o : Int))) + 6 : Int).toNat = (19 + (7 * o + 6)) from by omega]
      have S167 : mSt gg (.inr (((i0 + c) + 1), fwFu (fwFu Wc (19 + (7 * f + 6)) (fwOr (Wc (19 + (7 * f + 6))) (fwShl 1 (o : Int)))) (19 + (7 * o + 6)) (fwOr ((fwFu Wc (19 + (7 * f + 6)) (fwOr (Wc (19 + (7 * f + 6))) (fwShl 1 (o : Int)))) (19 + (7 * o + 6))) (fwShl 1 (f : Int))))) (fwUp g166 41 0 (19 + (7 * o + 6)) (fwOr ((fwFu Wc (19 + (7 * f + 6)) (fwOr (Wc (19 + (7 * f + 6))) (fwShl 1 (o : Int)))) (19 + (7 * o + 6))) (fwShl 1 (f : Int)))) := mSt_put S166 (19 + (7 * o + 6)) (fwOr ((fwFu Wc (19 + (7 * f + 6)) (fwOr (Wc (19 + (7 * f + 6))) (fwShl 1 (o : Int)))) (19 + (7 * o + 6))) (fwShl 1 (f : Int)))
      have F167 := mFr_41 F166 (19 + (7 * o + 6)) (fwOr ((fwFu Wc (19 + (7 * f + 6)) (fwOr (Wc (19 + (7 * f + 6))) (fwShl 1 (o : Int)))) (19 + (7 * o + 6))) (fwShl 1 (f : Int)))
      generalize fwUp g166 41 0 (19 + (7 * o + 6)) (fwOr ((fwFu Wc (19 + (7 * f + 6)) (fwOr (Wc (19 + (7 * f + 6))) (fwShl 1 (o : Int)))) (19 + (7 * o + 6))) (fwShl 1 (f : Int))) = g167 at S167 F167 ⊢
      obtain ⟨hn1, hn2, hn3, hn4, hn5, hn6, hn7⟩ := tk_kind S.1.1 (mSt_r S167).1
      refine w_aload_n dX12_readFolk_213 rfl ?_
      refine w_getiE (v := mdT (mBy gg) (tokP (mBy gg) ((i0 + c) + 1))) dX12_readFolk_214 fl_X12_97 rfl (by decide) (mSt_r S167).2.1.2.2.2.1 ?_
      refine w_iconst dX12_readFolk_217 ?_
      refine w_icmp_ne 160 dX12_readFolk_218 (by decide) (by omega) (by omega) (fun c218 => ?_) (fun c218 => ?_)
      · refine w_drop [3] [some (aR 12 0), some (aI (f : Int)), some (aI (19 + (7 * (f : Int)))), none] rfl ?_
        exact ih160 (by have := (mSt_r S167).1; omega) _ _ (mSt_eq S167 (by rw [← Nat.add_assoc])) F167 ((fwFu_ne (by omega)).trans ((fwFu_ne (by omega)).trans hw6)) (by rw [he160, show 900 - c = (900 - (c + 1)) + 1 by have := (mSt_r S167).1; omega, tl_step cn163 (by rw [ho]; exact cv163) (by omega), ho, Int.toNat_natCast, qBef6, ← Nat.add_assoc]; rfl)
      · refine w_aload_n dX12_readFolk_221 rfl ?_
        refine w_getr 41 0 dX12_readFolk_222 fl_X12_31 rfl (by decide) ?_
        refine w_bipush dX12_readFolk_225 rfl ?_
        refine w_dup2 dX12_readFolk_227 rfl rfl ?_
        refine w_ialdE (v := (f : Int)) dX12_readFolk_228 rfl (by decide) (by omega) (by omega) (by rw [show (6 : Int).toNat = 6 by omega]; exact ((mSt_r S167).2.2.2.2 6 (by omega)).trans ((fwFu_ne (by omega)).trans ((fwFu_ne (by omega)).trans hw6))) ?_
        refine w_iconst dX12_readFolk_229 ?_
        refine w_iadd dX12_readFolk_230 ?_
        refine w_iast dX12_readFolk_231 rfl (by decide) (by omega) (by omega) ?_
        rw [show (6 : Int).toNat = 6 from by omega]
        have S168 : mSt gg (.inr (((i0 + c) + 1), fwFu (fwFu (fwFu Wc (19 + (7 * f + 6)) (fwOr (Wc (19 + (7 * f + 6))) (fwShl 1 (o : Int)))) (19 + (7 * o + 6)) (fwOr ((fwFu Wc (19 + (7 * f + 6)) (fwOr (Wc (19 + (7 * f + 6))) (fwShl 1 (o : Int)))) (19 + (7 * o + 6))) (fwShl 1 (f : Int)))) 6 ((f : Int) + 1))) (fwUp g167 41 0 6 ((f : Int) + 1)) := mSt_put S167 6 ((f : Int) + 1)
        have F168 := mFr_41 F167 6 ((f : Int) + 1)
        generalize fwUp g167 41 0 6 ((f : Int) + 1) = g168 at S168 F168 ⊢
        exact w_vret dX12_readFolk_232 rfl (k _ _ S168 F168 (by symm; rw [he160, show 900 - c = (900 - (c + 1)) + 1 by have := (mSt_r S168).1; omega, tl_end cn163 (by rw [ho]; exact cv163) (by omega), ho, Int.toNat_natCast, qBef6]; rfl))
    · (exfalso; omega)
  · intro cn163 cv163 g164 S164 F164
    show fwWP mX12_readFolk (d + 8) 168 [some (aR 12 0), some (aI (f : Int)), some (aI (19 + (7 * (f : Int)))), none] [aI 0] g164 Q
    have G164 := mFr_tr Fc F164
    refine w_istore_n [some (aR 12 0), some (aI (f : Int)), some (aI (19 + (7 * (f : Int)))), some (aI 0)] dX12_readFolk_168 rfl (by decide) ?_
    refine w_aload_n dX12_readFolk_169 rfl ?_
    refine w_callV (d := d + 7) (S := []) [] dX12_readFolk_170 ml_X12_121 ok_X12_good vi_X12_good rfl rfl (by decide) rfl (Nat.le_of_ble_eq_true rfl) ?_
    refine c_f_good (d := (d + 7)) _ S164 ?_
    show fwWP mX12_readFolk (d + 8) 173 [some (aR 12 0), some (aI (f : Int)), some (aI (19 + (7 * (f : Int)))), some (aI 0)] [aI 0] g164 Q
    refine w_if_ne 177 dX12_readFolk_173 (by decide) (by omega) (fun c173 => ?_) (fun c173 => ?_)
    · (exfalso; omega)
    · exact w_vret dX12_readFolk_176 rfl (k _ _ S164 G164 (by rw [he160]; exact (tl_2 cn163 cv163).symm))
  · intro cn163 g165 S165 F165
    show fwWP mX12_readFolk (d + 8) 168 [some (aR 12 0), some (aI (f : Int)), some (aI (19 + (7 * (f : Int)))), none] [aI 0] g165 Q
    have G165 := mFr_tr Fc F165
    refine w_istore_n [some (aR 12 0), some (aI (f : Int)), some (aI (19 + (7 * (f : Int)))), some (aI 0)] dX12_readFolk_168 rfl (by decide) ?_
    refine w_aload_n dX12_readFolk_169 rfl ?_
    refine w_callV (d := d + 7) (S := []) [] dX12_readFolk_170 ml_X12_121 ok_X12_good vi_X12_good rfl rfl (by decide) rfl (Nat.le_of_ble_eq_true rfl) ?_
    refine c_f_good (d := (d + 7)) _ S165 ?_
    show fwWP mX12_readFolk (d + 8) 173 [some (aR 12 0), some (aI (f : Int)), some (aI (19 + (7 * (f : Int)))), some (aI 0)] [aI 0] g165 Q
    refine w_if_ne 177 dX12_readFolk_173 (by decide) (by omega) (fun c173 => ?_) (fun c173 => ?_)
    · (exfalso; omega)
    · exact w_vret dX12_readFolk_176 rfl (k _ _ S165 G165 (by rw [he160]; exact (tl_1 cn163).symm))
set_option maxRecDepth 100000 in
set_option maxHeartbeats 4000000 in
theorem c_r_readFolk {d : Nat} {h gg : fwH} {Q : Option fwV → fwH → Prop} (f : Nat) (i : Nat) (W : Nat → Int) (S : mSt gg (.inr (i + 1, W)) h) (hW : wG W) (h6 : W 6 = (f : Int)) (hf : f < 8) (hK : cutH gg 14 0 i = 8) (k : ∀ q g, mSt gg q g → mFr h g → qThen q (qW2 (cutH gg 14 0)) = qThen (qFolk (cutH gg 14 0) (cutH gg 16 0) f i W) (qW2 (cutH gg 14 0)) → Q none g) : fwCt mX12_readFolk (d + 8) [aR 12 0] h Q := by
  refine fwCt_of [some (aR 12 0), none, none, none] rfl rfl rfl ?_
  obtain ⟨hz1, hz2⟩ := S.1.1
  obtain ⟨hr1, hr2, hr3, hr4, hr5⟩ := mSt_r S
  have hW0 := hW.1
  have hz5 := hW.2.2.2.2.2.2.2.2.2 (7 * f + 5) (by omega) (by omega)
  have hz6 := hW.2.2.2.2.2.2.2.2.2 (7 * f + 6) (by omega) (by omega)
  have hTN := (tk_cut S.1.1).2.1
  have q0 : qWord (cutH gg 14 0) 8 i (fwFu W 6 ((f : Int) + 1)) = .inr (i + 1, fwFu W 6 ((f : Int) + 1)) := qWord_t hK
  refine w_aload_n dX12_readFolk_0 rfl ?_
  refine w_getr 41 0 dX12_readFolk_1 fl_X12_31 rfl (by decide) ?_
  refine w_bipush dX12_readFolk_4 rfl ?_
  refine w_ialdE (v := (f : Int)) dX12_readFolk_6 rfl (by decide) (by omega) (by omega) (by rw [show (6 : Int).toNat = 6 by omega]; exact ((mSt_r S).2.2.2.2 6 (by omega)).trans h6) ?_
  refine w_istore_n [some (aR 12 0), some (aI (f : Int)), none, none] dX12_readFolk_7 rfl (by decide) ?_
  refine w_bipush dX12_readFolk_8 rfl ?_
  refine w_bipush dX12_readFolk_10 rfl ?_
  refine w_iload_n dX12_readFolk_12 rfl ?_
  refine w_imul dX12_readFolk_13 ?_
  refine w_iadd dX12_readFolk_14 ?_
  refine w_istore_n [some (aR 12 0), some (aI (f : Int)), some (aI (19 + (7 * (f : Int)))), none] dX12_readFolk_15 rfl (by decide) ?_
  refine w_aload_n dX12_readFolk_16 rfl ?_
  refine w_ldcS (n := 18) dX12_readFolk_17 rfl ?_
  refine w_callV (d := d + 7) (S := []) [aR 50 18] dX12_readFolk_19 ml_X12_147 ok_X12_needs vi_X12_needs rfl rfl (by decide) rfl (Nat.le_of_ble_eq_true rfl) ?_
  refine c_r_needs (d := (d + 1)) 5 _ _ S (by omega) ⟨?_, ?_⟩
  · intro cw102 g102 S102 F102
    show fwWP mX12_readFolk (d + 8) 22 [some (aR 12 0), some (aI (f : Int)), some (aI (19 + (7 * (f : Int)))), none] [] g102 Q
    refine w_aload_n dX12_readFolk_22 rfl ?_
    refine w_getr 41 0 dX12_readFolk_23 fl_X12_31 rfl (by decide) ?_
    refine w_iload_n dX12_readFolk_26 rfl ?_
    refine w_iconst dX12_readFolk_27 ?_
    refine w_iadd dX12_readFolk_28 ?_
    refine w_aload_n dX12_readFolk_29 rfl ?_
    refine w_iconst dX12_readFolk_30 ?_
    refine w_aload_n dX12_readFolk_31 rfl ?_
    refine w_getr 41 0 dX12_readFolk_32 fl_X12_31 rfl (by decide) ?_
    refine w_iconst dX12_readFolk_35 ?_
    refine w_ialdE (v := W 0) dX12_readFolk_36 rfl (by decide) (by omega) (by omega) (by rw [show (0 : Int).toNat = 0 by omega]; exact (mSt_r S102).2.2.2.2 _ (by omega)) ?_
    refine w_iconst dX12_readFolk_37 ?_
    refine w_isub dX12_readFolk_38 ?_
    refine w_callV (d := d + 7) (S := [aI ((19 + (7 * (f : Int))) + 0), aR 41 0]) [aI 0, aI ((W 0) - 1)] dX12_readFolk_39 ml_X12_151 ok_X12_number vi_X12_number rfl rfl (by decide) rfl (Nat.le_of_ble_eq_true rfl) ?_
    refine c_r_number (d := (d + 5)) 0 ((W 0) - 1) _ _ S102 (by omega) (by omega) ⟨?_, ?_, ?_⟩
    · intro cn105 cv105 g105 S105 F105
      have hvr105 := (tk_cut S.1.1).2.2.2 ((i + 1) + 1) (mSt_r S102).1
      show fwWP mX12_readFolk (d + 8) 42 [some (aR 12 0), some (aI (f : Int)), some (aI (19 + (7 * (f : Int)))), none] [aI (cutH gg 16 0 ((i + 1) + 1)), aI ((19 + (7 * (f : Int))) + 0), aR 41 0] g105 Q
      have G105 := mFr_tr F102 F105
      have q108 : qFact (cutH gg 14 0) (cutH gg 16 0) 9 0 ((fwFu W 6 ((f : Int) + 1)) 0 - 1) (19 + (7 * f + 0)) (i + 1) (fwFu W 6 ((f : Int) + 1)) = .inr (((i + 1) + 1) + 1, fwFu (fwFu W (19 + (7 * f + 0)) (cutH gg 16 0 ((i + 1) + 1))) 6 ((f : Int) + 1)) := (by rw [show (fwFu W 6 ((f : Int) + 1)) 0 = W 0 from fwFu_ne (by omega)]; exact q6_t (by omega) (by omega) cn105 cv105)
      refine w_iast dX12_readFolk_42 rfl (by decide) (ix_lo _ (by decide)) (ix_hi hf _ (by decide)) ?_
      rw [show ((19 + (7 * (f : Int))) + 0 : Int).toNat = (19 + (7 * f + 0)) from (ix_nat f 0)]
      have S111 : mSt gg (.inr ((((i + 1) + 1) + 1), fwFu W (19 + (7 * f + 0)) (cutH gg 16 0 ((i + 1) + 1)))) (fwUp g105 41 0 (19 + (7 * f + 0)) (cutH gg 16 0 ((i + 1) + 1))) := mSt_put S105 (19 + (7 * f + 0)) (cutH gg 16 0 ((i + 1) + 1))
      have F111 := mFr_41 G105 (19 + (7 * f + 0)) (cutH gg 16 0 ((i + 1) + 1))
      generalize fwUp g105 41 0 (19 + (7 * f + 0)) (cutH gg 16 0 ((i + 1) + 1)) = g111 at S111 F111 ⊢
      refine w_aload_n dX12_readFolk_43 rfl ?_
      refine w_getr 41 0 dX12_readFolk_44 fl_X12_31 rfl (by decide) ?_
      refine w_iload_n dX12_readFolk_47 rfl ?_
      refine w_iconst dX12_readFolk_48 ?_
      refine w_iadd dX12_readFolk_49 ?_
      refine w_aload_n dX12_readFolk_50 rfl ?_
      refine w_ldcS (n := 16) dX12_readFolk_51 rfl ?_
      refine w_iconst dX12_readFolk_53 ?_
      refine w_bipush dX12_readFolk_54 rfl ?_
      refine w_callV (d := d + 7) (S := [aI ((19 + (7 * (f : Int))) + 1), aR 41 0]) [aR 50 16, aI 1, aI 99] dX12_readFolk_56 ml_X12_160 ok_X12_told vi_X12_told rfl rfl (by decide) rfl (Nat.le_of_ble_eq_true rfl) ?_
      refine c_r_told (d := d) 3 1 99 _ _ S111 (by omega) (by omega) (by omega) ⟨?_, ?_, ?_, ?_⟩
      · intro cw112 cn112 cv112 g112 S112 F112
        have hvr112 := (tk_cut S.1.1).2.2.2 ((((i + 1) + 1) + 1) + 1) (by have := (mSt_r S112).1; omega)
        show fwWP mX12_readFolk (d + 8) 59 [some (aR 12 0), some (aI (f : Int)), some (aI (19 + (7 * (f : Int)))), none] [aI (cutH gg 16 0 ((((i + 1) + 1) + 1) + 1)), aI ((19 + (7 * (f : Int))) + 1), aR 41 0] g112 Q
        have G112 := mFr_tr F111 F112
        have q116 : qFact (cutH gg 14 0) (cutH gg 16 0) 7 1 99 (19 + (7 * f + 1)) (((i + 1) + 1) + 1) (fwFu (fwFu W (19 + (7 * f + 0)) (cutH gg 16 0 ((i + 1) + 1))) 6 ((f : Int) + 1)) = .inr (((((i + 1) + 1) + 1) + 1) + 1, fwFu (fwFu (fwFu W (19 + (7 * f + 0)) (cutH gg 16 0 ((i + 1) + 1))) (19 + (7 * f + 1)) (cutH gg 16 0 ((((i + 1) + 1) + 1) + 1))) 6 ((f : Int) + 1)) := q6_t (by omega) (by omega) cn112 cv112
        refine w_iast dX12_readFolk_59 rfl (by decide) (ix_lo _ (by decide)) (ix_hi hf _ (by decide)) ?_
        rw [show ((19 + (7 * (f : Int))) + 1 : Int).toNat = (19 + (7 * f + 1)) from (ix_nat f 1)]
        have S120 : mSt gg (.inr ((((((i + 1) + 1) + 1) + 1) + 1), fwFu (fwFu W (19 + (7 * f + 0)) (cutH gg 16 0 ((i + 1) + 1))) (19 + (7 * f + 1)) (cutH gg 16 0 ((((i + 1) + 1) + 1) + 1)))) (fwUp g112 41 0 (19 + (7 * f + 1)) (cutH gg 16 0 ((((i + 1) + 1) + 1) + 1))) := mSt_put S112 (19 + (7 * f + 1)) (cutH gg 16 0 ((((i + 1) + 1) + 1) + 1))
        have F120 := mFr_41 G112 (19 + (7 * f + 1)) (cutH gg 16 0 ((((i + 1) + 1) + 1) + 1))
        generalize fwUp g112 41 0 (19 + (7 * f + 1)) (cutH gg 16 0 ((((i + 1) + 1) + 1) + 1)) = g120 at S120 F120 ⊢
        refine w_aload_n dX12_readFolk_60 rfl ?_
        refine w_getr 41 0 dX12_readFolk_61 fl_X12_31 rfl (by decide) ?_
        refine w_iload_n dX12_readFolk_64 rfl ?_
        refine w_iconst dX12_readFolk_65 ?_
        refine w_iadd dX12_readFolk_66 ?_
        refine w_aload_n dX12_readFolk_67 rfl ?_
        refine w_ldcS (n := 19) dX12_readFolk_68 rfl ?_
        refine w_iconst dX12_readFolk_70 ?_
        refine w_bipush dX12_readFolk_71 rfl ?_
        refine w_callV (d := d + 7) (S := [aI ((19 + (7 * (f : Int))) + 2), aR 41 0]) [aR 50 19, aI 0, aI 9] dX12_readFolk_73 ml_X12_160 ok_X12_told vi_X12_told rfl rfl (by decide) rfl (Nat.le_of_ble_eq_true rfl) ?_
        refine c_r_told (d := d) 6 0 9 _ _ S120 (by omega) (by omega) (by omega) ⟨?_, ?_, ?_, ?_⟩
        · intro cw121 cn121 cv121 g121 S121 F121
          have hvr121 := (tk_cut S.1.1).2.2.2 ((((((i + 1) + 1) + 1) + 1) + 1) + 1) (by have := (mSt_r S121).1; omega)
          show fwWP mX12_readFolk (d + 8) 76 [some (aR 12 0), some (aI (f : Int)), some (aI (19 + (7 * (f : Int)))), none] [aI (cutH gg 16 0 ((((((i + 1) + 1) + 1) + 1) + 1) + 1)), aI ((19 + (7 * (f : Int))) + 2), aR 41 0] g121 Q
          have G121 := mFr_tr F120 F121
          have q125 : qFact (cutH gg 14 0) (cutH gg 16 0) 10 0 9 (19 + (7 * f + 2)) (((((i + 1) + 1) + 1) + 1) + 1) (fwFu (fwFu (fwFu W (19 + (7 * f + 0)) (cutH gg 16 0 ((i + 1) + 1))) (19 + (7 * f + 1)) (cutH gg 16 0 ((((i + 1) + 1) + 1) + 1))) 6 ((f : Int) + 1)) = .inr (((((((i + 1) + 1) + 1) + 1) + 1) + 1) + 1, fwFu (fwFu (fwFu (fwFu W (19 + (7 * f + 0)) (cutH gg 16 0 ((i + 1) + 1))) (19 + (7 * f + 1)) (cutH gg 16 0 ((((i + 1) + 1) + 1) + 1))) (19 + (7 * f + 2)) (cutH gg 16 0 ((((((i + 1) + 1) + 1) + 1) + 1) + 1))) 6 ((f : Int) + 1)) := q6_t (by omega) (by omega) cn121 cv121
          refine w_iast dX12_readFolk_76 rfl (by decide) (ix_lo _ (by decide)) (ix_hi hf _ (by decide)) ?_
          rw [show ((19 + (7 * (f : Int))) + 2 : Int).toNat = (19 + (7 * f + 2)) from (ix_nat f 2)]
          have S129 : mSt gg (.inr ((((((((i + 1) + 1) + 1) + 1) + 1) + 1) + 1), fwFu (fwFu (fwFu W (19 + (7 * f + 0)) (cutH gg 16 0 ((i + 1) + 1))) (19 + (7 * f + 1)) (cutH gg 16 0 ((((i + 1) + 1) + 1) + 1))) (19 + (7 * f + 2)) (cutH gg 16 0 ((((((i + 1) + 1) + 1) + 1) + 1) + 1)))) (fwUp g121 41 0 (19 + (7 * f + 2)) (cutH gg 16 0 ((((((i + 1) + 1) + 1) + 1) + 1) + 1))) := mSt_put S121 (19 + (7 * f + 2)) (cutH gg 16 0 ((((((i + 1) + 1) + 1) + 1) + 1) + 1))
          have F129 := mFr_41 G121 (19 + (7 * f + 2)) (cutH gg 16 0 ((((((i + 1) + 1) + 1) + 1) + 1) + 1))
          generalize fwUp g121 41 0 (19 + (7 * f + 2)) (cutH gg 16 0 ((((((i + 1) + 1) + 1) + 1) + 1) + 1)) = g129 at S129 F129 ⊢
          refine w_aload_n dX12_readFolk_77 rfl ?_
          refine w_getr 41 0 dX12_readFolk_78 fl_X12_31 rfl (by decide) ?_
          refine w_iload_n dX12_readFolk_81 rfl ?_
          refine w_iconst dX12_readFolk_82 ?_
          refine w_iadd dX12_readFolk_83 ?_
          refine w_aload_n dX12_readFolk_84 rfl ?_
          refine w_ldcS (n := 14) dX12_readFolk_85 rfl ?_
          refine w_iconst dX12_readFolk_87 ?_
          refine w_bipush dX12_readFolk_88 rfl ?_
          refine w_callV (d := d + 7) (S := [aI ((19 + (7 * (f : Int))) + 3), aR 41 0]) [aR 50 14, aI 0, aI 9] dX12_readFolk_90 ml_X12_160 ok_X12_told vi_X12_told rfl rfl (by decide) rfl (Nat.le_of_ble_eq_true rfl) ?_
          refine c_r_told (d := d) 1 0 9 _ _ S129 (by omega) (by omega) (by omega) ⟨?_, ?_, ?_, ?_⟩
          · intro cw130 cn130 cv130 g130 S130 F130
            have hvr130 := (tk_cut S.1.1).2.2.2 ((((((((i + 1) + 1) + 1) + 1) + 1) + 1) + 1) + 1) (by have := (mSt_r S130).1; omega)
            show fwWP mX12_readFolk (d + 8) 93 [some (aR 12 0), some (aI (f : Int)), some (aI (19 + (7 * (f : Int)))), none] [aI (cutH gg 16 0 ((((((((i + 1) + 1) + 1) + 1) + 1) + 1) + 1) + 1)), aI ((19 + (7 * (f : Int))) + 3), aR 41 0] g130 Q
            have G130 := mFr_tr F129 F130
            have q134 : qFact (cutH gg 14 0) (cutH gg 16 0) 5 0 9 (19 + (7 * f + 3)) (((((((i + 1) + 1) + 1) + 1) + 1) + 1) + 1) (fwFu (fwFu (fwFu (fwFu W (19 + (7 * f + 0)) (cutH gg 16 0 ((i + 1) + 1))) (19 + (7 * f + 1)) (cutH gg 16 0 ((((i + 1) + 1) + 1) + 1))) (19 + (7 * f + 2)) (cutH gg 16 0 ((((((i + 1) + 1) + 1) + 1) + 1) + 1))) 6 ((f : Int) + 1)) = .inr (((((((((i + 1) + 1) + 1) + 1) + 1) + 1) + 1) + 1) + 1, fwFu (fwFu (fwFu (fwFu (fwFu W (19 + (7 * f + 0)) (cutH gg 16 0 ((i + 1) + 1))) (19 + (7 * f + 1)) (cutH gg 16 0 ((((i + 1) + 1) + 1) + 1))) (19 + (7 * f + 2)) (cutH gg 16 0 ((((((i + 1) + 1) + 1) + 1) + 1) + 1))) (19 + (7 * f + 3)) (cutH gg 16 0 ((((((((i + 1) + 1) + 1) + 1) + 1) + 1) + 1) + 1))) 6 ((f : Int) + 1)) := q6_t (by omega) (by omega) cn130 cv130
            refine w_iast dX12_readFolk_93 rfl (by decide) (ix_lo _ (by decide)) (ix_hi hf _ (by decide)) ?_
            rw [show ((19 + (7 * (f : Int))) + 3 : Int).toNat = (19 + (7 * f + 3)) from (ix_nat f 3)]
            have S138 : mSt gg (.inr ((((((((((i + 1) + 1) + 1) + 1) + 1) + 1) + 1) + 1) + 1), fwFu (fwFu (fwFu (fwFu W (19 + (7 * f + 0)) (cutH gg 16 0 ((i + 1) + 1))) (19 + (7 * f + 1)) (cutH gg 16 0 ((((i + 1) + 1) + 1) + 1))) (19 + (7 * f + 2)) (cutH gg 16 0 ((((((i + 1) + 1) + 1) + 1) + 1) + 1))) (19 + (7 * f + 3)) (cutH gg 16 0 ((((((((i + 1) + 1) + 1) + 1) + 1) + 1) + 1) + 1)))) (fwUp g130 41 0 (19 + (7 * f + 3)) (cutH gg 16 0 ((((((((i + 1) + 1) + 1) + 1) + 1) + 1) + 1) + 1))) := mSt_put S130 (19 + (7 * f + 3)) (cutH gg 16 0 ((((((((i + 1) + 1) + 1) + 1) + 1) + 1) + 1) + 1))
            have F138 := mFr_41 G130 (19 + (7 * f + 3)) (cutH gg 16 0 ((((((((i + 1) + 1) + 1) + 1) + 1) + 1) + 1) + 1))
            generalize fwUp g130 41 0 (19 + (7 * f + 3)) (cutH gg 16 0 ((((((((i + 1) + 1) + 1) + 1) + 1) + 1) + 1) + 1)) = g138 at S138 F138 ⊢
            refine w_aload_n dX12_readFolk_94 rfl ?_
            refine w_getr 41 0 dX12_readFolk_95 fl_X12_31 rfl (by decide) ?_
            refine w_iload_n dX12_readFolk_98 rfl ?_
            refine w_iconst dX12_readFolk_99 ?_
            refine w_iadd dX12_readFolk_100 ?_
            refine w_aload_n dX12_readFolk_101 rfl ?_
            refine w_ldcS (n := 20) dX12_readFolk_102 rfl ?_
            refine w_iconst dX12_readFolk_104 ?_
            refine w_bipush dX12_readFolk_105 rfl ?_
            refine w_callV (d := d + 7) (S := [aI ((19 + (7 * (f : Int))) + 4), aR 41 0]) [aR 50 20, aI 0, aI 9] dX12_readFolk_107 ml_X12_160 ok_X12_told vi_X12_told rfl rfl (by decide) rfl (Nat.le_of_ble_eq_true rfl) ?_
            refine c_r_told (d := d) 7 0 9 _ _ S138 (by omega) (by omega) (by omega) ⟨?_, ?_, ?_, ?_⟩
            · intro cw139 cn139 cv139 g139 S139 F139
              have hvr139 := (tk_cut S.1.1).2.2.2 ((((((((((i + 1) + 1) + 1) + 1) + 1) + 1) + 1) + 1) + 1) + 1) (by have := (mSt_r S139).1; omega)
              show fwWP mX12_readFolk (d + 8) 110 [some (aR 12 0), some (aI (f : Int)), some (aI (19 + (7 * (f : Int)))), none] [aI (cutH gg 16 0 ((((((((((i + 1) + 1) + 1) + 1) + 1) + 1) + 1) + 1) + 1) + 1)), aI ((19 + (7 * (f : Int))) + 4), aR 41 0] g139 Q
              have G139 := mFr_tr F138 F139
              have q143 : qFact (cutH gg 14 0) (cutH gg 16 0) 11 0 9 (19 + (7 * f + 4)) (((((((((i + 1) + 1) + 1) + 1) + 1) + 1) + 1) + 1) + 1) (fwFu (fwFu (fwFu (fwFu (fwFu W (19 + (7 * f + 0)) (cutH gg 16 0 ((i + 1) + 1))) (19 + (7 * f + 1)) (cutH gg 16 0 ((((i + 1) + 1) + 1) + 1))) (19 + (7 * f + 2)) (cutH gg 16 0 ((((((i + 1) + 1) + 1) + 1) + 1) + 1))) (19 + (7 * f + 3)) (cutH gg 16 0 ((((((((i + 1) + 1) + 1) + 1) + 1) + 1) + 1) + 1))) 6 ((f : Int) + 1)) = .inr (((((((((((i + 1) + 1) + 1) + 1) + 1) + 1) + 1) + 1) + 1) + 1) + 1, fwFu (fwFu (fwFu (fwFu (fwFu (fwFu W (19 + (7 * f + 0)) (cutH gg 16 0 ((i + 1) + 1))) (19 + (7 * f + 1)) (cutH gg 16 0 ((((i + 1) + 1) + 1) + 1))) (19 + (7 * f + 2)) (cutH gg 16 0 ((((((i + 1) + 1) + 1) + 1) + 1) + 1))) (19 + (7 * f + 3)) (cutH gg 16 0 ((((((((i + 1) + 1) + 1) + 1) + 1) + 1) + 1) + 1))) (19 + (7 * f + 4)) (cutH gg 16 0 ((((((((((i + 1) + 1) + 1) + 1) + 1) + 1) + 1) + 1) + 1) + 1))) 6 ((f : Int) + 1)) := q6_t (by omega) (by omega) cn139 cv139
              refine w_iast dX12_readFolk_110 rfl (by decide) (ix_lo _ (by decide)) (ix_hi hf _ (by decide)) ?_
              rw [show ((19 + (7 * (f : Int))) + 4 : Int).toNat = (19 + (7 * f + 4)) from (ix_nat f 4)]
              have S147 : mSt gg (.inr ((((((((((((i + 1) + 1) + 1) + 1) + 1) + 1) + 1) + 1) + 1) + 1) + 1), fwFu (fwFu (fwFu (fwFu (fwFu W (19 + (7 * f + 0)) (cutH gg 16 0 ((i + 1) + 1))) (19 + (7 * f + 1)) (cutH gg 16 0 ((((i + 1) + 1) + 1) + 1))) (19 + (7 * f + 2)) (cutH gg 16 0 ((((((i + 1) + 1) + 1) + 1) + 1) + 1))) (19 + (7 * f + 3)) (cutH gg 16 0 ((((((((i + 1) + 1) + 1) + 1) + 1) + 1) + 1) + 1))) (19 + (7 * f + 4)) (cutH gg 16 0 ((((((((((i + 1) + 1) + 1) + 1) + 1) + 1) + 1) + 1) + 1) + 1)))) (fwUp g139 41 0 (19 + (7 * f + 4)) (cutH gg 16 0 ((((((((((i + 1) + 1) + 1) + 1) + 1) + 1) + 1) + 1) + 1) + 1))) := mSt_put S139 (19 + (7 * f + 4)) (cutH gg 16 0 ((((((((((i + 1) + 1) + 1) + 1) + 1) + 1) + 1) + 1) + 1) + 1))
              have F147 := mFr_41 G139 (19 + (7 * f + 4)) (cutH gg 16 0 ((((((((((i + 1) + 1) + 1) + 1) + 1) + 1) + 1) + 1) + 1) + 1))
              generalize fwUp g139 41 0 (19 + (7 * f + 4)) (cutH gg 16 0 ((((((((((i + 1) + 1) + 1) + 1) + 1) + 1) + 1) + 1) + 1) + 1)) = g147 at S147 F147 ⊢
              refine w_aload_n dX12_readFolk_111 rfl ?_
              refine w_getr 41 0 dX12_readFolk_112 fl_X12_31 rfl (by decide) ?_
              refine w_iload_n dX12_readFolk_115 rfl ?_
              refine w_iconst dX12_readFolk_116 ?_
              refine w_iadd dX12_readFolk_117 ?_
              refine w_iconst dX12_readFolk_118 ?_
              refine w_iast dX12_readFolk_119 rfl (by decide) (ix_lo _ (by decide)) (ix_hi hf _ (by decide)) ?_
              rw [show ((19 + (7 * (f : Int))) + 5 : Int).toNat = (19 + (7 * f + 5)) from (ix_nat f 5)]
              have z148 : (fwFu (fwFu (fwFu (fwFu (fwFu W (19 + (7 * f + 0)) (cutH gg 16 0 ((i + 1) + 1))) (19 + (7 * f + 1)) (cutH gg 16 0 ((((i + 1) + 1) + 1) + 1))) (19 + (7 * f + 2)) (cutH gg 16 0 ((((((i + 1) + 1) + 1) + 1) + 1) + 1))) (19 + (7 * f + 3)) (cutH gg 16 0 ((((((((i + 1) + 1) + 1) + 1) + 1) + 1) + 1) + 1))) (19 + (7 * f + 4)) (cutH gg 16 0 ((((((((((i + 1) + 1) + 1) + 1) + 1) + 1) + 1) + 1) + 1) + 1))) (19 + (7 * f + 5)) = 0 := ((fwFu_ne (by omega)).trans ((fwFu_ne (by omega)).trans ((fwFu_ne (by omega)).trans ((fwFu_ne (by omega)).trans ((fwFu_ne (by omega)).trans (hz5))))))
              have S148 : mSt gg (.inr ((((((((((((i + 1) + 1) + 1) + 1) + 1) + 1) + 1) + 1) + 1) + 1) + 1), (fwFu (fwFu (fwFu (fwFu (fwFu W (19 + (7 * f + 0)) (cutH gg 16 0 ((i + 1) + 1))) (19 + (7 * f + 1)) (cutH gg 16 0 ((((i + 1) + 1) + 1) + 1))) (19 + (7 * f + 2)) (cutH gg 16 0 ((((((i + 1) + 1) + 1) + 1) + 1) + 1))) (19 + (7 * f + 3)) (cutH gg 16 0 ((((((((i + 1) + 1) + 1) + 1) + 1) + 1) + 1) + 1))) (19 + (7 * f + 4)) (cutH gg 16 0 ((((((((((i + 1) + 1) + 1) + 1) + 1) + 1) + 1) + 1) + 1) + 1))))) (fwUp g147 41 0 (19 + (7 * f + 5)) 0) := mSt_eq (mSt_put S147 (19 + (7 * f + 5)) 0) (by rw [qPut]; show Sum.inr (_, (fwFu (fwFu (fwFu (fwFu (fwFu W (19 + (7 * f + 0)) (cutH gg 16 0 ((i + 1) + 1))) (19 + (7 * f + 1)) (cutH gg 16 0 ((((i + 1) + 1) + 1) + 1))) (19 + (7 * f + 2)) (cutH gg 16 0 ((((((i + 1) + 1) + 1) + 1) + 1) + 1))) (19 + (7 * f + 3)) (cutH gg 16 0 ((((((((i + 1) + 1) + 1) + 1) + 1) + 1) + 1) + 1))) (19 + (7 * f + 4)) (cutH gg 16 0 ((((((((((i + 1) + 1) + 1) + 1) + 1) + 1) + 1) + 1) + 1) + 1)))) = Sum.inr (_, fwFu (fwFu (fwFu (fwFu (fwFu (fwFu W (19 + (7 * f + 0)) (cutH gg 16 0 ((i + 1) + 1))) (19 + (7 * f + 1)) (cutH gg 16 0 ((((i + 1) + 1) + 1) + 1))) (19 + (7 * f + 2)) (cutH gg 16 0 ((((((i + 1) + 1) + 1) + 1) + 1) + 1))) (19 + (7 * f + 3)) (cutH gg 16 0 ((((((((i + 1) + 1) + 1) + 1) + 1) + 1) + 1) + 1))) (19 + (7 * f + 4)) (cutH gg 16 0 ((((((((((i + 1) + 1) + 1) + 1) + 1) + 1) + 1) + 1) + 1) + 1))) (19 + (7 * f + 5)) 0); rw [fwFu_id (g := (fwFu (fwFu (fwFu (fwFu (fwFu W (19 + (7 * f + 0)) (cutH gg 16 0 ((i + 1) + 1))) (19 + (7 * f + 1)) (cutH gg 16 0 ((((i + 1) + 1) + 1) + 1))) (19 + (7 * f + 2)) (cutH gg 16 0 ((((((i + 1) + 1) + 1) + 1) + 1) + 1))) (19 + (7 * f + 3)) (cutH gg 16 0 ((((((((i + 1) + 1) + 1) + 1) + 1) + 1) + 1) + 1))) (19 + (7 * f + 4)) (cutH gg 16 0 ((((((((((i + 1) + 1) + 1) + 1) + 1) + 1) + 1) + 1) + 1) + 1)))) (j := (19 + (7 * f + 5))) (x := 0) z148])
              have F148 := mFr_41 F147 (19 + (7 * f + 5)) 0
              generalize fwUp g147 41 0 (19 + (7 * f + 5)) 0 = g148 at S148 F148 ⊢
              refine w_aload_n dX12_readFolk_120 rfl ?_
              refine w_getr 41 0 dX12_readFolk_121 fl_X12_31 rfl (by decide) ?_
              refine w_iload_n dX12_readFolk_124 rfl ?_
              refine w_bipush dX12_readFolk_125 rfl ?_
              refine w_iadd dX12_readFolk_127 ?_
              refine w_iconst dX12_readFolk_128 ?_
              refine w_iast dX12_readFolk_129 rfl (by decide) (ix_lo _ (by decide)) (ix_hi hf _ (by decide)) ?_
              rw [show ((19 + (7 * (f : Int))) + 6 : Int).toNat = (19 + (7 * f + 6)) from (ix_nat f 6)]
              have z149 : (fwFu (fwFu (fwFu (fwFu (fwFu W (19 + (7 * f + 0)) (cutH gg 16 0 ((i + 1) + 1))) (19 + (7 * f + 1)) (cutH gg 16 0 ((((i + 1) + 1) + 1) + 1))) (19 + (7 * f + 2)) (cutH gg 16 0 ((((((i + 1) + 1) + 1) + 1) + 1) + 1))) (19 + (7 * f + 3)) (cutH gg 16 0 ((((((((i + 1) + 1) + 1) + 1) + 1) + 1) + 1) + 1))) (19 + (7 * f + 4)) (cutH gg 16 0 ((((((((((i + 1) + 1) + 1) + 1) + 1) + 1) + 1) + 1) + 1) + 1))) (19 + (7 * f + 6)) = 0 := ((fwFu_ne (by omega)).trans ((fwFu_ne (by omega)).trans ((fwFu_ne (by omega)).trans ((fwFu_ne (by omega)).trans ((fwFu_ne (by omega)).trans (hz6))))))
              have S149 : mSt gg (.inr ((((((((((((i + 1) + 1) + 1) + 1) + 1) + 1) + 1) + 1) + 1) + 1) + 1), (fwFu (fwFu (fwFu (fwFu (fwFu W (19 + (7 * f + 0)) (cutH gg 16 0 ((i + 1) + 1))) (19 + (7 * f + 1)) (cutH gg 16 0 ((((i + 1) + 1) + 1) + 1))) (19 + (7 * f + 2)) (cutH gg 16 0 ((((((i + 1) + 1) + 1) + 1) + 1) + 1))) (19 + (7 * f + 3)) (cutH gg 16 0 ((((((((i + 1) + 1) + 1) + 1) + 1) + 1) + 1) + 1))) (19 + (7 * f + 4)) (cutH gg 16 0 ((((((((((i + 1) + 1) + 1) + 1) + 1) + 1) + 1) + 1) + 1) + 1))))) (fwUp g148 41 0 (19 + (7 * f + 6)) 0) := mSt_eq (mSt_put S148 (19 + (7 * f + 6)) 0) (by rw [qPut]; show Sum.inr (_, (fwFu (fwFu (fwFu (fwFu (fwFu W (19 + (7 * f + 0)) (cutH gg 16 0 ((i + 1) + 1))) (19 + (7 * f + 1)) (cutH gg 16 0 ((((i + 1) + 1) + 1) + 1))) (19 + (7 * f + 2)) (cutH gg 16 0 ((((((i + 1) + 1) + 1) + 1) + 1) + 1))) (19 + (7 * f + 3)) (cutH gg 16 0 ((((((((i + 1) + 1) + 1) + 1) + 1) + 1) + 1) + 1))) (19 + (7 * f + 4)) (cutH gg 16 0 ((((((((((i + 1) + 1) + 1) + 1) + 1) + 1) + 1) + 1) + 1) + 1)))) = Sum.inr (_, fwFu (fwFu (fwFu (fwFu (fwFu (fwFu W (19 + (7 * f + 0)) (cutH gg 16 0 ((i + 1) + 1))) (19 + (7 * f + 1)) (cutH gg 16 0 ((((i + 1) + 1) + 1) + 1))) (19 + (7 * f + 2)) (cutH gg 16 0 ((((((i + 1) + 1) + 1) + 1) + 1) + 1))) (19 + (7 * f + 3)) (cutH gg 16 0 ((((((((i + 1) + 1) + 1) + 1) + 1) + 1) + 1) + 1))) (19 + (7 * f + 4)) (cutH gg 16 0 ((((((((((i + 1) + 1) + 1) + 1) + 1) + 1) + 1) + 1) + 1) + 1))) (19 + (7 * f + 6)) 0); rw [fwFu_id (g := (fwFu (fwFu (fwFu (fwFu (fwFu W (19 + (7 * f + 0)) (cutH gg 16 0 ((i + 1) + 1))) (19 + (7 * f + 1)) (cutH gg 16 0 ((((i + 1) + 1) + 1) + 1))) (19 + (7 * f + 2)) (cutH gg 16 0 ((((((i + 1) + 1) + 1) + 1) + 1) + 1))) (19 + (7 * f + 3)) (cutH gg 16 0 ((((((((i + 1) + 1) + 1) + 1) + 1) + 1) + 1) + 1))) (19 + (7 * f + 4)) (cutH gg 16 0 ((((((((((i + 1) + 1) + 1) + 1) + 1) + 1) + 1) + 1) + 1) + 1)))) (j := (19 + (7 * f + 6))) (x := 0) z149])
              have F149 := mFr_41 F148 (19 + (7 * f + 6)) 0
              generalize fwUp g148 41 0 (19 + (7 * f + 6)) 0 = g149 at S149 F149 ⊢
              refine w_aload_n dX12_readFolk_130 rfl ?_
              refine w_ldcS (n := 21) dX12_readFolk_131 rfl ?_
              refine w_callV (d := d + 7) (S := []) [aR 50 21] dX12_readFolk_133 ml_X12_140 ok_X12_takes vi_X12_takes rfl rfl (by decide) rfl (Nat.le_of_ble_eq_true rfl) ?_
              refine c_r_takes (d := (d + 2)) 8 _ _ S149 (by omega) ⟨?_, ?_⟩
              · intro cw150 g150 S150 F150
                show fwWP mX12_readFolk (d + 8) 136 [some (aR 12 0), some (aI (f : Int)), some (aI (19 + (7 * (f : Int)))), none] [aI 1] g150 Q
                have G150 := mFr_tr F149 F150
                have q151 : (cutH gg 14 0) (((((((((((i + 1) + 1) + 1) + 1) + 1) + 1) + 1) + 1) + 1) + 1) + 1) = 12 := by omega
                refine w_if_eq 221 dX12_readFolk_136 (by decide) (by omega) (fun c136 => ?_) (fun c136 => ?_)
                · (exfalso; omega)
                · refine w_aload_n dX12_readFolk_139 rfl ?_
                  refine w_getr 41 0 dX12_readFolk_140 fl_X12_31 rfl (by decide) ?_
                  refine w_iload_n dX12_readFolk_143 rfl ?_
                  refine w_iconst dX12_readFolk_144 ?_
                  refine w_iadd dX12_readFolk_145 ?_
                  refine w_aload_n dX12_readFolk_146 rfl ?_
                  refine w_iconst dX12_readFolk_147 ?_
                  refine w_bipush dX12_readFolk_148 rfl ?_
                  refine w_callV (d := d + 7) (S := [aI ((19 + (7 * (f : Int))) + 5), aR 41 0]) [aI 1, aI 7] dX12_readFolk_150 ml_X12_151 ok_X12_number vi_X12_number rfl rfl (by decide) rfl (Nat.le_of_ble_eq_true rfl) ?_
                  refine c_r_number (d := (d + 5)) 1 7 _ _ S150 (by omega) (by omega) ⟨?_, ?_, ?_⟩
                  · intro cn152 cv152 g152 S152 F152
                    have hvr152 := (tk_cut S.1.1).2.2.2 ((((((((((((i + 1) + 1) + 1) + 1) + 1) + 1) + 1) + 1) + 1) + 1) + 1) + 1) (mSt_r S150).1
                    show fwWP mX12_readFolk (d + 8) 153 [some (aR 12 0), some (aI (f : Int)), some (aI (19 + (7 * (f : Int)))), none] [aI (cutH gg 16 0 ((((((((((((i + 1) + 1) + 1) + 1) + 1) + 1) + 1) + 1) + 1) + 1) + 1) + 1)), aI ((19 + (7 * (f : Int))) + 5), aR 41 0] g152 Q
                    have G152 := mFr_tr G150 F152
                    have q155 : qFact (cutH gg 14 0) (cutH gg 16 0) 12 1 7 (19 + (7 * f + 5)) (((((((((((i + 1) + 1) + 1) + 1) + 1) + 1) + 1) + 1) + 1) + 1) + 1) (fwFu (fwFu (fwFu (fwFu (fwFu (fwFu W (19 + (7 * f + 0)) (cutH gg 16 0 ((i + 1) + 1))) (19 + (7 * f + 1)) (cutH gg 16 0 ((((i + 1) + 1) + 1) + 1))) (19 + (7 * f + 2)) (cutH gg 16 0 ((((((i + 1) + 1) + 1) + 1) + 1) + 1))) (19 + (7 * f + 3)) (cutH gg 16 0 ((((((((i + 1) + 1) + 1) + 1) + 1) + 1) + 1) + 1))) (19 + (7 * f + 4)) (cutH gg 16 0 ((((((((((i + 1) + 1) + 1) + 1) + 1) + 1) + 1) + 1) + 1) + 1))) 6 ((f : Int) + 1)) = .inr (((((((((((((i + 1) + 1) + 1) + 1) + 1) + 1) + 1) + 1) + 1) + 1) + 1) + 1) + 1, fwFu (fwFu (fwFu (fwFu (fwFu (fwFu (fwFu W (19 + (7 * f + 0)) (cutH gg 16 0 ((i + 1) + 1))) (19 + (7 * f + 1)) (cutH gg 16 0 ((((i + 1) + 1) + 1) + 1))) (19 + (7 * f + 2)) (cutH gg 16 0 ((((((i + 1) + 1) + 1) + 1) + 1) + 1))) (19 + (7 * f + 3)) (cutH gg 16 0 ((((((((i + 1) + 1) + 1) + 1) + 1) + 1) + 1) + 1))) (19 + (7 * f + 4)) (cutH gg 16 0 ((((((((((i + 1) + 1) + 1) + 1) + 1) + 1) + 1) + 1) + 1) + 1))) (19 + (7 * f + 5)) (cutH gg 16 0 ((((((((((((i + 1) + 1) + 1) + 1) + 1) + 1) + 1) + 1) + 1) + 1) + 1) + 1))) 6 ((f : Int) + 1)) := (by exact q6_t (by omega) (by omega) cn152 cv152)
                    refine w_iast dX12_readFolk_153 rfl (by decide) (ix_lo _ (by decide)) (ix_hi hf _ (by decide)) ?_
                    rw [show ((19 + (7 * (f : Int))) + 5 : Int).toNat = (19 + (7 * f + 5)) from (ix_nat f 5)]
                    have S158 : mSt gg (.inr ((((((((((((((i + 1) + 1) + 1) + 1) + 1) + 1) + 1) + 1) + 1) + 1) + 1) + 1) + 1), fwFu (fwFu (fwFu (fwFu (fwFu (fwFu W (19 + (7 * f + 0)) (cutH gg 16 0 ((i + 1) + 1))) (19 + (7 * f + 1)) (cutH gg 16 0 ((((i + 1) + 1) + 1) + 1))) (19 + (7 * f + 2)) (cutH gg 16 0 ((((((i + 1) + 1) + 1) + 1) + 1) + 1))) (19 + (7 * f + 3)) (cutH gg 16 0 ((((((((i + 1) + 1) + 1) + 1) + 1) + 1) + 1) + 1))) (19 + (7 * f + 4)) (cutH gg 16 0 ((((((((((i + 1) + 1) + 1) + 1) + 1) + 1) + 1) + 1) + 1) + 1))) (19 + (7 * f + 5)) (cutH gg 16 0 ((((((((((((i + 1) + 1) + 1) + 1) + 1) + 1) + 1) + 1) + 1) + 1) + 1) + 1)))) (fwUp g152 41 0 (19 + (7 * f + 5)) (cutH gg 16 0 ((((((((((((i + 1) + 1) + 1) + 1) + 1) + 1) + 1) + 1) + 1) + 1) + 1) + 1))) := mSt_put S152 (19 + (7 * f + 5)) (cutH gg 16 0 ((((((((((((i + 1) + 1) + 1) + 1) + 1) + 1) + 1) + 1) + 1) + 1) + 1) + 1))
                    have F158 := mFr_41 G152 (19 + (7 * f + 5)) (cutH gg 16 0 ((((((((((((i + 1) + 1) + 1) + 1) + 1) + 1) + 1) + 1) + 1) + 1) + 1) + 1))
                    generalize fwUp g152 41 0 (19 + (7 * f + 5)) (cutH gg 16 0 ((((((((((((i + 1) + 1) + 1) + 1) + 1) + 1) + 1) + 1) + 1) + 1) + 1) + 1)) = g158 at S158 F158 ⊢
                    refine w_aload_n dX12_readFolk_154 rfl ?_
                    refine w_ldcS (n := 22) dX12_readFolk_155 rfl ?_
                    refine w_callV (d := d + 7) (S := []) [aR 50 22] dX12_readFolk_157 ml_X12_147 ok_X12_needs vi_X12_needs rfl rfl (by decide) rfl (Nat.le_of_ble_eq_true rfl) ?_
                    refine c_r_needs (d := (d + 1)) 9 _ _ S158 (by omega) ⟨?_, ?_⟩
                    · intro cw159 g159 S159 F159
                      show fwWP mX12_readFolk (d + 8) 160 [some (aR 12 0), some (aI (f : Int)), some (aI (19 + (7 * (f : Int)))), none] [] g159 Q
                      have G159 := mFr_tr F158 F159
                      have q161 : qWord (cutH gg 14 0) 13 (((((((((((((i + 1) + 1) + 1) + 1) + 1) + 1) + 1) + 1) + 1) + 1) + 1) + 1) + 1) (fwFu (fwFu (fwFu (fwFu (fwFu (fwFu (fwFu W (19 + (7 * f + 0)) (cutH gg 16 0 ((i + 1) + 1))) (19 + (7 * f + 1)) (cutH gg 16 0 ((((i + 1) + 1) + 1) + 1))) (19 + (7 * f + 2)) (cutH gg 16 0 ((((((i + 1) + 1) + 1) + 1) + 1) + 1))) (19 + (7 * f + 3)) (cutH gg 16 0 ((((((((i + 1) + 1) + 1) + 1) + 1) + 1) + 1) + 1))) (19 + (7 * f + 4)) (cutH gg 16 0 ((((((((((i + 1) + 1) + 1) + 1) + 1) + 1) + 1) + 1) + 1) + 1))) (19 + (7 * f + 5)) (cutH gg 16 0 ((((((((((((i + 1) + 1) + 1) + 1) + 1) + 1) + 1) + 1) + 1) + 1) + 1) + 1))) 6 ((f : Int) + 1)) = .inr ((((((((((((((i + 1) + 1) + 1) + 1) + 1) + 1) + 1) + 1) + 1) + 1) + 1) + 1) + 1) + 1, (fwFu (fwFu (fwFu (fwFu (fwFu (fwFu (fwFu W (19 + (7 * f + 0)) (cutH gg 16 0 ((i + 1) + 1))) (19 + (7 * f + 1)) (cutH gg 16 0 ((((i + 1) + 1) + 1) + 1))) (19 + (7 * f + 2)) (cutH gg 16 0 ((((((i + 1) + 1) + 1) + 1) + 1) + 1))) (19 + (7 * f + 3)) (cutH gg 16 0 ((((((((i + 1) + 1) + 1) + 1) + 1) + 1) + 1) + 1))) (19 + (7 * f + 4)) (cutH gg 16 0 ((((((((((i + 1) + 1) + 1) + 1) + 1) + 1) + 1) + 1) + 1) + 1))) (19 + (7 * f + 5)) (cutH gg 16 0 ((((((((((((i + 1) + 1) + 1) + 1) + 1) + 1) + 1) + 1) + 1) + 1) + 1) + 1))) 6 ((f : Int) + 1))) := qWord_t (by omega)
                      exact lp_readFolk f i W S hf ((((((((((((((i + 1) + 1) + 1) + 1) + 1) + 1) + 1) + 1) + 1) + 1) + 1) + 1) + 1) + 1) k 0 (by omega) _ _ S159 G159 ((fwFu_ne (by omega)).trans ((fwFu_ne (by omega)).trans ((fwFu_ne (by omega)).trans ((fwFu_ne (by omega)).trans ((fwFu_ne (by omega)).trans ((fwFu_ne (by omega)).trans (h6))))))) (by rw [qFolk, if_neg (show ¬ 8 ≤ f by omega), qThen_r q0, qThen_r q108, qThen_r q116, qThen_r q125, qThen_r q134, qThen_r q143, if_pos q151, qTalk, qThen_r q155, qThen_r q161]; rfl)
                    · intro cw159 g160 S160 F160
                      show fwWP mX12_readFolk (d + 8) 160 [some (aR 12 0), some (aI (f : Int)), some (aI (19 + (7 * (f : Int)))), none] [] g160 Q
                      have G160 := mFr_tr F158 F160
                      have q162 : qWord (cutH gg 14 0) 13 (((((((((((((i + 1) + 1) + 1) + 1) + 1) + 1) + 1) + 1) + 1) + 1) + 1) + 1) + 1) (fwFu (fwFu (fwFu (fwFu (fwFu (fwFu (fwFu W (19 + (7 * f + 0)) (cutH gg 16 0 ((i + 1) + 1))) (19 + (7 * f + 1)) (cutH gg 16 0 ((((i + 1) + 1) + 1) + 1))) (19 + (7 * f + 2)) (cutH gg 16 0 ((((((i + 1) + 1) + 1) + 1) + 1) + 1))) (19 + (7 * f + 3)) (cutH gg 16 0 ((((((((i + 1) + 1) + 1) + 1) + 1) + 1) + 1) + 1))) (19 + (7 * f + 4)) (cutH gg 16 0 ((((((((((i + 1) + 1) + 1) + 1) + 1) + 1) + 1) + 1) + 1) + 1))) (19 + (7 * f + 5)) (cutH gg 16 0 ((((((((((((i + 1) + 1) + 1) + 1) + 1) + 1) + 1) + 1) + 1) + 1) + 1) + 1))) 6 ((f : Int) + 1)) = .inl (1, (((((((((((((i + 1) + 1) + 1) + 1) + 1) + 1) + 1) + 1) + 1) + 1) + 1) + 1) + 1)) := qWord_f (by omega)
                      refine w_aload_n dX12_readFolk_160 rfl ?_
                      refine w_iconst dX12_readFolk_161 ?_
                      refine w_iload_n dX12_readFolk_162 rfl ?_
                      refine w_iconst dX12_readFolk_163 ?_
                      refine w_isub dX12_readFolk_164 ?_
                      refine w_callV (d := d + 7) (S := []) [aI 0, aI ((f : Int) - 1)] dX12_readFolk_165 ml_X12_151 ok_X12_number vi_X12_number rfl rfl (by decide) rfl (Nat.le_of_ble_eq_true rfl) ?_
                      refine c_f_number (d := (d + 5)) 0 ((f : Int) - 1) _ S160 ?_
                      show fwWP mX12_readFolk (d + 8) 168 [some (aR 12 0), some (aI (f : Int)), some (aI (19 + (7 * (f : Int)))), none] [aI 0] g160 Q
                      refine w_istore_n [some (aR 12 0), some (aI (f : Int)), some (aI (19 + (7 * (f : Int)))), some (aI 0)] dX12_readFolk_168 rfl (by decide) ?_
                      refine w_aload_n dX12_readFolk_169 rfl ?_
                      refine w_callV (d := d + 7) (S := []) [] dX12_readFolk_170 ml_X12_121 ok_X12_good vi_X12_good rfl rfl (by decide) rfl (Nat.le_of_ble_eq_true rfl) ?_
                      refine c_f_good (d := (d + 7)) _ S160 ?_
                      show fwWP mX12_readFolk (d + 8) 173 [some (aR 12 0), some (aI (f : Int)), some (aI (19 + (7 * (f : Int)))), some (aI 0)] [aI 0] g160 Q
                      refine w_if_ne 177 dX12_readFolk_173 (by decide) (by omega) (fun c173 => ?_) (fun c173 => ?_)
                      · (exfalso; omega)
                      · exact w_vret dX12_readFolk_176 rfl (k _ _ S160 G160 (by rw [qFolk, if_neg (show ¬ 8 ≤ f by omega), qThen_r q0, qThen_r q108, qThen_r q116, qThen_r q125, qThen_r q134, qThen_r q143, if_pos q151, qTalk, qThen_r q155, qThen_l q162]))
                  · intro cn152 cv152 g153 S153 F153
                    show fwWP mX12_readFolk (d + 8) 153 [some (aR 12 0), some (aI (f : Int)), some (aI (19 + (7 * (f : Int)))), none] [aI 0, aI ((19 + (7 * (f : Int))) + 5), aR 41 0] g153 Q
                    have G153 := mFr_tr G150 F153
                    have q156 : qFact (cutH gg 14 0) (cutH gg 16 0) 12 1 7 (19 + (7 * f + 5)) (((((((((((i + 1) + 1) + 1) + 1) + 1) + 1) + 1) + 1) + 1) + 1) + 1) (fwFu (fwFu (fwFu (fwFu (fwFu (fwFu W (19 + (7 * f + 0)) (cutH gg 16 0 ((i + 1) + 1))) (19 + (7 * f + 1)) (cutH gg 16 0 ((((i + 1) + 1) + 1) + 1))) (19 + (7 * f + 2)) (cutH gg 16 0 ((((((i + 1) + 1) + 1) + 1) + 1) + 1))) (19 + (7 * f + 3)) (cutH gg 16 0 ((((((((i + 1) + 1) + 1) + 1) + 1) + 1) + 1) + 1))) (19 + (7 * f + 4)) (cutH gg 16 0 ((((((((((i + 1) + 1) + 1) + 1) + 1) + 1) + 1) + 1) + 1) + 1))) 6 ((f : Int) + 1)) = .inl (2, ((((((((((((i + 1) + 1) + 1) + 1) + 1) + 1) + 1) + 1) + 1) + 1) + 1) + 1)) := (by exact qFact_2 (by omega) cn152 cv152)
                    refine w_iast dX12_readFolk_153 rfl (by decide) (ix_lo _ (by decide)) (ix_hi hf _ (by decide)) ?_
                    rw [show ((19 + (7 * (f : Int))) + 5 : Int).toNat = (19 + (7 * f + 5)) from (ix_nat f 5)]
                    have S169 : mSt gg (.inl ((2 : Int), ((((((((((((i + 1) + 1) + 1) + 1) + 1) + 1) + 1) + 1) + 1) + 1) + 1) + 1))) (fwUp g153 41 0 (19 + (7 * f + 5)) 0) := mSt_put S153 (19 + (7 * f + 5)) 0
                    have F169 := mFr_41 G153 (19 + (7 * f + 5)) 0
                    generalize fwUp g153 41 0 (19 + (7 * f + 5)) 0 = g169 at S169 F169 ⊢
                    exact f_readFolk_154 f hf _ S169 F169 (fun g9 S9 F9 => k _ _ S9 F9 (by rw [qFolk, if_neg (show ¬ 8 ≤ f by omega), qThen_r q0, qThen_r q108, qThen_r q116, qThen_r q125, qThen_r q134, qThen_r q143, if_pos q151, qTalk, qThen_l q156]))
                  · intro cn152 g154 S154 F154
                    show fwWP mX12_readFolk (d + 8) 153 [some (aR 12 0), some (aI (f : Int)), some (aI (19 + (7 * (f : Int)))), none] [aI 0, aI ((19 + (7 * (f : Int))) + 5), aR 41 0] g154 Q
                    have G154 := mFr_tr G150 F154
                    have q157 : qFact (cutH gg 14 0) (cutH gg 16 0) 12 1 7 (19 + (7 * f + 5)) (((((((((((i + 1) + 1) + 1) + 1) + 1) + 1) + 1) + 1) + 1) + 1) + 1) (fwFu (fwFu (fwFu (fwFu (fwFu (fwFu W (19 + (7 * f + 0)) (cutH gg 16 0 ((i + 1) + 1))) (19 + (7 * f + 1)) (cutH gg 16 0 ((((i + 1) + 1) + 1) + 1))) (19 + (7 * f + 2)) (cutH gg 16 0 ((((((i + 1) + 1) + 1) + 1) + 1) + 1))) (19 + (7 * f + 3)) (cutH gg 16 0 ((((((((i + 1) + 1) + 1) + 1) + 1) + 1) + 1) + 1))) (19 + (7 * f + 4)) (cutH gg 16 0 ((((((((((i + 1) + 1) + 1) + 1) + 1) + 1) + 1) + 1) + 1) + 1))) 6 ((f : Int) + 1)) = .inl (1, ((((((((((((i + 1) + 1) + 1) + 1) + 1) + 1) + 1) + 1) + 1) + 1) + 1) + 1)) := (by exact qFact_1 (by omega) cn152)
                    refine w_iast dX12_readFolk_153 rfl (by decide) (ix_lo _ (by decide)) (ix_hi hf _ (by decide)) ?_
                    rw [show ((19 + (7 * (f : Int))) + 5 : Int).toNat = (19 + (7 * f + 5)) from (ix_nat f 5)]
                    have S170 : mSt gg (.inl ((1 : Int), ((((((((((((i + 1) + 1) + 1) + 1) + 1) + 1) + 1) + 1) + 1) + 1) + 1) + 1))) (fwUp g154 41 0 (19 + (7 * f + 5)) 0) := mSt_put S154 (19 + (7 * f + 5)) 0
                    have F170 := mFr_41 G154 (19 + (7 * f + 5)) 0
                    generalize fwUp g154 41 0 (19 + (7 * f + 5)) 0 = g170 at S170 F170 ⊢
                    exact f_readFolk_154 f hf _ S170 F170 (fun g9 S9 F9 => k _ _ S9 F9 (by rw [qFolk, if_neg (show ¬ 8 ≤ f by omega), qThen_r q0, qThen_r q108, qThen_r q116, qThen_r q125, qThen_r q134, qThen_r q143, if_pos q151, qTalk, qThen_l q157]))
              · intro cw150
                show fwWP mX12_readFolk (d + 8) 136 [some (aR 12 0), some (aI (f : Int)), some (aI (19 + (7 * (f : Int)))), none] [aI 0] g149 Q
                have q151 : ¬ (cutH gg 14 0) (((((((((((i + 1) + 1) + 1) + 1) + 1) + 1) + 1) + 1) + 1) + 1) + 1) = 12 := by omega
                refine w_if_eq 221 dX12_readFolk_136 (by decide) (by omega) (fun c136 => ?_) (fun c136 => ?_)
                · refine w_aload_n dX12_readFolk_221 rfl ?_
                  refine w_getr 41 0 dX12_readFolk_222 fl_X12_31 rfl (by decide) ?_
                  refine w_bipush dX12_readFolk_225 rfl ?_
                  refine w_dup2 dX12_readFolk_227 rfl rfl ?_
                  refine w_ialdE (v := (f : Int)) dX12_readFolk_228 rfl (by decide) (by omega) (by omega) (by rw [show (6 : Int).toNat = 6 by omega]; exact ((mSt_r S149).2.2.2.2 6 (by omega)).trans ((fwFu_ne (by omega)).trans ((fwFu_ne (by omega)).trans ((fwFu_ne (by omega)).trans ((fwFu_ne (by omega)).trans ((fwFu_ne (by omega)).trans (h6))))))) ?_
                  refine w_iconst dX12_readFolk_229 ?_
                  refine w_iadd dX12_readFolk_230 ?_
                  refine w_iast dX12_readFolk_231 rfl (by decide) (by omega) (by omega) ?_
                  rw [show (6 : Int).toNat = 6 from by omega]
                  have S171 : mSt gg (.inr ((((((((((((i + 1) + 1) + 1) + 1) + 1) + 1) + 1) + 1) + 1) + 1) + 1), fwFu (fwFu (fwFu (fwFu (fwFu (fwFu W (19 + (7 * f + 0)) (cutH gg 16 0 ((i + 1) + 1))) (19 + (7 * f + 1)) (cutH gg 16 0 ((((i + 1) + 1) + 1) + 1))) (19 + (7 * f + 2)) (cutH gg 16 0 ((((((i + 1) + 1) + 1) + 1) + 1) + 1))) (19 + (7 * f + 3)) (cutH gg 16 0 ((((((((i + 1) + 1) + 1) + 1) + 1) + 1) + 1) + 1))) (19 + (7 * f + 4)) (cutH gg 16 0 ((((((((((i + 1) + 1) + 1) + 1) + 1) + 1) + 1) + 1) + 1) + 1))) 6 ((f : Int) + 1))) (fwUp g149 41 0 6 ((f : Int) + 1)) := mSt_put S149 6 ((f : Int) + 1)
                  have F171 := mFr_41 F149 6 ((f : Int) + 1)
                  generalize fwUp g149 41 0 6 ((f : Int) + 1) = g171 at S171 F171 ⊢
                  exact w_vret dX12_readFolk_232 rfl (k _ _ S171 F171 (by rw [qFolk, if_neg (show ¬ 8 ≤ f by omega), qThen_r q0, qThen_r q108, qThen_r q116, qThen_r q125, qThen_r q134, qThen_r q143, if_neg q151]))
                · (exfalso; omega)
            · intro cw139 cn139 cv139 g140 S140 F140
              show fwWP mX12_readFolk (d + 8) 110 [some (aR 12 0), some (aI (f : Int)), some (aI (19 + (7 * (f : Int)))), none] [aI 0, aI ((19 + (7 * (f : Int))) + 4), aR 41 0] g140 Q
              have G140 := mFr_tr F138 F140
              have q144 : qFact (cutH gg 14 0) (cutH gg 16 0) 11 0 9 (19 + (7 * f + 4)) (((((((((i + 1) + 1) + 1) + 1) + 1) + 1) + 1) + 1) + 1) (fwFu (fwFu (fwFu (fwFu (fwFu W (19 + (7 * f + 0)) (cutH gg 16 0 ((i + 1) + 1))) (19 + (7 * f + 1)) (cutH gg 16 0 ((((i + 1) + 1) + 1) + 1))) (19 + (7 * f + 2)) (cutH gg 16 0 ((((((i + 1) + 1) + 1) + 1) + 1) + 1))) (19 + (7 * f + 3)) (cutH gg 16 0 ((((((((i + 1) + 1) + 1) + 1) + 1) + 1) + 1) + 1))) 6 ((f : Int) + 1)) = .inl (2, ((((((((((i + 1) + 1) + 1) + 1) + 1) + 1) + 1) + 1) + 1) + 1)) := qFact_2 (by omega) cn139 cv139
              refine w_iast dX12_readFolk_110 rfl (by decide) (ix_lo _ (by decide)) (ix_hi hf _ (by decide)) ?_
              rw [show ((19 + (7 * (f : Int))) + 4 : Int).toNat = (19 + (7 * f + 4)) from (ix_nat f 4)]
              have S172 : mSt gg (.inl ((2 : Int), ((((((((((i + 1) + 1) + 1) + 1) + 1) + 1) + 1) + 1) + 1) + 1))) (fwUp g140 41 0 (19 + (7 * f + 4)) 0) := mSt_put S140 (19 + (7 * f + 4)) 0
              have F172 := mFr_41 G140 (19 + (7 * f + 4)) 0
              generalize fwUp g140 41 0 (19 + (7 * f + 4)) 0 = g172 at S172 F172 ⊢
              exact f_readFolk_111 f hf _ S172 F172 (fun g9 S9 F9 => k _ _ S9 F9 (by rw [qFolk, if_neg (show ¬ 8 ≤ f by omega), qThen_r q0, qThen_r q108, qThen_r q116, qThen_r q125, qThen_r q134, qThen_l q144]))
            · intro cw139 cn139 g141 S141 F141
              show fwWP mX12_readFolk (d + 8) 110 [some (aR 12 0), some (aI (f : Int)), some (aI (19 + (7 * (f : Int)))), none] [aI 0, aI ((19 + (7 * (f : Int))) + 4), aR 41 0] g141 Q
              have G141 := mFr_tr F138 F141
              have q145 : qFact (cutH gg 14 0) (cutH gg 16 0) 11 0 9 (19 + (7 * f + 4)) (((((((((i + 1) + 1) + 1) + 1) + 1) + 1) + 1) + 1) + 1) (fwFu (fwFu (fwFu (fwFu (fwFu W (19 + (7 * f + 0)) (cutH gg 16 0 ((i + 1) + 1))) (19 + (7 * f + 1)) (cutH gg 16 0 ((((i + 1) + 1) + 1) + 1))) (19 + (7 * f + 2)) (cutH gg 16 0 ((((((i + 1) + 1) + 1) + 1) + 1) + 1))) (19 + (7 * f + 3)) (cutH gg 16 0 ((((((((i + 1) + 1) + 1) + 1) + 1) + 1) + 1) + 1))) 6 ((f : Int) + 1)) = .inl (1, ((((((((((i + 1) + 1) + 1) + 1) + 1) + 1) + 1) + 1) + 1) + 1)) := qFact_1 (by omega) cn139
              refine w_iast dX12_readFolk_110 rfl (by decide) (ix_lo _ (by decide)) (ix_hi hf _ (by decide)) ?_
              rw [show ((19 + (7 * (f : Int))) + 4 : Int).toNat = (19 + (7 * f + 4)) from (ix_nat f 4)]
              have S173 : mSt gg (.inl ((1 : Int), ((((((((((i + 1) + 1) + 1) + 1) + 1) + 1) + 1) + 1) + 1) + 1))) (fwUp g141 41 0 (19 + (7 * f + 4)) 0) := mSt_put S141 (19 + (7 * f + 4)) 0
              have F173 := mFr_41 G141 (19 + (7 * f + 4)) 0
              generalize fwUp g141 41 0 (19 + (7 * f + 4)) 0 = g173 at S173 F173 ⊢
              exact f_readFolk_111 f hf _ S173 F173 (fun g9 S9 F9 => k _ _ S9 F9 (by rw [qFolk, if_neg (show ¬ 8 ≤ f by omega), qThen_r q0, qThen_r q108, qThen_r q116, qThen_r q125, qThen_r q134, qThen_l q145]))
            · intro cw139 g142 S142 F142
              show fwWP mX12_readFolk (d + 8) 110 [some (aR 12 0), some (aI (f : Int)), some (aI (19 + (7 * (f : Int)))), none] [aI 0, aI ((19 + (7 * (f : Int))) + 4), aR 41 0] g142 Q
              have G142 := mFr_tr F138 F142
              have q146 : qFact (cutH gg 14 0) (cutH gg 16 0) 11 0 9 (19 + (7 * f + 4)) (((((((((i + 1) + 1) + 1) + 1) + 1) + 1) + 1) + 1) + 1) (fwFu (fwFu (fwFu (fwFu (fwFu W (19 + (7 * f + 0)) (cutH gg 16 0 ((i + 1) + 1))) (19 + (7 * f + 1)) (cutH gg 16 0 ((((i + 1) + 1) + 1) + 1))) (19 + (7 * f + 2)) (cutH gg 16 0 ((((((i + 1) + 1) + 1) + 1) + 1) + 1))) (19 + (7 * f + 3)) (cutH gg 16 0 ((((((((i + 1) + 1) + 1) + 1) + 1) + 1) + 1) + 1))) 6 ((f : Int) + 1)) = .inl (1, (((((((((i + 1) + 1) + 1) + 1) + 1) + 1) + 1) + 1) + 1)) := qFact_0 (by omega)
              refine w_iast dX12_readFolk_110 rfl (by decide) (ix_lo _ (by decide)) (ix_hi hf _ (by decide)) ?_
              rw [show ((19 + (7 * (f : Int))) + 4 : Int).toNat = (19 + (7 * f + 4)) from (ix_nat f 4)]
              have S174 : mSt gg (.inl ((1 : Int), (((((((((i + 1) + 1) + 1) + 1) + 1) + 1) + 1) + 1) + 1))) (fwUp g142 41 0 (19 + (7 * f + 4)) 0) := mSt_put S142 (19 + (7 * f + 4)) 0
              have F174 := mFr_41 G142 (19 + (7 * f + 4)) 0
              generalize fwUp g142 41 0 (19 + (7 * f + 4)) 0 = g174 at S174 F174 ⊢
              exact f_readFolk_111 f hf _ S174 F174 (fun g9 S9 F9 => k _ _ S9 F9 (by rw [qFolk, if_neg (show ¬ 8 ≤ f by omega), qThen_r q0, qThen_r q108, qThen_r q116, qThen_r q125, qThen_r q134, qThen_l q146]))
          · intro cw130 cn130 cv130 g131 S131 F131
            show fwWP mX12_readFolk (d + 8) 93 [some (aR 12 0), some (aI (f : Int)), some (aI (19 + (7 * (f : Int)))), none] [aI 0, aI ((19 + (7 * (f : Int))) + 3), aR 41 0] g131 Q
            have G131 := mFr_tr F129 F131
            have q135 : qFact (cutH gg 14 0) (cutH gg 16 0) 5 0 9 (19 + (7 * f + 3)) (((((((i + 1) + 1) + 1) + 1) + 1) + 1) + 1) (fwFu (fwFu (fwFu (fwFu W (19 + (7 * f + 0)) (cutH gg 16 0 ((i + 1) + 1))) (19 + (7 * f + 1)) (cutH gg 16 0 ((((i + 1) + 1) + 1) + 1))) (19 + (7 * f + 2)) (cutH gg 16 0 ((((((i + 1) + 1) + 1) + 1) + 1) + 1))) 6 ((f : Int) + 1)) = .inl (2, ((((((((i + 1) + 1) + 1) + 1) + 1) + 1) + 1) + 1)) := qFact_2 (by omega) cn130 cv130
            refine w_iast dX12_readFolk_93 rfl (by decide) (ix_lo _ (by decide)) (ix_hi hf _ (by decide)) ?_
            rw [show ((19 + (7 * (f : Int))) + 3 : Int).toNat = (19 + (7 * f + 3)) from (ix_nat f 3)]
            have S175 : mSt gg (.inl ((2 : Int), ((((((((i + 1) + 1) + 1) + 1) + 1) + 1) + 1) + 1))) (fwUp g131 41 0 (19 + (7 * f + 3)) 0) := mSt_put S131 (19 + (7 * f + 3)) 0
            have F175 := mFr_41 G131 (19 + (7 * f + 3)) 0
            generalize fwUp g131 41 0 (19 + (7 * f + 3)) 0 = g175 at S175 F175 ⊢
            exact f_readFolk_94 f hf _ S175 F175 (fun g9 S9 F9 => k _ _ S9 F9 (by rw [qFolk, if_neg (show ¬ 8 ≤ f by omega), qThen_r q0, qThen_r q108, qThen_r q116, qThen_r q125, qThen_l q135]))
          · intro cw130 cn130 g132 S132 F132
            show fwWP mX12_readFolk (d + 8) 93 [some (aR 12 0), some (aI (f : Int)), some (aI (19 + (7 * (f : Int)))), none] [aI 0, aI ((19 + (7 * (f : Int))) + 3), aR 41 0] g132 Q
            have G132 := mFr_tr F129 F132
            have q136 : qFact (cutH gg 14 0) (cutH gg 16 0) 5 0 9 (19 + (7 * f + 3)) (((((((i + 1) + 1) + 1) + 1) + 1) + 1) + 1) (fwFu (fwFu (fwFu (fwFu W (19 + (7 * f + 0)) (cutH gg 16 0 ((i + 1) + 1))) (19 + (7 * f + 1)) (cutH gg 16 0 ((((i + 1) + 1) + 1) + 1))) (19 + (7 * f + 2)) (cutH gg 16 0 ((((((i + 1) + 1) + 1) + 1) + 1) + 1))) 6 ((f : Int) + 1)) = .inl (1, ((((((((i + 1) + 1) + 1) + 1) + 1) + 1) + 1) + 1)) := qFact_1 (by omega) cn130
            refine w_iast dX12_readFolk_93 rfl (by decide) (ix_lo _ (by decide)) (ix_hi hf _ (by decide)) ?_
            rw [show ((19 + (7 * (f : Int))) + 3 : Int).toNat = (19 + (7 * f + 3)) from (ix_nat f 3)]
            have S176 : mSt gg (.inl ((1 : Int), ((((((((i + 1) + 1) + 1) + 1) + 1) + 1) + 1) + 1))) (fwUp g132 41 0 (19 + (7 * f + 3)) 0) := mSt_put S132 (19 + (7 * f + 3)) 0
            have F176 := mFr_41 G132 (19 + (7 * f + 3)) 0
            generalize fwUp g132 41 0 (19 + (7 * f + 3)) 0 = g176 at S176 F176 ⊢
            exact f_readFolk_94 f hf _ S176 F176 (fun g9 S9 F9 => k _ _ S9 F9 (by rw [qFolk, if_neg (show ¬ 8 ≤ f by omega), qThen_r q0, qThen_r q108, qThen_r q116, qThen_r q125, qThen_l q136]))
          · intro cw130 g133 S133 F133
            show fwWP mX12_readFolk (d + 8) 93 [some (aR 12 0), some (aI (f : Int)), some (aI (19 + (7 * (f : Int)))), none] [aI 0, aI ((19 + (7 * (f : Int))) + 3), aR 41 0] g133 Q
            have G133 := mFr_tr F129 F133
            have q137 : qFact (cutH gg 14 0) (cutH gg 16 0) 5 0 9 (19 + (7 * f + 3)) (((((((i + 1) + 1) + 1) + 1) + 1) + 1) + 1) (fwFu (fwFu (fwFu (fwFu W (19 + (7 * f + 0)) (cutH gg 16 0 ((i + 1) + 1))) (19 + (7 * f + 1)) (cutH gg 16 0 ((((i + 1) + 1) + 1) + 1))) (19 + (7 * f + 2)) (cutH gg 16 0 ((((((i + 1) + 1) + 1) + 1) + 1) + 1))) 6 ((f : Int) + 1)) = .inl (1, (((((((i + 1) + 1) + 1) + 1) + 1) + 1) + 1)) := qFact_0 (by omega)
            refine w_iast dX12_readFolk_93 rfl (by decide) (ix_lo _ (by decide)) (ix_hi hf _ (by decide)) ?_
            rw [show ((19 + (7 * (f : Int))) + 3 : Int).toNat = (19 + (7 * f + 3)) from (ix_nat f 3)]
            have S177 : mSt gg (.inl ((1 : Int), (((((((i + 1) + 1) + 1) + 1) + 1) + 1) + 1))) (fwUp g133 41 0 (19 + (7 * f + 3)) 0) := mSt_put S133 (19 + (7 * f + 3)) 0
            have F177 := mFr_41 G133 (19 + (7 * f + 3)) 0
            generalize fwUp g133 41 0 (19 + (7 * f + 3)) 0 = g177 at S177 F177 ⊢
            exact f_readFolk_94 f hf _ S177 F177 (fun g9 S9 F9 => k _ _ S9 F9 (by rw [qFolk, if_neg (show ¬ 8 ≤ f by omega), qThen_r q0, qThen_r q108, qThen_r q116, qThen_r q125, qThen_l q137]))
        · intro cw121 cn121 cv121 g122 S122 F122
          show fwWP mX12_readFolk (d + 8) 76 [some (aR 12 0), some (aI (f : Int)), some (aI (19 + (7 * (f : Int)))), none] [aI 0, aI ((19 + (7 * (f : Int))) + 2), aR 41 0] g122 Q
          have G122 := mFr_tr F120 F122
          have q126 : qFact (cutH gg 14 0) (cutH gg 16 0) 10 0 9 (19 + (7 * f + 2)) (((((i + 1) + 1) + 1) + 1) + 1) (fwFu (fwFu (fwFu W (19 + (7 * f + 0)) (cutH gg 16 0 ((i + 1) + 1))) (19 + (7 * f + 1)) (cutH gg 16 0 ((((i + 1) + 1) + 1) + 1))) 6 ((f : Int) + 1)) = .inl (2, ((((((i + 1) + 1) + 1) + 1) + 1) + 1)) := qFact_2 (by omega) cn121 cv121
          refine w_iast dX12_readFolk_76 rfl (by decide) (ix_lo _ (by decide)) (ix_hi hf _ (by decide)) ?_
          rw [show ((19 + (7 * (f : Int))) + 2 : Int).toNat = (19 + (7 * f + 2)) from (ix_nat f 2)]
          have S178 : mSt gg (.inl ((2 : Int), ((((((i + 1) + 1) + 1) + 1) + 1) + 1))) (fwUp g122 41 0 (19 + (7 * f + 2)) 0) := mSt_put S122 (19 + (7 * f + 2)) 0
          have F178 := mFr_41 G122 (19 + (7 * f + 2)) 0
          generalize fwUp g122 41 0 (19 + (7 * f + 2)) 0 = g178 at S178 F178 ⊢
          exact f_readFolk_77 f hf _ S178 F178 (fun g9 S9 F9 => k _ _ S9 F9 (by rw [qFolk, if_neg (show ¬ 8 ≤ f by omega), qThen_r q0, qThen_r q108, qThen_r q116, qThen_l q126]))
        · intro cw121 cn121 g123 S123 F123
          show fwWP mX12_readFolk (d + 8) 76 [some (aR 12 0), some (aI (f : Int)), some (aI (19 + (7 * (f : Int)))), none] [aI 0, aI ((19 + (7 * (f : Int))) + 2), aR 41 0] g123 Q
          have G123 := mFr_tr F120 F123
          have q127 : qFact (cutH gg 14 0) (cutH gg 16 0) 10 0 9 (19 + (7 * f + 2)) (((((i + 1) + 1) + 1) + 1) + 1) (fwFu (fwFu (fwFu W (19 + (7 * f + 0)) (cutH gg 16 0 ((i + 1) + 1))) (19 + (7 * f + 1)) (cutH gg 16 0 ((((i + 1) + 1) + 1) + 1))) 6 ((f : Int) + 1)) = .inl (1, ((((((i + 1) + 1) + 1) + 1) + 1) + 1)) := qFact_1 (by omega) cn121
          refine w_iast dX12_readFolk_76 rfl (by decide) (ix_lo _ (by decide)) (ix_hi hf _ (by decide)) ?_
          rw [show ((19 + (7 * (f : Int))) + 2 : Int).toNat = (19 + (7 * f + 2)) from (ix_nat f 2)]
          have S179 : mSt gg (.inl ((1 : Int), ((((((i + 1) + 1) + 1) + 1) + 1) + 1))) (fwUp g123 41 0 (19 + (7 * f + 2)) 0) := mSt_put S123 (19 + (7 * f + 2)) 0
          have F179 := mFr_41 G123 (19 + (7 * f + 2)) 0
          generalize fwUp g123 41 0 (19 + (7 * f + 2)) 0 = g179 at S179 F179 ⊢
          exact f_readFolk_77 f hf _ S179 F179 (fun g9 S9 F9 => k _ _ S9 F9 (by rw [qFolk, if_neg (show ¬ 8 ≤ f by omega), qThen_r q0, qThen_r q108, qThen_r q116, qThen_l q127]))
        · intro cw121 g124 S124 F124
          show fwWP mX12_readFolk (d + 8) 76 [some (aR 12 0), some (aI (f : Int)), some (aI (19 + (7 * (f : Int)))), none] [aI 0, aI ((19 + (7 * (f : Int))) + 2), aR 41 0] g124 Q
          have G124 := mFr_tr F120 F124
          have q128 : qFact (cutH gg 14 0) (cutH gg 16 0) 10 0 9 (19 + (7 * f + 2)) (((((i + 1) + 1) + 1) + 1) + 1) (fwFu (fwFu (fwFu W (19 + (7 * f + 0)) (cutH gg 16 0 ((i + 1) + 1))) (19 + (7 * f + 1)) (cutH gg 16 0 ((((i + 1) + 1) + 1) + 1))) 6 ((f : Int) + 1)) = .inl (1, (((((i + 1) + 1) + 1) + 1) + 1)) := qFact_0 (by omega)
          refine w_iast dX12_readFolk_76 rfl (by decide) (ix_lo _ (by decide)) (ix_hi hf _ (by decide)) ?_
          rw [show ((19 + (7 * (f : Int))) + 2 : Int).toNat = (19 + (7 * f + 2)) from (ix_nat f 2)]
          have S180 : mSt gg (.inl ((1 : Int), (((((i + 1) + 1) + 1) + 1) + 1))) (fwUp g124 41 0 (19 + (7 * f + 2)) 0) := mSt_put S124 (19 + (7 * f + 2)) 0
          have F180 := mFr_41 G124 (19 + (7 * f + 2)) 0
          generalize fwUp g124 41 0 (19 + (7 * f + 2)) 0 = g180 at S180 F180 ⊢
          exact f_readFolk_77 f hf _ S180 F180 (fun g9 S9 F9 => k _ _ S9 F9 (by rw [qFolk, if_neg (show ¬ 8 ≤ f by omega), qThen_r q0, qThen_r q108, qThen_r q116, qThen_l q128]))
      · intro cw112 cn112 cv112 g113 S113 F113
        show fwWP mX12_readFolk (d + 8) 59 [some (aR 12 0), some (aI (f : Int)), some (aI (19 + (7 * (f : Int)))), none] [aI 0, aI ((19 + (7 * (f : Int))) + 1), aR 41 0] g113 Q
        have G113 := mFr_tr F111 F113
        have q117 : qFact (cutH gg 14 0) (cutH gg 16 0) 7 1 99 (19 + (7 * f + 1)) (((i + 1) + 1) + 1) (fwFu (fwFu W (19 + (7 * f + 0)) (cutH gg 16 0 ((i + 1) + 1))) 6 ((f : Int) + 1)) = .inl (2, ((((i + 1) + 1) + 1) + 1)) := qFact_2 (by omega) cn112 cv112
        refine w_iast dX12_readFolk_59 rfl (by decide) (ix_lo _ (by decide)) (ix_hi hf _ (by decide)) ?_
        rw [show ((19 + (7 * (f : Int))) + 1 : Int).toNat = (19 + (7 * f + 1)) from (ix_nat f 1)]
        have S181 : mSt gg (.inl ((2 : Int), ((((i + 1) + 1) + 1) + 1))) (fwUp g113 41 0 (19 + (7 * f + 1)) 0) := mSt_put S113 (19 + (7 * f + 1)) 0
        have F181 := mFr_41 G113 (19 + (7 * f + 1)) 0
        generalize fwUp g113 41 0 (19 + (7 * f + 1)) 0 = g181 at S181 F181 ⊢
        exact f_readFolk_60 f hf _ S181 F181 (fun g9 S9 F9 => k _ _ S9 F9 (by rw [qFolk, if_neg (show ¬ 8 ≤ f by omega), qThen_r q0, qThen_r q108, qThen_l q117]))
      · intro cw112 cn112 g114 S114 F114
        show fwWP mX12_readFolk (d + 8) 59 [some (aR 12 0), some (aI (f : Int)), some (aI (19 + (7 * (f : Int)))), none] [aI 0, aI ((19 + (7 * (f : Int))) + 1), aR 41 0] g114 Q
        have G114 := mFr_tr F111 F114
        have q118 : qFact (cutH gg 14 0) (cutH gg 16 0) 7 1 99 (19 + (7 * f + 1)) (((i + 1) + 1) + 1) (fwFu (fwFu W (19 + (7 * f + 0)) (cutH gg 16 0 ((i + 1) + 1))) 6 ((f : Int) + 1)) = .inl (1, ((((i + 1) + 1) + 1) + 1)) := qFact_1 (by omega) cn112
        refine w_iast dX12_readFolk_59 rfl (by decide) (ix_lo _ (by decide)) (ix_hi hf _ (by decide)) ?_
        rw [show ((19 + (7 * (f : Int))) + 1 : Int).toNat = (19 + (7 * f + 1)) from (ix_nat f 1)]
        have S182 : mSt gg (.inl ((1 : Int), ((((i + 1) + 1) + 1) + 1))) (fwUp g114 41 0 (19 + (7 * f + 1)) 0) := mSt_put S114 (19 + (7 * f + 1)) 0
        have F182 := mFr_41 G114 (19 + (7 * f + 1)) 0
        generalize fwUp g114 41 0 (19 + (7 * f + 1)) 0 = g182 at S182 F182 ⊢
        exact f_readFolk_60 f hf _ S182 F182 (fun g9 S9 F9 => k _ _ S9 F9 (by rw [qFolk, if_neg (show ¬ 8 ≤ f by omega), qThen_r q0, qThen_r q108, qThen_l q118]))
      · intro cw112 g115 S115 F115
        show fwWP mX12_readFolk (d + 8) 59 [some (aR 12 0), some (aI (f : Int)), some (aI (19 + (7 * (f : Int)))), none] [aI 0, aI ((19 + (7 * (f : Int))) + 1), aR 41 0] g115 Q
        have G115 := mFr_tr F111 F115
        have q119 : qFact (cutH gg 14 0) (cutH gg 16 0) 7 1 99 (19 + (7 * f + 1)) (((i + 1) + 1) + 1) (fwFu (fwFu W (19 + (7 * f + 0)) (cutH gg 16 0 ((i + 1) + 1))) 6 ((f : Int) + 1)) = .inl (1, (((i + 1) + 1) + 1)) := qFact_0 (by omega)
        refine w_iast dX12_readFolk_59 rfl (by decide) (ix_lo _ (by decide)) (ix_hi hf _ (by decide)) ?_
        rw [show ((19 + (7 * (f : Int))) + 1 : Int).toNat = (19 + (7 * f + 1)) from (ix_nat f 1)]
        have S183 : mSt gg (.inl ((1 : Int), (((i + 1) + 1) + 1))) (fwUp g115 41 0 (19 + (7 * f + 1)) 0) := mSt_put S115 (19 + (7 * f + 1)) 0
        have F183 := mFr_41 G115 (19 + (7 * f + 1)) 0
        generalize fwUp g115 41 0 (19 + (7 * f + 1)) 0 = g183 at S183 F183 ⊢
        exact f_readFolk_60 f hf _ S183 F183 (fun g9 S9 F9 => k _ _ S9 F9 (by rw [qFolk, if_neg (show ¬ 8 ≤ f by omega), qThen_r q0, qThen_r q108, qThen_l q119]))
    · intro cn105 cv105 g106 S106 F106
      show fwWP mX12_readFolk (d + 8) 42 [some (aR 12 0), some (aI (f : Int)), some (aI (19 + (7 * (f : Int)))), none] [aI 0, aI ((19 + (7 * (f : Int))) + 0), aR 41 0] g106 Q
      have G106 := mFr_tr F102 F106
      have q109 : qFact (cutH gg 14 0) (cutH gg 16 0) 9 0 ((fwFu W 6 ((f : Int) + 1)) 0 - 1) (19 + (7 * f + 0)) (i + 1) (fwFu W 6 ((f : Int) + 1)) = .inl (2, ((i + 1) + 1)) := (by rw [show (fwFu W 6 ((f : Int) + 1)) 0 = W 0 from fwFu_ne (by omega)]; exact qFact_2 (by omega) cn105 cv105)
      refine w_iast dX12_readFolk_42 rfl (by decide) (ix_lo _ (by decide)) (ix_hi hf _ (by decide)) ?_
      rw [show ((19 + (7 * (f : Int))) + 0 : Int).toNat = (19 + (7 * f + 0)) from (ix_nat f 0)]
      have S184 : mSt gg (.inl ((2 : Int), ((i + 1) + 1))) (fwUp g106 41 0 (19 + (7 * f + 0)) 0) := mSt_put S106 (19 + (7 * f + 0)) 0
      have F184 := mFr_41 G106 (19 + (7 * f + 0)) 0
      generalize fwUp g106 41 0 (19 + (7 * f + 0)) 0 = g184 at S184 F184 ⊢
      exact f_readFolk_43 f hf _ S184 F184 (fun g9 S9 F9 => k _ _ S9 F9 (by rw [qFolk, if_neg (show ¬ 8 ≤ f by omega), qThen_r q0, qThen_l q109]))
    · intro cn105 g107 S107 F107
      show fwWP mX12_readFolk (d + 8) 42 [some (aR 12 0), some (aI (f : Int)), some (aI (19 + (7 * (f : Int)))), none] [aI 0, aI ((19 + (7 * (f : Int))) + 0), aR 41 0] g107 Q
      have G107 := mFr_tr F102 F107
      have q110 : qFact (cutH gg 14 0) (cutH gg 16 0) 9 0 ((fwFu W 6 ((f : Int) + 1)) 0 - 1) (19 + (7 * f + 0)) (i + 1) (fwFu W 6 ((f : Int) + 1)) = .inl (1, ((i + 1) + 1)) := (by rw [show (fwFu W 6 ((f : Int) + 1)) 0 = W 0 from fwFu_ne (by omega)]; exact qFact_1 (by omega) cn105)
      refine w_iast dX12_readFolk_42 rfl (by decide) (ix_lo _ (by decide)) (ix_hi hf _ (by decide)) ?_
      rw [show ((19 + (7 * (f : Int))) + 0 : Int).toNat = (19 + (7 * f + 0)) from (ix_nat f 0)]
      have S185 : mSt gg (.inl ((1 : Int), ((i + 1) + 1))) (fwUp g107 41 0 (19 + (7 * f + 0)) 0) := mSt_put S107 (19 + (7 * f + 0)) 0
      have F185 := mFr_41 G107 (19 + (7 * f + 0)) 0
      generalize fwUp g107 41 0 (19 + (7 * f + 0)) 0 = g185 at S185 F185 ⊢
      exact f_readFolk_43 f hf _ S185 F185 (fun g9 S9 F9 => k _ _ S9 F9 (by rw [qFolk, if_neg (show ¬ 8 ≤ f by omega), qThen_r q0, qThen_l q110]))
  · intro cw102 g103 S103 F103
    show fwWP mX12_readFolk (d + 8) 22 [some (aR 12 0), some (aI (f : Int)), some (aI (19 + (7 * (f : Int)))), none] [] g103 Q
    have q104 : qFact (cutH gg 14 0) (cutH gg 16 0) 9 0 ((fwFu W 6 ((f : Int) + 1)) 0 - 1) (19 + (7 * f + 0)) (i + 1) (fwFu W 6 ((f : Int) + 1)) = .inl (1, (i + 1)) := qFact_0 (by omega)
    refine w_aload_n dX12_readFolk_22 rfl ?_
    refine w_getr 41 0 dX12_readFolk_23 fl_X12_31 rfl (by decide) ?_
    refine w_iload_n dX12_readFolk_26 rfl ?_
    refine w_iconst dX12_readFolk_27 ?_
    refine w_iadd dX12_readFolk_28 ?_
    refine w_aload_n dX12_readFolk_29 rfl ?_
    refine w_iconst dX12_readFolk_30 ?_
    refine w_aload_n dX12_readFolk_31 rfl ?_
    refine w_getr 41 0 dX12_readFolk_32 fl_X12_31 rfl (by decide) ?_
    refine w_iconst dX12_readFolk_35 ?_
    refine w_ialdE (v := g103 41 0 0) dX12_readFolk_36 rfl (by decide) (by omega) (by omega) (by rw [show (0 : Int).toNat = 0 by omega]) ?_
    refine w_iconst dX12_readFolk_37 ?_
    refine w_isub dX12_readFolk_38 ?_
    refine w_callV (d := d + 7) (S := [aI ((19 + (7 * (f : Int))) + 0), aR 41 0]) [aI 0, aI ((g103 41 0 0) - 1)] dX12_readFolk_39 ml_X12_151 ok_X12_number vi_X12_number rfl rfl (by decide) rfl (Nat.le_of_ble_eq_true rfl) ?_
    refine c_f_number (d := (d + 5)) 0 ((g103 41 0 0) - 1) _ S103 ?_
    show fwWP mX12_readFolk (d + 8) 42 [some (aR 12 0), some (aI (f : Int)), some (aI (19 + (7 * (f : Int)))), none] [aI 0, aI ((19 + (7 * (f : Int))) + 0), aR 41 0] g103 Q
    refine w_iast dX12_readFolk_42 rfl (by decide) (ix_lo _ (by decide)) (ix_hi hf _ (by decide)) ?_
    rw [show ((19 + (7 * (f : Int))) + 0 : Int).toNat = (19 + (7 * f + 0)) from (ix_nat f 0)]
    have S186 : mSt gg (.inl ((1 : Int), (i + 1))) (fwUp g103 41 0 (19 + (7 * f + 0)) 0) := mSt_put S103 (19 + (7 * f + 0)) 0
    have F186 := mFr_41 F103 (19 + (7 * f + 0)) 0
    generalize fwUp g103 41 0 (19 + (7 * f + 0)) 0 = g186 at S186 F186 ⊢
    exact f_readFolk_43 f hf _ S186 F186 (fun g9 S9 F9 => k _ _ S9 F9 (by rw [qFolk, if_neg (show ¬ 8 ≤ f by omega), qThen_r q0, qThen_l q104]))

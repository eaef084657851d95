def fV (a b c p e : Int) (i : Nat) : Int := if i = 0 then a else if i = 1 then b else if i = 2 then c else if i = 3 then p else e
def fV8 (a b c p e : Int) (k : Nat) : Int := fwB8 (fwShr (fV a b c p e (k / 4)) (24 - 8 * ((k % 4 : Nat) : Int)))
def mF20 (B : Nat → Int) (s : Nat) (V : Nat → Int) : Nat → (Nat → Int)
  | 0 => B
  | k + 1 => fwFu (mF20 B s V k) (s + k) (V k)
set_option maxRecDepth 100000 in
theorem mF20_feed (B : Nat → Int) (s : Nat) (a b c p e : Int) : mF20 B s (fV8 a b c p e) 20 = mFeed B s a b c p e := by
  unfold mFeed
  simp only [mF20, mAdN]
  rfl
def fiv (g : Nat → Int) (a b c p e : Int) : Nat → Int := fwFu (fwFu (fwFu (fwFu (fwFu g 0 a) 1 b) 2 c) 3 p) 4 e
theorem fiv_at (g : Nat → Int) (a b c p e : Int) {i : Nat} (hi : i < 5) : fiv g a b c p e i = fV a b c p e i := by
  rcases (show i = 0 ∨ i = 1 ∨ i = 2 ∨ i = 3 ∨ i = 4 by omega) with rfl | rfl | rfl | rfl | rfl <;> rfl
set_option maxRecDepth 100000 in
set_option maxHeartbeats 4000000 in
theorem c_X12_feed {d : Nat} {h : fwH} {Q : Option fwV → fwH → Prop} (a b c0 p e : Int) (ht : 0 ≤ h 12 0 5 ∧ h 12 0 5 ≤ 900) (k : (h 12 0 5 ≤ 880 → Q (some (aI (h 12 0 5 + 20))) (fwUp (fwUc (fwUc h 40 0 (fiv (h 40 0) a b c0 p e)) 39 0 (mFeed (h 39 0) (h 12 0 5).toNat a b c0 p e)) 12 0 5 (h 12 0 5 + 20))) ∧ (¬ h 12 0 5 ≤ 880 → Q (some (aI (-1))) h)) : fwCt mX12_feed (d + 0) [aR 12 0, aI a, aI b, aI c0, aI p, aI e] h Q := by
  refine fwCt_of [some (aR 12 0), some (aI a), some (aI b), some (aI c0), some (aI p), some (aI e), none] rfl rfl rfl ?_
  refine w_aload_n dX12_feed_0 rfl ?_
  refine w_getiE (v := h 12 0 5) dX12_feed_1 fl_X12_81 rfl (by decide) rfl ?_
  refine w_bipush dX12_feed_4 rfl ?_
  refine w_iadd dX12_feed_6 ?_
  refine w_sipush dX12_feed_7 rfl ?_
  refine w_icmp_le 15 dX12_feed_10 (by decide) (by omega) (by omega) (fun c10 => ?_) (fun c10 => ?_)
  · refine w_aload_n dX12_feed_15 rfl ?_
    refine w_getr 40 0 dX12_feed_16 fl_X12_24 rfl (by decide) ?_
    refine w_iconst dX12_feed_19 ?_
    refine w_iload_n dX12_feed_20 rfl ?_
    refine w_iast dX12_feed_21 rfl (by decide) (by omega) (by omega) ?_
    refine w_aload_n dX12_feed_22 rfl ?_
    refine w_getr 40 0 dX12_feed_23 fl_X12_24 rfl (by decide) ?_
    refine w_iconst dX12_feed_26 ?_
    refine w_iload_n dX12_feed_27 rfl ?_
    refine w_iast dX12_feed_28 rfl (by decide) (by omega) (by omega) ?_
    refine w_aload_n dX12_feed_29 rfl ?_
    refine w_getr 40 0 dX12_feed_30 fl_X12_24 rfl (by decide) ?_
    refine w_iconst dX12_feed_33 ?_
    refine w_iload_n dX12_feed_34 rfl ?_
    refine w_iast dX12_feed_35 rfl (by decide) (by omega) (by omega) ?_
    refine w_aload_n dX12_feed_36 rfl ?_
    refine w_getr 40 0 dX12_feed_37 fl_X12_24 rfl (by decide) ?_
    refine w_iconst dX12_feed_40 ?_
    refine w_iload dX12_feed_41 rfl ?_
    refine w_iast dX12_feed_43 rfl (by decide) (by omega) (by omega) ?_
    refine w_aload_n dX12_feed_44 rfl ?_
    refine w_getr 40 0 dX12_feed_45 fl_X12_24 rfl (by decide) ?_
    refine w_iconst dX12_feed_48 ?_
    refine w_iload dX12_feed_49 rfl ?_
    refine w_iast dX12_feed_51 rfl (by decide) (by omega) (by omega) ?_
    rw [show (fwUp (fwUp (fwUp (fwUp (fwUp h 40 0 (Int.toNat 0) a) 40 0 (Int.toNat 1) b) 40 0 (Int.toNat 2) c0) 40 0 (Int.toNat 3) p) 40 0 (Int.toNat 4) e) = (fwUc h 40 0 (fiv (h 40 0) a b c0 p e)) from by rw [fwUp_fu h 40, fwUp_fu _ 40, fwUp_fu _ 40, fwUp_fu _ 40, fwUp_fu _ 40, fwUc_at, fwUc_uc, fwUc_at, fwUc_uc, fwUc_at, fwUc_uc, fwUc_at, fwUc_uc]; rfl]
    refine w_iconst dX12_feed_52 ?_
    refine w_istore [some (aR 12 0), some (aI a), some (aI b), some (aI c0), some (aI p), some (aI e), some (aI 0)] dX12_feed_53 rfl (by decide) ?_
    have lp55 : ∀ c : Nat, c ≤ 20 → ∀ (y55  : Int) (hh55 : fwH), y55 = (c : Int) → hh55 = (fwUc (fwUc h 40 0 (fiv (h 40 0) a b c0 p e)) 39 0 (mF20 (h 39 0) (h 12 0 5).toNat (fV8 a b c0 p e) c)) → fwWP mX12_feed (d + 0) 55 [some (aR 12 0), some (aI a), some (aI b), some (aI c0), some (aI p), some (aI e), some (aI y55)] [] hh55 Q := by
      refine fw_up (fun c hc55 ih55 => ?_)
      intro y55  hh55 ey55 eh55
      subst ey55
      subst eh55
      show fwWP mX12_feed (d + 0) 55 [some (aR 12 0), some (aI a), some (aI b), some (aI c0), some (aI p), some (aI e), some (aI (c : Int))] [] (fwUc (fwUc h 40 0 (fiv (h 40 0) a b c0 p e)) 39 0 (mF20 (h 39 0) (h 12 0 5).toNat (fV8 a b c0 p e) c)) Q
      refine w_iload dX12_feed_55 rfl ?_
      refine w_bipush dX12_feed_57 rfl ?_
      refine w_icmp_ge 101 dX12_feed_59 (by decide) (by omega) (by omega) (fun c59 => ?_) (fun c59 => ?_)
      · have ec55 : 20 = c := by omega
        subst ec55
        refine w_aload_n dX12_feed_101 rfl ?_
        refine w_dup dX12_feed_102 rfl ?_
        refine w_getiE (v := h 12 0 5) dX12_feed_103 fl_X12_81 rfl (by decide) rfl ?_
        refine w_bipush dX12_feed_106 rfl ?_
        refine w_iadd dX12_feed_108 ?_
        refine w_puti dX12_feed_109 fl_X12_81 fp_12_5 rfl (by decide) ?_
        refine w_aload_n dX12_feed_112 rfl ?_
        refine w_getiE (v := h 12 0 5 + 20) dX12_feed_113 fl_X12_81 rfl (by decide) rfl ?_
        rw [mF20_feed]
        exact w_iretE dX12_feed_116 rfl rfl (k.1 (by omega))
      · have hdv : fwDiv (c : Int) 4 = (c : Int) / 4 := fwDiv_nn (by omega) (by omega)
        have hrm : fwRem (c : Int) 4 = (c : Int) % 4 := fwRem_nn (by omega) (by omega)
        have hv8 := fwB8_rng (fwShr (fV a b c0 p e (c / 4)) (24 - 8 * fwRem (c : Int) 4))
        refine w_aload_n dX12_feed_62 rfl ?_
        refine w_getr 39 0 dX12_feed_63 fl_X12_20 rfl (by decide) ?_
        refine w_aload_n dX12_feed_66 rfl ?_
        refine w_getiE (v := h 12 0 5) dX12_feed_67 fl_X12_81 rfl (by decide) rfl ?_
        refine w_iload dX12_feed_70 rfl ?_
        refine w_iadd dX12_feed_72 ?_
        refine w_aload_n dX12_feed_73 rfl ?_
        refine w_getr 40 0 dX12_feed_74 fl_X12_24 rfl (by decide) ?_
        refine w_iload dX12_feed_77 rfl ?_
        refine w_iconst dX12_feed_79 ?_
        refine w_idiv dX12_feed_80 (by omega) (by omega) ?_
        refine w_ialdE (v := fV a b c0 p e (c / 4)) dX12_feed_81 rfl (by decide) (by rw [hdv]; omega) (by rw [hdv]; omega) (by rw [show ((fwDiv (c : Int) 4).toNat) = c / 4 by rw [hdv]; omega]; exact fiv_at _ _ _ _ _ _ (by omega)) ?_
        refine w_bipush dX12_feed_82 rfl ?_
        refine w_bipush dX12_feed_84 rfl ?_
        refine w_iload dX12_feed_86 rfl ?_
        refine w_iconst dX12_feed_88 ?_
        refine w_irem dX12_feed_89 (by omega) (by omega) ?_
        refine w_imul dX12_feed_90 ?_
        refine w_isub dX12_feed_91 ?_
        refine w_ishr dX12_feed_92 ?_
        refine w_i2b dX12_feed_93 ?_
        refine w_bast dX12_feed_94 rfl (by decide) (by omega) (by omega) (by first | omega | exact fwB_01 _) ?_
        refine w_iinc [some (aR 12 0), some (aI a), some (aI b), some (aI c0), some (aI p), some (aI e), some (aI ((c : Int) + 1))] dX12_feed_95 rfl rfl (by decide) ?_
        refine w_goto 55 dX12_feed_98 (by decide) ?_
        refine ih55 (by omega) _ _ ?_ ?_
        · exact (by omega)
        · exact (by rw [fwUp_uc, show (h 12 0 5 + (c : Int)).toNat = (h 12 0 5).toNat + c by omega, hrm, mF20]; rfl)
    refine lp55 0 (Nat.zero_le _) _ _ ?_ ?_
    · exact (by omega)
    · exact (fwUc_self _ 39 0).symm
  · refine w_iconst dX12_feed_13 ?_
    exact w_iretE dX12_feed_14 rfl rfl (k.2 (by omega))

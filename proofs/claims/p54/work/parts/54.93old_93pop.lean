section
/-- a row of three holds with k FEET more, or is the one that is left out -/
def oH (gg : fwH) (s : Nat) (x : Int) (k r : Nat) : Bool := decide (3 * (r : Int) = x ∨ ¬ mMiP (gg 4 0 1) (mOH gg k) (gg 33 s) r = true)
def oB (gg : fwH) (s : Nat) (x : Int) (k : Nat) : Bool := mAll (oH gg s x k) (gg 35 0 s / 3).toNat
theorem oH_x {gg : fwH} {s : Nat} {x : Int} {k r : Nat} (h : 3 * (r : Int) = x) : oH gg s x k r = true := decide_eq_true (Or.inl h)
theorem oH_y {gg : fwH} {s : Nat} {x : Int} {k r : Nat} (h : fwB (mShadeB (gg 4 0 1) (mOH gg k) (gg 33 s (3 * r)) (gg 33 s (3 * r + 1)) = true) = fwB (gg 33 s (3 * r + 2) = 1)) : oH gg s x k r = true := by
  refine decide_eq_true (Or.inr (fun q => of_decide_eq_true q ?_))
  by_cases a : mShadeB (gg 4 0 1) (mOH gg k) (gg 33 s (3 * r)) (gg 33 s (3 * r + 1)) = true
  · by_cases b : gg 33 s (3 * r + 2) = 1
    · exact ⟨fun _ => b, fun _ => a⟩
    · rw [fwB_t a, fwB_f b] at h; omega
  · by_cases b : gg 33 s (3 * r + 2) = 1
    · rw [fwB_f a, fwB_t b] at h; omega
    · exact ⟨fun z => absurd z a, fun z => absurd z b⟩
theorem oH_n {gg : fwH} {s : Nat} {x : Int} {k r : Nat} (hx : ¬ 3 * (r : Int) = x) (h : ¬ fwB (mShadeB (gg 4 0 1) (mOH gg k) (gg 33 s (3 * r)) (gg 33 s (3 * r + 1)) = true) = fwB (gg 33 s (3 * r + 2) = 1)) : ¬ oH gg s x k r = true := by
  intro q
  rcases of_decide_eq_true q with z | z
  · exact hx z
  · refine z (decide_eq_true (fun e => h ?_))
    by_cases b : gg 33 s (3 * r + 2) = 1
    · rw [fwB_t b, fwB_t (e.mpr b)]
    · rw [fwB_f b, fwB_f (fun a => b (e.mp a))]
theorem oB_n {gg : fwH} {s : Nat} {x : Int} {k r : Nat} (hr : r < (gg 35 0 s / 3).toNat) (h : ¬ oH gg s x k r = true) : ¬ oB gg s x k = true := fun q => h ((mAll_iff _ _).mp q r hr)
set_option maxRecDepth 100000 in
set_option maxHeartbeats 4000000 in
theorem c_s_oldBy {d : Nat} {h gg : fwH} {Q : Option fwV → fwH → Prop} (s : Nat) (x : Int) (J : cOk gg) (R : jF gg h) (S : jS gg h) (hs : sOk gg) (hSl : oSl gg s) (hH : hiR (gg 4 0 1) (h 42 0) (gg 17 0)) (hx : -2147483648 ≤ x ∧ x < 2147483648) (k : ∀ A, hiR (gg 4 0 1) A (gg 17 0) → Q (some (aI (mBits (oB gg s x) 21))) (fwUc h 42 0 A)) : fwCt mX12_oldBy (d + 4) [aR 12 0, aI (s : Int), aI x] h Q := by
  refine fwCt_of [some (aR 12 0), some (aI (s : Int)), some (aI x), none, none, none, none] rfl rfl rfl ?_
  obtain ⟨hs4, hs5, hs6, hs7⟩ := id hSl
  refine w_iconst dX12_oldBy_0 ?_
  refine w_istore_n [some (aR 12 0), some (aI (s : Int)), some (aI x), some (aI 0), none, none, none] dX12_oldBy_1 rfl (by decide) ?_
  refine w_iconst dX12_oldBy_2 ?_
  refine w_istore [some (aR 12 0), some (aI (s : Int)), some (aI x), some (aI 0), some (aI 0), none, none] dX12_oldBy_3 rfl (by decide) ?_
  have lp5 : ∀ c : Nat, c ≤ 21 → ∀ (se y5 : Int) (A : Nat → Int), y5 = (c : Int) → se = mBits (oB gg s x) c → hiR (gg 4 0 1) A (gg 17 0) → fwWP mX12_oldBy (d + 4) 5 [some (aR 12 0), some (aI (s : Int)), some (aI x), some (aI se), some (aI y5), none, none] [] (fwUc h 42 0 A) Q := by
    refine fw_up (fun c hc5 ih5 => ?_)
    intro se y5 A ey5 ese hA5
    subst ey5
    subst ese
    show fwWP mX12_oldBy (d + 4) 5 [some (aR 12 0), some (aI (s : Int)), some (aI x), some (aI (mBits (oB gg s x) c)), some (aI (c : Int)), none, none] [] (fwUc h 42 0 A) Q
    refine w_iload dX12_oldBy_5 rfl ?_
    refine w_bipush dX12_oldBy_7 rfl ?_
    refine w_icmp_gt 121 dX12_oldBy_9 (by decide) (by omega) (by omega) (fun c9 => ?_) (fun c9 => ?_)
    · refine w_iload_n dX12_oldBy_121 rfl ?_
      have ec9 : c = 21 := by omega
      subst ec9
      exact w_iret dX12_oldBy_122 rfl (k _ hA5)
    · refine w_iconst dX12_oldBy_12 ?_
      refine w_istore [some (aR 12 0), some (aI (s : Int)), some (aI x), some (aI (mBits (oB gg s x) c)), some (aI (c : Int)), some (aI 1), none] dX12_oldBy_13 rfl (by decide) ?_
      refine w_iconst dX12_oldBy_15 ?_
      refine w_istore [some (aR 12 0), some (aI (s : Int)), some (aI x), some (aI (mBits (oB gg s x) c)), some (aI (c : Int)), some (aI 1), some (aI 0)] dX12_oldBy_16 rfl (by decide) ?_
      have lp18 : ∀ c2 : Nat, c2 ≤ (gg 35 0 s / 3).toNat → ∀ (ho y18 : Int) (A2 : Nat → Int), y18 = 3 * (c2 : Int) → ((ho = 1 ∧ mAll (oH gg s x c) c2 = true) ∨ (ho = 0 ∧ ¬ oB gg s x c = true)) → hiR (gg 4 0 1) A2 (gg 17 0) → fwWP mX12_oldBy (d + 4) 18 [some (aR 12 0), some (aI (s : Int)), some (aI x), some (aI (mBits (oB gg s x) c)), some (aI (c : Int)), some (aI ho), some (aI y18)] [] (fwUc h 42 0 A2) Q := by
        refine fw_up (fun c2 hc18 ih18 => ?_)
        intro ho y18 A2 ey18 hho hA18
        subst ey18
        have hb1 : 0 ≤ ho ∧ ho ≤ 1 := by rcases hho with z | z <;> omega
        show fwWP mX12_oldBy (d + 4) 18 [some (aR 12 0), some (aI (s : Int)), some (aI x), some (aI (mBits (oB gg s x) c)), some (aI (c : Int)), some (aI ho), some (aI (3 * (c2 : Int)))] [] (fwUc h 42 0 A2) Q
        refine w_iload dX12_oldBy_18 rfl ?_
        refine w_aload_n dX12_oldBy_20 rfl ?_
        refine w_getr 46 0 dX12_oldBy_21 fl_X12_47 rfl (by decide) ?_
        refine w_iload_n dX12_oldBy_24 rfl ?_
        refine w_ialdE (v := gg 35 0 s) dX12_oldBy_25 rfl (by decide) (by omega) (by omega) (S s (by omega)).1 ?_
        refine w_icmp_ge 99 dX12_oldBy_26 (by decide) (by omega) (by omega) (fun c26 => ?_) (fun c26 => ?_)
        · refine w_iload_n dX12_oldBy_99 rfl ?_
          refine w_iload dX12_oldBy_100 rfl ?_
          refine w_if_eq 112 dX12_oldBy_102 (by decide) (by omega) (fun c102 => ?_) (fun c102 => ?_)
          · have hnot : ¬ oB gg s x c = true := by rcases hho with z | z; (exfalso; omega); exact z.2
            refine w_iconst dX12_oldBy_112 ?_
            refine w_ior dX12_oldBy_113 ?_
            refine w_istore_n [some (aR 12 0), some (aI (s : Int)), some (aI x), some (aI (fwOr (mBits (oB gg s x) c) 0)), some (aI (c : Int)), some (aI ho), some (aI (3 * (c2 : Int)))] dX12_oldBy_114 rfl (by decide) ?_
            refine w_iinc [some (aR 12 0), some (aI (s : Int)), some (aI x), some (aI (fwOr (mBits (oB gg s x) c) 0)), some (aI ((c : Int) + 1)), some (aI ho), some (aI (3 * (c2 : Int)))] dX12_oldBy_115 rfl rfl (by decide) ?_
            refine w_goto 5 dX12_oldBy_118 (by decide) ?_
            refine w_drop [5, 6] [some (aR 12 0), some (aI (s : Int)), some (aI x), some (aI (fwOr (mBits (oB gg s x) c) 0)), some (aI ((c : Int) + 1)), none, none] rfl ?_
            exact ih5 (by omega) _ _ _ (by omega) (by rw [mBits, if_neg hnot, fwOr_0 (mBits_rng _ _)]) hA18
          · have hyes : oB gg s x c = true := by rcases hho with z | z; (unfold oB; rw [show (gg 35 0 s / 3).toNat = c2 by omega]; exact z.2); (exfalso; omega)
            refine w_iconst dX12_oldBy_105 ?_
            refine w_iload dX12_oldBy_106 rfl ?_
            refine w_ishl dX12_oldBy_108 ?_
            refine w_goto 113 dX12_oldBy_109 (by decide) ?_
            refine w_ior dX12_oldBy_113 ?_
            refine w_istore_n [some (aR 12 0), some (aI (s : Int)), some (aI x), some (aI (fwOr (mBits (oB gg s x) c) (fwShl 1 (c : Int)))), some (aI (c : Int)), some (aI ho), some (aI (3 * (c2 : Int)))] dX12_oldBy_114 rfl (by decide) ?_
            refine w_iinc [some (aR 12 0), some (aI (s : Int)), some (aI x), some (aI (fwOr (mBits (oB gg s x) c) (fwShl 1 (c : Int)))), some (aI ((c : Int) + 1)), some (aI ho), some (aI (3 * (c2 : Int)))] dX12_oldBy_115 rfl rfl (by decide) ?_
            refine w_goto 5 dX12_oldBy_118 (by decide) ?_
            refine w_drop [5, 6] [some (aR 12 0), some (aI (s : Int)), some (aI x), some (aI (fwOr (mBits (oB gg s x) c) (fwShl 1 (c : Int)))), some (aI ((c : Int) + 1)), none, none] rfl ?_
            exact ih5 (by omega) _ _ _ (by omega) (by rw [mBits, if_pos hyes]) hA18
        · refine w_iload dX12_oldBy_29 rfl ?_
          refine w_if_eq 99 dX12_oldBy_31 (by decide) (by omega) (fun c31 => ?_) (fun c31 => ?_)
          · refine w_iload_n dX12_oldBy_99 rfl ?_
            refine w_iload dX12_oldBy_100 rfl ?_
            refine w_if_eq 112 dX12_oldBy_102 (by decide) (by omega) (fun c102 => ?_) (fun c102 => ?_)
            · have hnot : ¬ oB gg s x c = true := by rcases hho with z | z; (exfalso; omega); exact z.2
              refine w_iconst dX12_oldBy_112 ?_
              refine w_ior dX12_oldBy_113 ?_
              refine w_istore_n [some (aR 12 0), some (aI (s : Int)), some (aI x), some (aI (fwOr (mBits (oB gg s x) c) 0)), some (aI (c : Int)), some (aI ho), some (aI (3 * (c2 : Int)))] dX12_oldBy_114 rfl (by decide) ?_
              refine w_iinc [some (aR 12 0), some (aI (s : Int)), some (aI x), some (aI (fwOr (mBits (oB gg s x) c) 0)), some (aI ((c : Int) + 1)), some (aI ho), some (aI (3 * (c2 : Int)))] dX12_oldBy_115 rfl rfl (by decide) ?_
              refine w_goto 5 dX12_oldBy_118 (by decide) ?_
              refine w_drop [5, 6] [some (aR 12 0), some (aI (s : Int)), some (aI x), some (aI (fwOr (mBits (oB gg s x) c) 0)), some (aI ((c : Int) + 1)), none, none] rfl ?_
              exact ih5 (by omega) _ _ _ (by omega) (by rw [mBits, if_neg hnot, fwOr_0 (mBits_rng _ _)]) hA18
            · have hyes : oB gg s x c = true := by rcases hho with z | z; (unfold oB; rw [show (gg 35 0 s / 3).toNat = c2 by omega]; exact z.2); (exfalso; omega)
              refine w_iconst dX12_oldBy_105 ?_
              refine w_iload dX12_oldBy_106 rfl ?_
              refine w_ishl dX12_oldBy_108 ?_
              refine w_goto 113 dX12_oldBy_109 (by decide) ?_
              refine w_ior dX12_oldBy_113 ?_
              refine w_istore_n [some (aR 12 0), some (aI (s : Int)), some (aI x), some (aI (fwOr (mBits (oB gg s x) c) (fwShl 1 (c : Int)))), some (aI (c : Int)), some (aI ho), some (aI (3 * (c2 : Int)))] dX12_oldBy_114 rfl (by decide) ?_
              refine w_iinc [some (aR 12 0), some (aI (s : Int)), some (aI x), some (aI (fwOr (mBits (oB gg s x) c) (fwShl 1 (c : Int)))), some (aI ((c : Int) + 1)), some (aI ho), some (aI (3 * (c2 : Int)))] dX12_oldBy_115 rfl rfl (by decide) ?_
              refine w_goto 5 dX12_oldBy_118 (by decide) ?_
              refine w_drop [5, 6] [some (aR 12 0), some (aI (s : Int)), some (aI x), some (aI (fwOr (mBits (oB gg s x) c) (fwShl 1 (c : Int)))), some (aI ((c : Int) + 1)), none, none] rfl ?_
              exact ih5 (by omega) _ _ _ (by omega) (by rw [mBits, if_pos hyes]) hA18
          · have hq9 := of_decide_eq_true ((mAll_iff _ _).mp hSl.2.2.2 c2 (by omega))
            have hall : mAll (oH gg s x c) c2 = true := by rcases hho with z | z; exact z.2; exact absurd z.1 c31
            refine w_iload dX12_oldBy_34 rfl ?_
            refine w_iload_n dX12_oldBy_36 rfl ?_
            refine w_icmp_eq 86 dX12_oldBy_37 (by decide) (by omega) (by omega) (fun c37 => ?_) (fun c37 => ?_)
            · refine w_iconst dX12_oldBy_86 ?_
              refine w_goto 91 dX12_oldBy_87 (by decide) ?_
              refine w_istore [some (aR 12 0), some (aI (s : Int)), some (aI x), some (aI (mBits (oB gg s x) c)), some (aI (c : Int)), some (aI 1), some (aI (3 * (c2 : Int)))] dX12_oldBy_91 rfl (by decide) ?_
              refine w_iinc [some (aR 12 0), some (aI (s : Int)), some (aI x), some (aI (mBits (oB gg s x) c)), some (aI (c : Int)), some (aI 1), some (aI ((3 * (c2 : Int)) + 3))] dX12_oldBy_93 rfl rfl (by decide) ?_
              refine w_goto 18 dX12_oldBy_96 (by decide) ?_
              exact ih18 (by omega) _ _ _ (by omega) (Or.inl ⟨rfl, by rw [mAll, hall, Bool.true_and]; exact oH_x (by omega)⟩) hA18
            · refine w_aload_n dX12_oldBy_40 rfl ?_
              refine w_iload dX12_oldBy_41 rfl ?_
              refine w_aload_n dX12_oldBy_43 rfl ?_
              refine w_iload_n dX12_oldBy_44 rfl ?_
              refine w_iload dX12_oldBy_45 rfl ?_
              refine w_callV (d := d + 3) (S := [aI (c : Int), aR 12 0]) [aI (s : Int), aI (3 * (c2 : Int))] dX12_oldBy_47 ml_X12_360 ok_X12_numberAt vi_X12_numberAt rfl rfl (by decide) rfl (Nat.le_of_ble_eq_true rfl) ?_
              refine c_naE (d := (d + 3)) s (3 * c2) (s : Int) (3 * (c2 : Int)) S (by omega) (by omega) (by omega) (by omega) ?_
              show fwWP mX12_oldBy (d + 4) 50 [some (aR 12 0), some (aI (s : Int)), some (aI x), some (aI (mBits (oB gg s x) c)), some (aI (c : Int)), some (aI ho), some (aI (3 * (c2 : Int)))] [aJ (gg 33 s (3 * c2)), aI (c : Int), aR 12 0] (fwUc h 42 0 A2) Q
              have hl7 := (hs s (by omega)).2.2 (3 * c2) (by omega)
              refine w_l2i dX12_oldBy_50 ?_
              refine w_aload_n dX12_oldBy_51 rfl ?_
              refine w_iload_n dX12_oldBy_52 rfl ?_
              refine w_iload dX12_oldBy_53 rfl ?_
              refine w_iconst dX12_oldBy_55 ?_
              refine w_iadd dX12_oldBy_56 ?_
              refine w_callV (d := d + 3) (S := [aI (gg 33 s (3 * c2)), aI (c : Int), aR 12 0]) [aI (s : Int), aI ((3 * (c2 : Int)) + 1)] dX12_oldBy_57 ml_X12_360 ok_X12_numberAt vi_X12_numberAt rfl rfl (by decide) rfl (Nat.le_of_ble_eq_true rfl) ?_
              refine c_naE (d := (d + 3)) s ((3 * c2) + 1) (s : Int) ((3 * (c2 : Int)) + 1) S (by omega) (by omega) (by omega) (by omega) ?_
              show fwWP mX12_oldBy (d + 4) 60 [some (aR 12 0), some (aI (s : Int)), some (aI x), some (aI (mBits (oB gg s x) c)), some (aI (c : Int)), some (aI ho), some (aI (3 * (c2 : Int)))] [aJ (gg 33 s ((3 * c2) + 1)), aI (gg 33 s (3 * c2)), aI (c : Int), aR 12 0] (fwUc h 42 0 A2) Q
              have hl8 := (hs s (by omega)).2.2 ((3 * c2) + 1) (by omega)
              refine w_l2i dX12_oldBy_60 ?_
              refine w_callV (d := d + 3) (S := []) [aI (c : Int), aI (gg 33 s (3 * c2)), aI (gg 33 s ((3 * c2) + 1))] dX12_oldBy_61 ml_X12_364 ok_X12_wasDark vi_X12_wasDark rfl rfl (by decide) rfl (Nat.le_of_ble_eq_true rfl) ?_
              refine c_X12_wasDark (d := d) c (gg 33 s (3 * c2)) (gg 33 s ((3 * c2) + 1)) J R hA18 (by omega) (by omega) (by omega) ?_
              intro A61_9 hA61_9; rw [fwUc_uc]
              show fwWP mX12_oldBy (d + 4) 64 [some (aR 12 0), some (aI (s : Int)), some (aI x), some (aI (mBits (oB gg s x) c)), some (aI (c : Int)), some (aI ho), some (aI (3 * (c2 : Int)))] [aI (fwB (mShadeB (gg 4 0 1) (mOH gg c) (gg 33 s (3 * c2)) (gg 33 s ((3 * c2) + 1)) = true))] (fwUc h 42 0 A61_9) Q
              refine w_aload_n dX12_oldBy_64 rfl ?_
              refine w_iload_n dX12_oldBy_65 rfl ?_
              refine w_iload dX12_oldBy_66 rfl ?_
              refine w_iconst dX12_oldBy_68 ?_
              refine w_iadd dX12_oldBy_69 ?_
              refine w_callV (d := d + 3) (S := [aI (fwB (mShadeB (gg 4 0 1) (mOH gg c) (gg 33 s (3 * c2)) (gg 33 s ((3 * c2) + 1)) = true))]) [aI (s : Int), aI ((3 * (c2 : Int)) + 2)] dX12_oldBy_70 ml_X12_360 ok_X12_numberAt vi_X12_numberAt rfl rfl (by decide) rfl (Nat.le_of_ble_eq_true rfl) ?_
              refine c_naE (d := (d + 3)) s ((3 * c2) + 2) (s : Int) ((3 * (c2 : Int)) + 2) S (by omega) (by omega) (by omega) (by omega) ?_
              show fwWP mX12_oldBy (d + 4) 73 [some (aR 12 0), some (aI (s : Int)), some (aI x), some (aI (mBits (oB gg s x) c)), some (aI (c : Int)), some (aI ho), some (aI (3 * (c2 : Int)))] [aJ (gg 33 s ((3 * c2) + 2)), aI (fwB (mShadeB (gg 4 0 1) (mOH gg c) (gg 33 s (3 * c2)) (gg 33 s ((3 * c2) + 1)) = true))] (fwUc h 42 0 A61_9) Q
              have hl10 := (hs s (by omega)).2.2 ((3 * c2) + 2) (by omega)
              refine w_lconst (z := 1) dX12_oldBy_73 rfl ?_
              refine w_lc_ne 82 dX12_oldBy_74 dX12_oldBy_75 (by decide) (by omega) (by omega) (fun c75 => ?_) (fun c75 => ?_)
              · refine w_iconst dX12_oldBy_82 ?_
                have hb83 := fwB_01 (mShadeB (gg 4 0 1) (mOH gg c) (gg 33 s (3 * c2)) (gg 33 s ((3 * c2) + 1)) = true)
                refine w_icmp_ne 90 dX12_oldBy_83 (by decide) (by omega) (by omega) (fun c83 => ?_) (fun c83 => ?_)
                · refine w_iconst dX12_oldBy_90 ?_
                  refine w_istore [some (aR 12 0), some (aI (s : Int)), some (aI x), some (aI (mBits (oB gg s x) c)), some (aI (c : Int)), some (aI 0), some (aI (3 * (c2 : Int)))] dX12_oldBy_91 rfl (by decide) ?_
                  refine w_iinc [some (aR 12 0), some (aI (s : Int)), some (aI x), some (aI (mBits (oB gg s x) c)), some (aI (c : Int)), some (aI 0), some (aI ((3 * (c2 : Int)) + 3))] dX12_oldBy_93 rfl rfl (by decide) ?_
                  refine w_goto 18 dX12_oldBy_96 (by decide) ?_
                  exact ih18 (by omega) _ _ _ (by omega) (Or.inr ⟨rfl, oB_n (show c2 < (gg 35 0 s / 3).toNat by omega) (oH_n (by omega) (by rw [fwB_f c75]; omega))⟩) hA61_9
                · refine w_iconst dX12_oldBy_86 ?_
                  refine w_goto 91 dX12_oldBy_87 (by decide) ?_
                  refine w_istore [some (aR 12 0), some (aI (s : Int)), some (aI x), some (aI (mBits (oB gg s x) c)), some (aI (c : Int)), some (aI 1), some (aI (3 * (c2 : Int)))] dX12_oldBy_91 rfl (by decide) ?_
                  refine w_iinc [some (aR 12 0), some (aI (s : Int)), some (aI x), some (aI (mBits (oB gg s x) c)), some (aI (c : Int)), some (aI 1), some (aI ((3 * (c2 : Int)) + 3))] dX12_oldBy_93 rfl rfl (by decide) ?_
                  refine w_goto 18 dX12_oldBy_96 (by decide) ?_
                  exact ih18 (by omega) _ _ _ (by omega) (Or.inl ⟨rfl, by rw [mAll, hall, Bool.true_and]; exact oH_y (by rw [fwB_f c75]; omega)⟩) hA61_9
              · refine w_iconst dX12_oldBy_78 ?_
                refine w_goto 83 dX12_oldBy_79 (by decide) ?_
                have hb83 := fwB_01 (mShadeB (gg 4 0 1) (mOH gg c) (gg 33 s (3 * c2)) (gg 33 s ((3 * c2) + 1)) = true)
                refine w_icmp_ne 90 dX12_oldBy_83 (by decide) (by omega) (by omega) (fun c83 => ?_) (fun c83 => ?_)
                · refine w_iconst dX12_oldBy_90 ?_
                  refine w_istore [some (aR 12 0), some (aI (s : Int)), some (aI x), some (aI (mBits (oB gg s x) c)), some (aI (c : Int)), some (aI 0), some (aI (3 * (c2 : Int)))] dX12_oldBy_91 rfl (by decide) ?_
                  refine w_iinc [some (aR 12 0), some (aI (s : Int)), some (aI x), some (aI (mBits (oB gg s x) c)), some (aI (c : Int)), some (aI 0), some (aI ((3 * (c2 : Int)) + 3))] dX12_oldBy_93 rfl rfl (by decide) ?_
                  refine w_goto 18 dX12_oldBy_96 (by decide) ?_
                  exact ih18 (by omega) _ _ _ (by omega) (Or.inr ⟨rfl, oB_n (show c2 < (gg 35 0 s / 3).toNat by omega) (oH_n (by omega) (by rw [fwB_t c75]; omega))⟩) hA61_9
                · refine w_iconst dX12_oldBy_86 ?_
                  refine w_goto 91 dX12_oldBy_87 (by decide) ?_
                  refine w_istore [some (aR 12 0), some (aI (s : Int)), some (aI x), some (aI (mBits (oB gg s x) c)), some (aI (c : Int)), some (aI 1), some (aI (3 * (c2 : Int)))] dX12_oldBy_91 rfl (by decide) ?_
                  refine w_iinc [some (aR 12 0), some (aI (s : Int)), some (aI x), some (aI (mBits (oB gg s x) c)), some (aI (c : Int)), some (aI 1), some (aI ((3 * (c2 : Int)) + 3))] dX12_oldBy_93 rfl rfl (by decide) ?_
                  refine w_goto 18 dX12_oldBy_96 (by decide) ?_
                  exact ih18 (by omega) _ _ _ (by omega) (Or.inl ⟨rfl, by rw [mAll, hall, Bool.true_and]; exact oH_y (by rw [fwB_t c75]; omega)⟩) hA61_9
      exact lp18 0 (by omega) _ _ _ (by omega) (Or.inl ⟨rfl, rfl⟩) hA5
  have e42 := fwUc_self h 42 0
  rw [← e42]
  exact lp5 0 (by omega) _ _ _ rfl rfl hH
theorem mMis_all (p : Nat → Bool) : ∀ r : Nat, (mMis p r).1 = 0 ↔ ∀ j, j < r → ¬ p j = true := by
  intro r
  induction r with
  | zero => exact ⟨fun _ j hj => absurd hj (Nat.not_lt_zero _), fun _ => rfl⟩
  | succ r ih =>
    have hr := mMis_rng p r
    rw [mMis]
    constructor
    · intro q j hj
      by_cases c : p r = true
      · rw [if_pos c] at q; dsimp only at q; omega
      · rw [if_neg c] at q
        rcases Nat.lt_succ_iff_lt_or_eq.mp hj with z | z
        · exact ih.mp q j z
        · rw [z]; exact c
    · intro q
      rw [if_neg (q r (Nat.lt_succ_self _))]
      exact ih.mpr (fun j hj => q j (Nat.lt_succ_of_lt hj))
theorem oB_pos (gg : fwH) (s k : Nat) : oB gg s (-1) k = decide ((mMs gg s k).1 = 0) := by
  rw [Bool.eq_iff_iff, decide_eq_true_iff]
  unfold oB mMs
  rw [mAll_iff, mMis_all]
  constructor
  · intro q j hj c
    rcases of_decide_eq_true (q j hj) with z | z
    · omega
    · exact z c
  · intro q j hj
    exact decide_eq_true (Or.inr (q j hj))
theorem oB_posF (gg : fwH) (s n : Nat) : mBits (oB gg s (-1)) n = mPos gg s n := by
  unfold mPos
  rw [show oB gg s (-1) = fun k => decide ((mMs gg s k).1 = 0) from funext (oB_pos gg s)]
theorem c_s_oldN {d : Nat} {h gg : fwH} {Q : Option fwV → fwH → Prop} (s w : Nat) (hw : w = 21) (J : cOk gg) (R : jF gg h) (S : jS gg h) (hs : sOk gg) (hSl : oSl gg s) (hH : hiR (gg 4 0 1) (h 42 0) (gg 17 0)) (k : ∀ A, hiR (gg 4 0 1) A (gg 17 0) → Q (some (aI (mPos gg s w))) (fwUc h 42 0 A)) : fwCt mX12_oldBy (d + 4) [aR 12 0, aI (s : Int), aI (-1)] h Q := by
  subst hw
  refine c_s_oldBy s (-1) J R S hs hSl hH (by omega) (fun A hA => ?_)
  rw [oB_posF]
  exact k A hA
theorem c_s_oldE {d : Nat} {h gg : fwH} {Q : Option fwV → fwH → Prop} (s w : Nat) (x : Int) (hw : w = 21) (J : cOk gg) (R : jF gg h) (S : jS gg h) (hs : sOk gg) (hSl : oSl gg s) (hH : hiR (gg 4 0 1) (h 42 0) (gg 17 0)) (hx : -2147483648 ≤ x ∧ x < 2147483648) (k : ∀ A, hiR (gg 4 0 1) A (gg 17 0) → Q (some (aI (mBits (oB gg s x) w))) (fwUc h 42 0 A)) : fwCt mX12_oldBy (d + 4) [aR 12 0, aI (s : Int), aI x] h Q := by
  subst hw
  exact c_s_oldBy s x J R S hs hSl hH hx k
end
section
theorem fwUsh_nat {a : Nat} (ha : a < 2 ^ 31) (k : Nat) (hk : k < 32) : fwUsh (a : Int) (k : Int) = ((a / 2 ^ k : Nat) : Int) := by
  unfold fwUsh
  have key : ∀ k : Nat, k < 32 → (((Int32.ofInt (k : Int)).toUInt32 &&& Int32.toUInt32 31).toBitVec % 32).toNat = k := by decide +kernel
  rw [show Int32.ofInt (a : Int) = nI a from rfl, pk_ushrN (by omega) _ k (key k hk), nI_toInt (Nat.lt_of_le_of_lt (Nat.div_le_self _ _) ha)]
theorem and_sp {lo hi m M : Nat} (hl : lo < 256) (hm : m < 256) : (256 * hi + lo) &&& (256 * M + m) = 256 * (hi &&& M) + (lo &&& m) := by
  apply Nat.eq_of_testBit_eq
  intro j
  have h1 := Nat.testBit_two_pow_mul_add hi (show lo < 2 ^ 8 from hl) j
  have h2 := Nat.testBit_two_pow_mul_add M (show m < 2 ^ 8 from hm) j
  have h3 := Nat.testBit_two_pow_mul_add (hi &&& M) (Nat.and_lt_two_pow lo (show m < 2 ^ 8 from hm)) j
  rw [show (2 : Nat) ^ 8 = 256 from rfl] at h1 h2 h3
  rw [Nat.testBit_and, h1, h2, h3]
  split <;> rw [Nat.testBit_and]
theorem sp_85 : ∀ t, t < 2 → ∀ l, l < 128 → (128 * t + l) &&& 85 = l &&& 85 := by decide +kernel
theorem sp_51 : ∀ t, t < 4 → ∀ l, l < 64 → (64 * t + l) &&& 51 = l &&& 51 := by decide +kernel
theorem st_1 {h l M : Nat} (hl : l < 256) : (256 * h + l) - ((256 * h + l) / 2 &&& (256 * M + 85)) = 256 * (h - (h / 2 &&& M)) + (l - (l / 2 &&& 85)) := by
  have e : (256 * h + l) / 2 = 256 * (h / 2) + (128 * (h % 2) + l / 2) := by omega
  rw [e, and_sp (by omega) (by decide), sp_85 (h % 2) (by omega) (l / 2) (by omega)]
  have a1 : h / 2 &&& M ≤ h / 2 := Nat.and_le_left
  have a2 : l / 2 &&& 85 ≤ l / 2 := Nat.and_le_left
  omega
theorem st_2 {h l M : Nat} (hl : l < 256) : ((256 * h + l) &&& (256 * M + 51)) + ((256 * h + l) / 4 &&& (256 * M + 51)) = 256 * ((h &&& M) + (h / 4 &&& M)) + ((l &&& 51) + (l / 4 &&& 51)) := by
  have e : (256 * h + l) / 4 = 256 * (h / 4) + (64 * (h % 4) + l / 4) := by omega
  rw [e, and_sp (by omega) (by decide), and_sp (by omega) (by decide), sp_51 (h % 4) (by omega) (l / 4) (by omega)]
  omega
theorem and_15 (x : Nat) : x &&& 15 = x % 16 := Nat.and_two_pow_sub_one_eq_mod x 4
theorem st_3 {h l M : Nat} (hl : l ≤ 68) (hh : h % 16 ≤ 4) : ((256 * h + l) + (256 * h + l) / 16) &&& (256 * M + 15) = 256 * ((h + h / 16) &&& M) + ((l + l / 16) &&& 15) := by
  have e : (256 * h + l) + (256 * h + l) / 16 = 256 * (h + h / 16) + (16 * (h % 16) + (l + l / 16)) := by omega
  rw [e, and_sp (by omega) (by decide), and_15, and_15]
  omega
def py (b : Nat) : Nat := b - (b / 2 &&& 85)
def pz (y : Nat) : Nat := (y &&& 51) + (y / 4 &&& 51)
def pw (z : Nat) : Nat := (z + z / 16) &&& 15
theorem pq_f : ∀ b, b < 256 → py b < 256 ∧ pz (py b) ≤ 68 ∧ pz (py b) % 16 ≤ 4 ∧ pw (pz (py b)) ≤ 8 := by decide +kernel
theorem pq_c1 : ∀ c, c < 32 → c - (c / 2 &&& 21845) = py c := by decide +kernel
theorem pq_c2 : ∀ c, c < 32 → (py c &&& 13107) + (py c / 4 &&& 13107) = pz (py c) := by decide +kernel
theorem pq_c3 : ∀ c, c < 32 → (pz (py c) + pz (py c) / 16) &&& 3855 = pw (pz (py c)) := by decide +kernel
theorem pop_1 {X Y : Nat} (hX : X < 2 ^ 31) (e : X - (X / 2 &&& 1431655765) = Y) : (X : Int) - fwAnd (fwUsh (X : Int) 1) 1431655765 = (Y : Int) := by
  rw [show (1 : Int) = ((1 : Nat) : Int) from rfl, fwUsh_nat hX 1 (by decide), show (1431655765 : Int) = ((1431655765 : Nat) : Int) from rfl, fwAnd_nat (Nat.lt_of_le_of_lt (Nat.div_le_self _ _) hX) (by decide), ← e]
  have a1 : X / 2 ^ 1 &&& 1431655765 ≤ X / 2 ^ 1 := Nat.and_le_left
  have a2 : X / 2 ^ 1 ≤ X := Nat.div_le_self _ _
  rw [show X / 2 = X / 2 ^ 1 from rfl]
  omega
theorem pop_2 {X Y : Nat} (hX : X < 2 ^ 31) (e : (X &&& 858993459) + (X / 4 &&& 858993459) = Y) : fwAnd (X : Int) 858993459 + fwAnd (fwUsh (X : Int) 2) 858993459 = (Y : Int) := by
  rw [show (2 : Int) = ((2 : Nat) : Int) from rfl, fwUsh_nat hX 2 (by decide), show (858993459 : Int) = ((858993459 : Nat) : Int) from rfl, fwAnd_nat hX (by decide), fwAnd_nat (Nat.lt_of_le_of_lt (Nat.div_le_self _ _) hX) (by decide), ← e]
  rfl
theorem pop_3 {X Y : Nat} (hX : X < 2 ^ 30) (e : (X + X / 16) &&& 252645135 = Y) : fwAnd ((X : Int) + fwUsh (X : Int) 4) 252645135 = (Y : Int) := by
  rw [show (4 : Int) = ((4 : Nat) : Int) from rfl, fwUsh_nat (by omega) 4 (by decide), show (252645135 : Int) = ((252645135 : Nat) : Int) from rfl, show (X : Int) + ((X / 2 ^ 4 : Nat) : Int) = ((X + X / 2 ^ 4 : Nat) : Int) from rfl, fwAnd_nat (by omega) (by decide), ← e]
theorem pop_nat {a b c : Nat} (ha : a < 256) (hb : b < 256) (hc : c < 32) : fwPop ((256 * (256 * c + b) + a : Nat) : Int) = ((pw (pz (py a)) + pw (pz (py b)) + pw (pz (py c)) : Nat) : Int) := by
  obtain ⟨a1, a2, a3, a4⟩ := pq_f a ha
  obtain ⟨b1, b2, b3, b4⟩ := pq_f b hb
  obtain ⟨c1, c2, c3, c4⟩ := pq_f c (by omega)
  have e1 : (256 * (256 * c + b) + a) - ((256 * (256 * c + b) + a) / 2 &&& 1431655765) = 256 * (256 * py c + py b) + py a := by
    have z := st_1 (h := 256 * c + b) (l := a) (M := 5592405) ha
    rw [st_1 (h := c) (l := b) (M := 21845) hb, pq_c1 c hc] at z
    exact z
  have e2 : ((256 * (256 * py c + py b) + py a) &&& 858993459) + ((256 * (256 * py c + py b) + py a) / 4 &&& 858993459) = 256 * (256 * pz (py c) + pz (py b)) + pz (py a) := by
    have z := st_2 (h := 256 * py c + py b) (l := py a) (M := 3355443) a1
    rw [st_2 (h := py c) (l := py b) (M := 13107) b1, pq_c2 c hc] at z
    exact z
  have e3 : ((256 * (256 * pz (py c) + pz (py b)) + pz (py a)) + (256 * (256 * pz (py c) + pz (py b)) + pz (py a)) / 16) &&& 252645135 = 256 * (256 * pw (pz (py c)) + pw (pz (py b))) + pw (pz (py a)) := by
    have z := st_3 (h := 256 * pz (py c) + pz (py b)) (l := pz (py a)) (M := 986895) a2 (by omega)
    rw [st_3 (h := pz (py c)) (l := pz (py b)) (M := 3855) b2 c3, pq_c3 c hc] at z
    exact z
  unfold fwPop
  dsimp only
  rw [pop_1 (by omega) e1, pop_2 (by omega) e2, pop_3 (by omega) e3]
  clear e1 e2 e3
  generalize pw (pz (py a)) = p at *
  generalize pw (pz (py b)) = q at *
  generalize pw (pz (py c)) = r at *
  have d1 : (256 * (256 * r + q) + p) / 2 ^ 8 = 256 * r + q := by omega
  have d2 : (256 * (256 * r + q) + p + (256 * r + q)) / 2 ^ 16 = r := by omega
  rw [show (8 : Int) = ((8 : Nat) : Int) from rfl, show (16 : Int) = ((16 : Nat) : Int) from rfl, fwUsh_nat (by omega) 8 (by decide), d1]
  rw [show ((256 * (256 * r + q) + p : Nat) : Int) + ((256 * r + q : Nat) : Int) = ((256 * (256 * r + q) + p + (256 * r + q) : Nat) : Int) from rfl]
  rw [fwUsh_nat (by omega) 16 (by decide), d2]
  rw [show ((256 * (256 * r + q) + p + (256 * r + q) : Nat) : Int) + ((r : Nat) : Int) = ((256 * (256 * r + q) + p + (256 * r + q) + r : Nat) : Int) from rfl]
  rw [show (63 : Int) = ((63 : Nat) : Int) from rfl, fwAnd_nat (by omega) (by decide), show (63 : Nat) = 2 ^ 6 - 1 from rfl, Nat.and_two_pow_sub_one_eq_mod]
  omega
/-- how many bits of a number are 1, of the first n -/
def cb (x : Nat) : Nat → Nat
  | 0 => 0
  | k + 1 => cb x k + (if x.testBit k = true then 1 else 0)
theorem mBt_cb {x : Nat} (hx : x < 2 ^ 31) : ∀ n : Nat, n ≤ 31 → mBt (x : Int) n = (cb x n : Int) := by
  intro n
  induction n with
  | zero => intro _; rfl
  | succ n ih =>
    intro hn
    rw [mBt, ih (by omega), fwBit_nat hx n (by omega), cb]
    split <;> omega
theorem cb_lo {h l : Nat} (hl : l < 256) : ∀ n : Nat, n ≤ 8 → cb (256 * h + l) n = cb l n := by
  intro n
  induction n with
  | zero => intro _; rfl
  | succ n ih =>
    intro hn
    have z := Nat.testBit_two_pow_mul_add h (show l < 2 ^ 8 from hl) n
    rw [show (2 : Nat) ^ 8 = 256 from rfl, if_pos (by omega)] at z
    rw [cb, cb, ih (by omega), z]
theorem cb_sp {h l : Nat} (hl : l < 256) : ∀ n : Nat, cb (256 * h + l) (8 + n) = cb l 8 + cb h n := by
  intro n
  induction n with
  | zero => exact cb_lo hl 8 (Nat.le_refl _)
  | succ n ih =>
    have z := Nat.testBit_two_pow_mul_add h (show l < 2 ^ 8 from hl) (8 + n)
    rw [show (2 : Nat) ^ 8 = 256 from rfl, if_neg (by omega), Nat.add_sub_cancel_left] at z
    have e1 : cb (256 * h + l) (8 + (n + 1)) = cb (256 * h + l) (8 + n) + (if (256 * h + l).testBit (8 + n) = true then 1 else 0) := rfl
    have e2 : cb h (n + 1) = cb h n + (if h.testBit n = true then 1 else 0) := rfl
    rw [e1, e2, ih, z]
    omega
theorem cb_8 : ∀ b, b < 256 → cb b 8 = pw (pz (py b)) := by decide +kernel
theorem cb_5 : ∀ c, c < 32 → cb c 5 = pw (pz (py c)) := by decide +kernel
theorem mBt_pop21 {x : Int} (hx : 0 ≤ x ∧ x < 2097152) : mBt x 21 = fwPop x := by
  obtain ⟨n, rfl⟩ : ∃ n : Nat, x = (n : Int) := ⟨x.toNat, by omega⟩
  obtain ⟨a, b, c, ha, hb, hc, rfl⟩ : ∃ a b c : Nat, a < 256 ∧ b < 256 ∧ c < 32 ∧ n = 256 * (256 * c + b) + a := ⟨n % 256, n / 256 % 256, n / 65536, by omega, by omega, by omega, by omega⟩
  rw [pop_nat ha hb hc, mBt_cb (by omega) 21 (by decide)]
  have z := cb_sp (h := 256 * c + b) ha (8 + 5)
  rw [cb_sp (h := c) hb 5, cb_8 a ha, cb_8 b hb, cb_5 c hc] at z
  rw [show cb (256 * (256 * c + b) + a) 21 = cb (256 * (256 * c + b) + a) (8 + (8 + 5)) from rfl, z]
  omega
theorem mBits_m {p : Nat → Bool} : ∀ n : Nat, n ≤ 21 → ∃ a : Nat, mBits p n = (a : Int) ∧ a < 2 ^ n ∧ (a = 0 ↔ ∀ k, k < n → ¬ p k = true) := by
  intro n
  induction n with
  | zero => intro _; exact ⟨0, rfl, by decide, fun _ k hk => absurd hk (Nat.not_lt_zero _), fun _ => rfl⟩
  | succ n ih =>
    intro hn
    obtain ⟨a, e, ha, hz⟩ := ih (by omega)
    have h1 : 2 ^ n < 2 ^ (n + 1) := Nat.pow_lt_pow_right (by omega) (by omega)
    have h2 : 2 ^ (n + 1) ≤ 2 ^ 21 := Nat.pow_le_pow_right (by omega) (by omega)
    rw [mBits]
    by_cases c : p n = true
    · rw [if_pos c, e, fwShl1_nat (by omega), fwOr_nat (by omega) (by omega)]
      refine ⟨_, rfl, Nat.or_lt_two_pow (by omega) h1, fun q => ?_, fun q => absurd c (q n (Nat.lt_succ_self _))⟩
      have q1 : 2 ^ n ≤ a ||| 2 ^ n := Nat.right_le_or
      have q2 : 0 < 2 ^ n := Nat.pow_pos (by decide)
      omega
    · rw [if_neg c]
      refine ⟨a, e, by omega, fun q k hk => ?_, fun q => hz.mpr (fun k hk => q k (Nat.lt_succ_of_lt hk))⟩
      rcases Nat.lt_succ_iff_lt_or_eq.mp hk with z | z
      · exact hz.mp q k z
      · rw [z]; exact c
theorem mBits_21 (p : Nat → Bool) : 0 ≤ mBits p 21 ∧ mBits p 21 < 2097152 := by
  obtain ⟨a, e, ha, -⟩ := mBits_m (p := p) 21 (Nat.le_refl _)
  rw [e]
  omega
theorem mBits_ne {p : Nat → Bool} {n : Nat} (hn : n ≤ 21) : mBits p n ≠ 0 ↔ ∃ k, k < n ∧ p k = true := by
  obtain ⟨a, e, ha, hz⟩ := mBits_m (p := p) n hn
  rw [e]
  constructor
  · intro q
    rcases Nat.eq_zero_or_pos a with z | z
    · omega
    · apply Classical.byContradiction
      intro w
      have := hz.mpr (fun k hk c => w ⟨k, hk, c⟩)
      omega
  · intro ⟨k, hk, c⟩ q
    exact hz.mp (by omega) k hk c
end

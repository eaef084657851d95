/-- a row of three holds with k FEET more, or is the one that is left out -/
def oH (gg : fwH) (s : Nat) (x : Int) (k r : Nat) : Bool := decide (3 * (r : Int) = x ∨ ¬ mMiP (gg 4 0 1) (mOH gg k) (gg 33 s) r = true)
def oB (gg : fwH) (s : Nat) (x : Int) (k : Nat) : Bool := mAll (oH gg s x k) (gg 35 0 s / 3).toNat
theorem oH_x {gg : fwH} {s : Nat} {x : Int} {k r : Nat} (h : 3 * (r : Int) = x) : oH gg s x k r = true := decide_eq_true (Or.inl h)
theorem oH_y {gg : fwH} {s : Nat} {x : Int} {k r : Nat} (h : fwB (mShadeB (gg 4 0 1) (mOH gg k) (gg 33 s (3 * r)) (gg 33 s (3 * r + 1)) = true) = fwB (gg 33 s (3 * r + 2) = 1)) : oH gg s x k r = true := by
  refine decide_eq_true (Or.inr (fun q => of_decide_eq_true q ?_))
  by_cases a : mShadeB (gg 4 0 1) (mOH gg k) (gg 33 s (3 * r)) (gg 33 s (3 * r + 1)) = true
  · by_cases b : gg 33 s (3 * r + 2) = 1
    · exact ⟨fun _ => b, fun _ => a⟩
    · rw [fwB_t a, fwB_f b] at h; omega
  · by_cases b : gg 33 s (3 * r + 2) = 1
    · rw [fwB_f a, fwB_t b] at h; omega
    · exact ⟨fun z => absurd z a, fun z => absurd z b⟩
theorem oH_n {gg : fwH} {s : Nat} {x : Int} {k r : Nat} (hx : ¬ 3 * (r : Int) = x) (h : ¬ fwB (mShadeB (gg 4 0 1) (mOH gg k) (gg 33 s (3 * r)) (gg 33 s (3 * r + 1)) = true) = fwB (gg 33 s (3 * r + 2) = 1)) : ¬ oH gg s x k r = true := by
  intro q
  rcases of_decide_eq_true q with z | z
  · exact hx z
  · refine z (decide_eq_true (fun e => h ?_))
    by_cases b : gg 33 s (3 * r + 2) = 1
    · rw [fwB_t b, fwB_t (e.mpr b)]
    · rw [fwB_f b, fwB_f (fun a => b (e.mp a))]
theorem oB_n {gg : fwH} {s : Nat} {x : Int} {k r : Nat} (hr : r < (gg 35 0 s / 3).toNat) (h : ¬ oH gg s x k r = true) : ¬ oB gg s x k = true := fun q => h ((mAll_iff _ _).mp q r hr)
set_option maxRecDepth 100000 in
set_option maxHeartbeats 4000000 in
theorem c_s_oldBy {d : Nat} {h gg : fwH} {Q : Option fwV → fwH → Prop} (s : Nat) (x : Int) (J : cOk gg) (R : jF gg h) (S : jS gg h) (hs : sOk gg) (hSl : oSl gg s) (hH : hiR (gg 4 0 1) (h 42 0) (gg 17 0)) (hx : -2147483648 ≤ x ∧ x < 2147483648) (k : ∀ A, hiR (gg 4 0 1) A (gg 17 0) → Q (some (aI (mBits (oB gg s x) 21))) (fwUc h 42 0 A)) : fwCt mX12_oldBy (d + 4) [aR 12 0, aI (s : Int), aI x] h Q := by
  refine fwCt_of [some (aR 12 0), some (aI (s : Int)), some (aI x), none, none, none, none] rfl rfl rfl ?_
  obtain ⟨hs4, hs5, hs6, hs7⟩ := id hSl
  refine w_iconst dX12_oldBy_0 ?_
  refine w_istore_n [some (aR 12 0), some (aI (s : Int)), some (aI x), some (aI 0), none, none, none] dX12_oldBy_1 rfl (by decide) ?_
  refine w_iconst dX12_oldBy_2 ?_
  refine w_istore [some (aR 12 0), some (aI (s : Int)), some (aI x), some (aI 0), some (aI 0), none, none] dX12_oldBy_3 rfl (by decide) ?_
  have lp5 : ∀ c : Nat, c ≤ 21 → ∀ (se y5 : Int) (A : Nat → Int), y5 = (c : Int) → se = mBits (oB gg s x) c → hiR (gg 4 0 1) A (gg 17 0) → fwWP mX12_oldBy (d + 4) 5 [some (aR 12 0), some (aI (s : Int)), some (aI x), some (aI se), some (aI y5), none, none] [] (fwUc h 42 0 A) Q := by
    refine fw_up (fun c hc5 ih5 => ?_)
    intro se y5 A ey5 ese hA5
    subst ey5
    subst ese
    show fwWP mX12_oldBy (d + 4) 5 [some (aR 12 0), some (aI (s : Int)), some (aI x), some (aI (mBits (oB gg s x) c)), some (aI (c : Int)), none, none] [] (fwUc h 42 0 A) Q
    refine w_iload dX12_oldBy_5 rfl ?_
    refine w_bipush dX12_oldBy_7 rfl ?_
    refine w_icmp_gt 121 dX12_oldBy_9 (by decide) (by omega) (by omega) (fun c9 => ?_) (fun c9 => ?_)
    · refine w_iload_n dX12_oldBy_121 rfl ?_
      have ec9 : c = 21 := by omega
      subst ec9
      exact w_iret dX12_oldBy_122 rfl (k _ hA5)
    · refine w_iconst dX12_oldBy_12 ?_
      refine w_istore [some (aR 12 0), some (aI (s : Int)), some (aI x), some (aI (mBits (oB gg s x) c)), some (aI (c : Int)), some (aI 1), none] dX12_oldBy_13 rfl (by decide) ?_
      refine w_iconst dX12_oldBy_15 ?_
      refine w_istore [some (aR 12 0), some (aI (s : Int)), some (aI x), some (aI (mBits (oB gg s x) c)), some (aI (c : Int)), some (aI 1), some (aI 0)] dX12_oldBy_16 rfl (by decide) ?_
      have lp18 : ∀ c2 : Nat, c2 ≤ (gg 35 0 s / 3).toNat → ∀ (ho y18 : Int) (A2 : Nat → Int), y18 = 3 * (c2 : Int) → ((ho = 1 ∧ mAll (oH gg s x c) c2 = true) ∨ (ho = 0 ∧ ¬ oB gg s x c = true)) → hiR (gg 4 0 1) A2 (gg 17 0) → fwWP mX12_oldBy (d + 4) 18 [some (aR 12 0), some (aI (s : Int)), some (aI x), some (aI (mBits (oB gg s x) c)), some (aI (c : Int)), some (aI ho), some (aI y18)] [] (fwUc h 42 0 A2) Q := by
        refine fw_up (fun c2 hc18 ih18 => ?_)
        intro ho y18 A2 ey18 hho hA18
        subst ey18
        have hb1 : 0 ≤ ho ∧ ho ≤ 1 := by rcases hho with z | z <;> omega
        show fwWP mX12_oldBy (d + 4) 18 [some (aR 12 0), some (aI (s : Int)), some (aI x), some (aI (mBits (oB gg s x) c)), some (aI (c : Int)), some (aI ho), some (aI (3 * (c2 : Int)))] [] (fwUc h 42 0 A2) Q
        refine w_iload dX12_oldBy_18 rfl ?_
        refine w_aload_n dX12_oldBy_20 rfl ?_
        refine w_getr 46 0 dX12_oldBy_21 fl_X12_47 rfl (by decide) ?_
        refine w_iload_n dX12_oldBy_24 rfl ?_
        refine w_ialdE (v := gg 35 0 s) dX12_oldBy_25 rfl (by decide) (by omega) (by omega) (S s (by omega)).1 ?_
        refine w_icmp_ge 99 dX12_oldBy_26 (by decide) (by omega) (by omega) (fun c26 => ?_) (fun c26 => ?_)
        · refine w_iload_n dX12_oldBy_99 rfl ?_
          refine w_iload dX12_oldBy_100 rfl ?_
          refine w_if_eq 112 dX12_oldBy_102 (by decide) (by omega) (fun c102 => ?_) (fun c102 => ?_)
          · have hnot : ¬ oB gg s x c = true := by rcases hho with z | z; (exfalso; omega); exact z.2
            refine w_iconst dX12_oldBy_112 ?_
            refine w_ior dX12_oldBy_113 ?_
            refine w_istore_n [some (aR 12 0), some (aI (s : Int)), some (aI x), some (aI (fwOr (mBits (oB gg s x) c) 0)), some (aI (c : Int)), some (aI ho), some (aI (3 * (c2 : Int)))] dX12_oldBy_114 rfl (by decide) ?_
            refine w_iinc [some (aR 12 0), some (aI (s : Int)), some (aI x), some (aI (fwOr (mBits (oB gg s x) c) 0)), some (aI ((c : Int) + 1)), some (aI ho), some (aI (3 * (c2 : Int)))] dX12_oldBy_115 rfl rfl (by decide) ?_
            refine w_goto 5 dX12_oldBy_118 (by decide) ?_
            refine w_drop [5, 6] [some (aR 12 0), some (aI (s : Int)), some (aI x), some (aI (fwOr (mBits (oB gg s x) c) 0)), some (aI ((c : Int) + 1)), none, none] rfl ?_
            exact ih5 (by omega) _ _ _ (by omega) (by rw [mBits, if_neg hnot, fwOr_0 (mBits_rng _ _)]) hA18
          · have hyes : oB gg s x c = true := by rcases hho with z | z; (unfold oB; rw [show (gg 35 0 s / 3).toNat = c2 by omega]; exact z.2); (exfalso; omega)
            refine w_iconst dX12_oldBy_105 ?_
            refine w_iload dX12_oldBy_106 rfl ?_
            refine w_ishl dX12_oldBy_108 ?_
            refine w_goto 113 dX12_oldBy_109 (by decide) ?_
            refine w_ior dX12_oldBy_113 ?_
            refine w_istore_n [some (aR 12 0), some (aI (s : Int)), some (aI x), some (aI (fwOr (mBits (oB gg s x) c) (fwShl 1 (c : Int)))), some (aI (c : Int)), some (aI ho), some (aI (3 * (c2 : Int)))] dX12_oldBy_114 rfl (by decide) ?_
            refine w_iinc [some (aR 12 0), some (aI (s : Int)), some (aI x), some (aI (fwOr (mBits (oB gg s x) c) (fwShl 1 (c : Int)))), some (aI ((c : Int) + 1)), some (aI ho), some (aI (3 * (c2 : Int)))] dX12_oldBy_115 rfl rfl (by decide) ?_
            refine w_goto 5 dX12_oldBy_118 (by decide) ?_
            refine w_drop [5, 6] [some (aR 12 0), some (aI (s : Int)), some (aI x), some (aI (fwOr (mBits (oB gg s x) c) (fwShl 1 (c : Int)))), some (aI ((c : Int) + 1)), none, none] rfl ?_
            exact ih5 (by omega) _ _ _ (by omega) (by rw [mBits, if_pos hyes]) hA18
        · refine w_iload dX12_oldBy_29 rfl ?_
          refine w_if_eq 99 dX12_oldBy_31 (by decide) (by omega) (fun c31 => ?_) (fun c31 => ?_)
          · refine w_iload_n dX12_oldBy_99 rfl ?_
            refine w_iload dX12_oldBy_100 rfl ?_
            refine w_if_eq 112 dX12_oldBy_102 (by decide) (by omega) (fun c102 => ?_) (fun c102 => ?_)
            · have hnot : ¬ oB gg s x c = true := by rcases hho with z | z; (exfalso; omega); exact z.2
              refine w_iconst dX12_oldBy_112 ?_
              refine w_ior dX12_oldBy_113 ?_
              refine w_istore_n [some (aR 12 0), some (aI (s : Int)), some (aI x), some (aI (fwOr (mBits (oB gg s x) c) 0)), some (aI (c : Int)), some (aI ho), some (aI (3 * (c2 : Int)))] dX12_oldBy_114 rfl (by decide) ?_
              refine w_iinc [some (aR 12 0), some (aI (s : Int)), some (aI x), some (aI (fwOr (mBits (oB gg s x) c) 0)), some (aI ((c : Int) + 1)), some (aI ho), some (aI (3 * (c2 : Int)))] dX12_oldBy_115 rfl rfl (by decide) ?_
              refine w_goto 5 dX12_oldBy_118 (by decide) ?_
              refine w_drop [5, 6] [some (aR 12 0), some (aI (s : Int)), some (aI x), some (aI (fwOr (mBits (oB gg s x) c) 0)), some (aI ((c : Int) + 1)), none, none] rfl ?_
              exact ih5 (by omega) _ _ _ (by omega) (by rw [mBits, if_neg hnot, fwOr_0 (mBits_rng _ _)]) hA18
            · have hyes : oB gg s x c = true := by rcases hho with z | z; (unfold oB; rw [show (gg 35 0 s / 3).toNat = c2 by omega]; exact z.2); (exfalso; omega)
              refine w_iconst dX12_oldBy_105 ?_
              refine w_iload dX12_oldBy_106 rfl ?_
              refine w_ishl dX12_oldBy_108 ?_
              refine w_goto 113 dX12_oldBy_109 (by decide) ?_
              refine w_ior dX12_oldBy_113 ?_
              refine w_istore_n [some (aR 12 0), some (aI (s : Int)), some (aI x), some (aI (fwOr (mBits (oB gg s x) c) (fwShl 1 (c : Int)))), some (aI (c : Int)), some (aI ho), some (aI (3 * (c2 : Int)))] dX12_oldBy_114 rfl (by decide) ?_
              refine w_iinc [some (aR 12 0), some (aI (s : Int)), some (aI x), some (aI (fwOr (mBits (oB gg s x) c) (fwShl 1 (c : Int)))), some (aI ((c : Int) + 1)), some (aI ho), some (aI (3 * (c2 : Int)))] dX12_oldBy_115 rfl rfl (by decide) ?_
              refine w_goto 5 dX12_oldBy_118 (by decide) ?_
              refine w_drop [5, 6] [some (aR 12 0), some (aI (s : Int)), some (aI x), some (aI (fwOr (mBits (oB gg s x) c) (fwShl 1 (c : Int)))), some (aI ((c : Int) + 1)), none, none] rfl ?_
              exact ih5 (by omega) _ _ _ (by omega) (by rw [mBits, if_pos hyes]) hA18
          · have hq9 := of_decide_eq_true ((mAll_iff _ _).mp hSl.2.2.2 c2 (by omega))
            have hall : mAll (oH gg s x c) c2 = true := by rcases hho with z | z; exact z.2; exact absurd z.1 c31
            refine w_iload dX12_oldBy_34 rfl ?_
            refine w_iload_n dX12_oldBy_36 rfl ?_
            refine w_icmp_eq 86 dX12_oldBy_37 (by decide) (by omega) (by omega) (fun c37 => ?_) (fun c37 => ?_)
            · refine w_iconst dX12_oldBy_86 ?_
              refine w_goto 91 dX12_oldBy_87 (by decide) ?_
              refine w_istore [some (aR 12 0), some (aI (s : Int)), some (aI x), some (aI (mBits (oB gg s x) c)), some (aI (c : Int)), some (aI 1), some (aI (3 * (c2 : Int)))] dX12_oldBy_91 rfl (by decide) ?_
              refine w_iinc [some (aR 12 0), some (aI (s : Int)), some (aI x), some (aI (mBits (oB gg s x) c)), some (aI (c : Int)), some (aI 1), some (aI ((3 * (c2 : Int)) + 3))] dX12_oldBy_93 rfl rfl (by decide) ?_
              refine w_goto 18 dX12_oldBy_96 (by decide) ?_
              exact ih18 (by omega) _ _ _ (by omega) (Or.inl ⟨rfl, by rw [mAll, hall, Bool.true_and]; exact oH_x (by omega)⟩) hA18
            · refine w_aload_n dX12_oldBy_40 rfl ?_
              refine w_iload dX12_oldBy_41 rfl ?_
              refine w_aload_n dX12_oldBy_43 rfl ?_
              refine w_iload_n dX12_oldBy_44 rfl ?_
              refine w_iload dX12_oldBy_45 rfl ?_
              refine w_callV (d := d + 3) (S := [aI (c : Int), aR 12 0]) [aI (s : Int), aI (3 * (c2 : Int))] dX12_oldBy_47 ml_X12_360 ok_X12_numberAt vi_X12_numberAt rfl rfl (by decide) rfl (Nat.le_of_ble_eq_true rfl) ?_
              refine c_naE (d := (d + 3)) s (3 * c2) (s : Int) (3 * (c2 : Int)) S (by omega) (by omega) (by omega) (by omega) ?_
              show fwWP mX12_oldBy (d + 4) 50 [some (aR 12 0), some (aI (s : Int)), some (aI x), some (aI (mBits (oB gg s x) c)), some (aI (c : Int)), some (aI ho), some (aI (3 * (c2 : Int)))] [aJ (gg 33 s (3 * c2)), aI (c : Int), aR 12 0] (fwUc h 42 0 A2) Q
              have hl7 := (hs s (by omega)).2.2 (3 * c2) (by omega)
              refine w_l2i dX12_oldBy_50 ?_
              refine w_aload_n dX12_oldBy_51 rfl ?_
              refine w_iload_n dX12_oldBy_52 rfl ?_
              refine w_iload dX12_oldBy_53 rfl ?_
              refine w_iconst dX12_oldBy_55 ?_
              refine w_iadd dX12_oldBy_56 ?_
              refine w_callV (d := d + 3) (S := [aI (gg 33 s (3 * c2)), aI (c : Int), aR 12 0]) [aI (s : Int), aI ((3 * (c2 : Int)) + 1)] dX12_oldBy_57 ml_X12_360 ok_X12_numberAt vi_X12_numberAt rfl rfl (by decide) rfl (Nat.le_of_ble_eq_true rfl) ?_
              refine c_naE (d := (d + 3)) s ((3 * c2) + 1) (s : Int) ((3 * (c2 : Int)) + 1) S (by omega) (by omega) (by omega) (by omega) ?_
              show fwWP mX12_oldBy (d + 4) 60 [some (aR 12 0), some (aI (s : Int)), some (aI x), some (aI (mBits (oB gg s x) c)), some (aI (c : Int)), some (aI ho), some (aI (3 * (c2 : Int)))] [aJ (gg 33 s ((3 * c2) + 1)), aI (gg 33 s (3 * c2)), aI (c : Int), aR 12 0] (fwUc h 42 0 A2) Q
              have hl8 := (hs s (by omega)).2.2 ((3 * c2) + 1) (by omega)
              refine w_l2i dX12_oldBy_60 ?_
              refine w_callV (d := d + 3) (S := []) [aI (c : Int), aI (gg 33 s (3 * c2)), aI (gg 33 s ((3 * c2) + 1))] dX12_oldBy_61 ml_X12_364 ok_X12_wasDark vi_X12_wasDark rfl rfl (by decide) rfl (Nat.le_of_ble_eq_true rfl) ?_
              refine c_X12_wasDark (d := d) c (gg 33 s (3 * c2)) (gg 33 s ((3 * c2) + 1)) J R hA18 (by omega) (by omega) (by omega) ?_
              intro A61_9 hA61_9; rw [fwUc_uc]
              show fwWP mX12_oldBy (d + 4) 64 [some (aR 12 0), some (aI (s : Int)), some (aI x), some (aI (mBits (oB gg s x) c)), some (aI (c : Int)), some (aI ho), some (aI (3 * (c2 : Int)))] [aI (fwB (mShadeB (gg 4 0 1) (mOH gg c) (gg 33 s (3 * c2)) (gg 33 s ((3 * c2) + 1)) = true))] (fwUc h 42 0 A61_9) Q
              refine w_aload_n dX12_oldBy_64 rfl ?_
              refine w_iload_n dX12_oldBy_65 rfl ?_
              refine w_iload dX12_oldBy_66 rfl ?_
              refine w_iconst dX12_oldBy_68 ?_
              refine w_iadd dX12_oldBy_69 ?_
              refine w_callV (d := d + 3) (S := [aI (fwB (mShadeB (gg 4 0 1) (mOH gg c) (gg 33 s (3 * c2)) (gg 33 s ((3 * c2) + 1)) = true))]) [aI (s : Int), aI ((3 * (c2 : Int)) + 2)] dX12_oldBy_70 ml_X12_360 ok_X12_numberAt vi_X12_numberAt rfl rfl (by decide) rfl (Nat.le_of_ble_eq_true rfl) ?_
              refine c_naE (d := (d + 3)) s ((3 * c2) + 2) (s : Int) ((3 * (c2 : Int)) + 2) S (by omega) (by omega) (by omega) (by omega) ?_
              show fwWP mX12_oldBy (d + 4) 73 [some (aR 12 0), some (aI (s : Int)), some (aI x), some (aI (mBits (oB gg s x) c)), some (aI (c : Int)), some (aI ho), some (aI (3 * (c2 : Int)))] [aJ (gg 33 s ((3 * c2) + 2)), aI (fwB (mShadeB (gg 4 0 1) (mOH gg c) (gg 33 s (3 * c2)) (gg 33 s ((3 * c2) + 1)) = true))] (fwUc h 42 0 A61_9) Q
              have hl10 := (hs s (by omega)).2.2 ((3 * c2) + 2) (by omega)
              refine w_lconst (z := 1) dX12_oldBy_73 rfl ?_
              refine w_lc_ne 82 dX12_oldBy_74 dX12_oldBy_75 (by decide) (by omega) (by omega) (fun c75 => ?_) (fun c75 => ?_)
              · refine w_iconst dX12_oldBy_82 ?_
                have hb83 := fwB_01 (mShadeB (gg 4 0 1) (mOH gg c) (gg 33 s (3 * c2)) (gg 33 s ((3 * c2) + 1)) = true)
                refine w_icmp_ne 90 dX12_oldBy_83 (by decide) (by omega) (by omega) (fun c83 => ?_) (fun c83 => ?_)
                · refine w_iconst dX12_oldBy_90 ?_
                  refine w_istore [some (aR 12 0), some (aI (s : Int)), some (aI x), some (aI (mBits (oB gg s x) c)), some (aI (c : Int)), some (aI 0), some (aI (3 * (c2 : Int)))] dX12_oldBy_91 rfl (by decide) ?_
                  refine w_iinc [some (aR 12 0), some (aI (s : Int)), some (aI x), some (aI (mBits (oB gg s x) c)), some (aI (c : Int)), some (aI 0), some (aI ((3 * (c2 : Int)) + 3))] dX12_oldBy_93 rfl rfl (by decide) ?_
                  refine w_goto 18 dX12_oldBy_96 (by decide) ?_
                  exact ih18 (by omega) _ _ _ (by omega) (Or.inr ⟨rfl, oB_n (show c2 < (gg 35 0 s / 3).toNat by omega) (oH_n (by omega) (by rw [fwB_f c75]; omega))⟩) hA61_9
                · refine w_iconst dX12_oldBy_86 ?_
                  refine w_goto 91 dX12_oldBy_87 (by decide) ?_
                  refine w_istore [some (aR 12 0), some (aI (s : Int)), some (aI x), some (aI (mBits (oB gg s x) c)), some (aI (c : Int)), some (aI 1), some (aI (3 * (c2 : Int)))] dX12_oldBy_91 rfl (by decide) ?_
                  refine w_iinc [some (aR 12 0), some (aI (s : Int)), some (aI x), some (aI (mBits (oB gg s x) c)), some (aI (c : Int)), some (aI 1), some (aI ((3 * (c2 : Int)) + 3))] dX12_oldBy_93 rfl rfl (by decide) ?_
                  refine w_goto 18 dX12_oldBy_96 (by decide) ?_
                  exact ih18 (by omega) _ _ _ (by omega) (Or.inl ⟨rfl, by rw [mAll, hall, Bool.true_and]; exact oH_y (by rw [fwB_f c75]; omega)⟩) hA61_9
              · refine w_iconst dX12_oldBy_78 ?_
                refine w_goto 83 dX12_oldBy_79 (by decide) ?_
                have hb83 := fwB_01 (mShadeB (gg 4 0 1) (mOH gg c) (gg 33 s (3 * c2)) (gg 33 s ((3 * c2) + 1)) = true)
                refine w_icmp_ne 90 dX12_oldBy_83 (by decide) (by omega) (by omega) (fun c83 => ?_) (fun c83 => ?_)
                · refine w_iconst dX12_oldBy_90 ?_
                  refine w_istore [some (aR 12 0), some (aI (s : Int)), some (aI x), some (aI (mBits (oB gg s x) c)), some (aI (c : Int)), some (aI 0), some (aI (3 * (c2 : Int)))] dX12_oldBy_91 rfl (by decide) ?_
                  refine w_iinc [some (aR 12 0), some (aI (s : Int)), some (aI x), some (aI (mBits (oB gg s x) c)), some (aI (c : Int)), some (aI 0), some (aI ((3 * (c2 : Int)) + 3))] dX12_oldBy_93 rfl rfl (by decide) ?_
                  refine w_goto 18 dX12_oldBy_96 (by decide) ?_
                  exact ih18 (by omega) _ _ _ (by omega) (Or.inr ⟨rfl, oB_n (show c2 < (gg 35 0 s / 3).toNat by omega) (oH_n (by omega) (by rw [fwB_t c75]; omega))⟩) hA61_9
                · refine w_iconst dX12_oldBy_86 ?_
                  refine w_goto 91 dX12_oldBy_87 (by decide) ?_
                  refine w_istore [some (aR 12 0), some (aI (s : Int)), some (aI x), some (aI (mBits (oB gg s x) c)), some (aI (c : Int)), some (aI 1), some (aI (3 * (c2 : Int)))] dX12_oldBy_91 rfl (by decide) ?_
                  refine w_iinc [some (aR 12 0), some (aI (s : Int)), some (aI x), some (aI (mBits (oB gg s x) c)), some (aI (c : Int)), some (aI 1), some (aI ((3 * (c2 : Int)) + 3))] dX12_oldBy_93 rfl rfl (by decide) ?_
                  refine w_goto 18 dX12_oldBy_96 (by decide) ?_
                  exact ih18 (by omega) _ _ _ (by omega) (Or.inl ⟨rfl, by rw [mAll, hall, Bool.true_and]; exact oH_y (by rw [fwB_t c75]; omega)⟩) hA61_9
      exact lp18 0 (by omega) _ _ _ (by omega) (Or.inl ⟨rfl, rfl⟩) hA5
  have e42 := fwUc_self h 42 0
  rw [← e42]
  exact lp5 0 (by omega) _ _ _ rfl rfl hH
theorem mMis_all (p : Nat → Bool) : ∀ r : Nat, (mMis p r).1 = 0 ↔ ∀ j, j < r → ¬ p j = true := by
  intro r
  induction r with
  | zero => exact ⟨fun _ j hj => absurd hj (Nat.not_lt_zero _), fun _ => rfl⟩
  | succ r ih =>
    have hr := mMis_rng p r
    rw [mMis]
    constructor
    · intro q j hj
      by_cases c : p r = true
      · rw [if_pos c] at q; dsimp only at q; omega
      · rw [if_neg c] at q
        rcases Nat.lt_succ_iff_lt_or_eq.mp hj with z | z
        · exact ih.mp q j z
        · rw [z]; exact c
    · intro q
      rw [if_neg (q r (Nat.lt_succ_self _))]
      exact ih.mpr (fun j hj => q j (Nat.lt_succ_of_lt hj))
theorem oB_pos (gg : fwH) (s k : Nat) : oB gg s (-1) k = decide ((mMs gg s k).1 = 0) := by
  rw [Bool.eq_iff_iff, decide_eq_true_iff]
  unfold oB mMs
  rw [mAll_iff, mMis_all]
  constructor
  · intro q j hj c
    rcases of_decide_eq_true (q j hj) with z | z
    · omega
    · exact z c
  · intro q j hj
    exact decide_eq_true (Or.inr (q j hj))
theorem oB_posF (gg : fwH) (s n : Nat) : mBits (oB gg s (-1)) n = mPos gg s n := by
  unfold mPos
  rw [show oB gg s (-1) = fun k => decide ((mMs gg s k).1 = 0) from funext (oB_pos gg s)]
theorem c_s_oldN {d : Nat} {h gg : fwH} {Q : Option fwV → fwH → Prop} (s w : Nat) (hw : w = 21) (J : cOk gg) (R : jF gg h) (S : jS gg h) (hs : sOk gg) (hSl : oSl gg s) (hH : hiR (gg 4 0 1) (h 42 0) (gg 17 0)) (k : ∀ A, hiR (gg 4 0 1) A (gg 17 0) → Q (some (aI (mPos gg s w))) (fwUc h 42 0 A)) : fwCt mX12_oldBy (d + 4) [aR 12 0, aI (s : Int), aI (-1)] h Q := by
  subst hw
  refine c_s_oldBy s (-1) J R S hs hSl hH (by omega) (fun A hA => ?_)
  rw [oB_posF]
  exact k A hA
theorem c_s_oldE {d : Nat} {h gg : fwH} {Q : Option fwV → fwH → Prop} (s w : Nat) (x : Int) (hw : w = 21) (J : cOk gg) (R : jF gg h) (S : jS gg h) (hs : sOk gg) (hSl : oSl gg s) (hH : hiR (gg 4 0 1) (h 42 0) (gg 17 0)) (hx : -2147483648 ≤ x ∧ x < 2147483648) (k : ∀ A, hiR (gg 4 0 1) A (gg 17 0) → Q (some (aI (mBits (oB gg s x) w))) (fwUc h 42 0 A)) : fwCt mX12_oldBy (d + 4) [aR 12 0, aI (s : Int), aI x] h Q := by
  subst hw
  exact c_s_oldBy s x J R S hs hSl hH hx k

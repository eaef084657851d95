section
theorem w_icmpF_lt {M : fwM} {d pc : Nat} {L : List (Option fwV)} {S : List fwV} {h : fwH} {Q : Option fwV → fwH → Prop} {x y off : Int} (tgt : Nat) (hd : decode M.2.1 pc = .ok (.if_icmp .lt off, 3)) (ht : (pc : Int) + off = (tgt : Int)) (kt : fwWP M d tgt L S h Q) (kf : fwWP M d (pc + 3) L S h Q) : fwWP M d pc L (aI y :: aI x :: S) h Q := by
  intro l p e s m args below meth c ad D tc H locs ls C X
  exact lv_icmp_lt C.1 C.2.1 hd ht (fun _ => kt l p e s m args below meth c ad D tc H locs ls C X) (fun _ => kf l p e s m args below meth c ad D tc H locs ls C X)
theorem W12_42 (h : fwH) (A r B : Nat → Int) : fwUc (fwUc (fwUc h 42 0 A) 12 0 r) 42 0 B = fwUc (fwUc h 42 0 B) 12 0 r := by
  rw [fwUc_cmm r B (show 12 ≠ 42 by decide), fwUc_uc]
/-- a SLOT whose row tells of light, as the questions find it -/
def oSl (gg : fwH) (s : Nat) : Prop := s < 4 ∧ (0 ≤ gg 35 0 s ∧ gg 35 0 s ≤ 60) ∧ gg 35 0 s % 3 = 0 ∧ mAll (mSiP (gg 33 s) (gg 4 0 1)) (gg 35 0 s / 3).toNat = true
set_option maxRecDepth 100000 in
set_option maxHeartbeats 4000000 in
theorem c_w_oldBy {d : Nat} {h gg : fwH} {Q : Option fwV → fwH → Prop} (s : Nat) (x : Int) (J : cOk gg) (R : jF gg h) (S : jS gg h) (hs : sOk gg) (hSl : oSl gg s) (hH : hiR (gg 4 0 1) (h 42 0) (gg 17 0)) (hx : -2147483648 ≤ x ∧ x < 2147483648) (k : ∀ v A, hiR (gg 4 0 1) A (gg 17 0) → Q (some (aI v)) (fwUc h 42 0 A)) : fwCt mX12_oldBy (d + 4) [aR 12 0, aI (s : Int), aI x] h Q := by
  refine fwCt_of [some (aR 12 0), some (aI (s : Int)), some (aI x), none, none, none, none] rfl rfl rfl ?_
  obtain ⟨hs4, hs5, hs6, hs7⟩ := id hSl
  refine w_iconst dX12_oldBy_0 ?_
  refine w_istore_n [some (aR 12 0), some (aI (s : Int)), some (aI x), some (aI 0), none, none, none] dX12_oldBy_1 rfl (by decide) ?_
  refine w_iconst dX12_oldBy_2 ?_
  refine w_istore [some (aR 12 0), some (aI (s : Int)), some (aI x), some (aI 0), some (aI 0), none, none] dX12_oldBy_3 rfl (by decide) ?_
  have lp5 : ∀ c : Nat, c ≤ 21 → ∀ (se y5 : Int) (A : Nat → Int), y5 = (c : Int) → hiR (gg 4 0 1) A (gg 17 0) → fwWP mX12_oldBy (d + 4) 5 [some (aR 12 0), some (aI (s : Int)), some (aI x), some (aI se), some (aI y5), none, none] [] (fwUc h 42 0 A) Q := by
    refine fw_up (fun c hc5 ih5 => ?_)
    intro se y5 A ey5 hA5
    subst ey5
    show fwWP mX12_oldBy (d + 4) 5 [some (aR 12 0), some (aI (s : Int)), some (aI x), some (aI se), some (aI (c : Int)), none, none] [] (fwUc h 42 0 A) Q
    refine w_iload dX12_oldBy_5 rfl ?_
    refine w_bipush dX12_oldBy_7 rfl ?_
    refine w_icmp_gt 121 dX12_oldBy_9 (by decide) (by omega) (by omega) (fun c9 => ?_) (fun c9 => ?_)
    · refine w_iload_n dX12_oldBy_121 rfl ?_
      exact w_iret dX12_oldBy_122 rfl (k _ _ hA5)
    · refine w_iconst dX12_oldBy_12 ?_
      refine w_istore [some (aR 12 0), some (aI (s : Int)), some (aI x), some (aI se), some (aI (c : Int)), some (aI 1), none] dX12_oldBy_13 rfl (by decide) ?_
      refine w_iconst dX12_oldBy_15 ?_
      refine w_istore [some (aR 12 0), some (aI (s : Int)), some (aI x), some (aI se), some (aI (c : Int)), some (aI 1), some (aI 0)] dX12_oldBy_16 rfl (by decide) ?_
      have lp18 : ∀ c2 : Nat, c2 ≤ (gg 35 0 s / 3).toNat → ∀ (ho y18 : Int) (A2 : Nat → Int), y18 = 3 * (c2 : Int) → (0 ≤ ho ∧ ho ≤ 1) → hiR (gg 4 0 1) A2 (gg 17 0) → fwWP mX12_oldBy (d + 4) 18 [some (aR 12 0), some (aI (s : Int)), some (aI x), some (aI se), some (aI (c : Int)), some (aI ho), some (aI y18)] [] (fwUc h 42 0 A2) Q := by
        refine fw_up (fun c2 hc18 ih18 => ?_)
        intro ho y18 A2 ey18 hho hA18
        subst ey18
        show fwWP mX12_oldBy (d + 4) 18 [some (aR 12 0), some (aI (s : Int)), some (aI x), some (aI se), some (aI (c : Int)), some (aI ho), some (aI (3 * (c2 : Int)))] [] (fwUc h 42 0 A2) Q
        refine w_iload dX12_oldBy_18 rfl ?_
        refine w_aload_n dX12_oldBy_20 rfl ?_
        refine w_getr 46 0 dX12_oldBy_21 fl_X12_47 rfl (by decide) ?_
        refine w_iload_n dX12_oldBy_24 rfl ?_
        refine w_ialdE (v := gg 35 0 s) dX12_oldBy_25 rfl (by decide) (by omega) (by omega) (S s (by omega)).1 ?_
        refine w_icmp_ge 99 dX12_oldBy_26 (by decide) (by omega) (by omega) (fun c26 => ?_) (fun c26 => ?_)
        · refine w_iload_n dX12_oldBy_99 rfl ?_
          refine w_iload dX12_oldBy_100 rfl ?_
          refine w_if_eq 112 dX12_oldBy_102 (by decide) (by omega) (fun c102 => ?_) (fun c102 => ?_)
          · refine w_iconst dX12_oldBy_112 ?_
            refine w_ior dX12_oldBy_113 ?_
            refine w_istore_n [some (aR 12 0), some (aI (s : Int)), some (aI x), some (aI (fwOr se 0)), some (aI (c : Int)), some (aI ho), some (aI (3 * (c2 : Int)))] dX12_oldBy_114 rfl (by decide) ?_
            refine w_iinc [some (aR 12 0), some (aI (s : Int)), some (aI x), some (aI (fwOr se 0)), some (aI ((c : Int) + 1)), some (aI ho), some (aI (3 * (c2 : Int)))] dX12_oldBy_115 rfl rfl (by decide) ?_
            refine w_goto 5 dX12_oldBy_118 (by decide) ?_
            refine w_drop [5, 6] [some (aR 12 0), some (aI (s : Int)), some (aI x), some (aI (fwOr se 0)), some (aI ((c : Int) + 1)), none, none] rfl ?_
            exact ih5 (by omega) _ _ _ (by omega) hA18
          · refine w_iconst dX12_oldBy_105 ?_
            refine w_iload dX12_oldBy_106 rfl ?_
            refine w_ishl dX12_oldBy_108 ?_
            refine w_goto 113 dX12_oldBy_109 (by decide) ?_
            refine w_ior dX12_oldBy_113 ?_
            refine w_istore_n [some (aR 12 0), some (aI (s : Int)), some (aI x), some (aI (fwOr se (fwShl 1 (c : Int)))), some (aI (c : Int)), some (aI ho), some (aI (3 * (c2 : Int)))] dX12_oldBy_114 rfl (by decide) ?_
            refine w_iinc [some (aR 12 0), some (aI (s : Int)), some (aI x), some (aI (fwOr se (fwShl 1 (c : Int)))), some (aI ((c : Int) + 1)), some (aI ho), some (aI (3 * (c2 : Int)))] dX12_oldBy_115 rfl rfl (by decide) ?_
            refine w_goto 5 dX12_oldBy_118 (by decide) ?_
            refine w_drop [5, 6] [some (aR 12 0), some (aI (s : Int)), some (aI x), some (aI (fwOr se (fwShl 1 (c : Int)))), some (aI ((c : Int) + 1)), none, none] rfl ?_
            exact ih5 (by omega) _ _ _ (by omega) hA18
        · refine w_iload dX12_oldBy_29 rfl ?_
          refine w_if_eq 99 dX12_oldBy_31 (by decide) (by omega) (fun c31 => ?_) (fun c31 => ?_)
          · refine w_iload_n dX12_oldBy_99 rfl ?_
            refine w_iload dX12_oldBy_100 rfl ?_
            refine w_if_eq 112 dX12_oldBy_102 (by decide) (by omega) (fun c102 => ?_) (fun c102 => ?_)
            · refine w_iconst dX12_oldBy_112 ?_
              refine w_ior dX12_oldBy_113 ?_
              refine w_istore_n [some (aR 12 0), some (aI (s : Int)), some (aI x), some (aI (fwOr se 0)), some (aI (c : Int)), some (aI ho), some (aI (3 * (c2 : Int)))] dX12_oldBy_114 rfl (by decide) ?_
              refine w_iinc [some (aR 12 0), some (aI (s : Int)), some (aI x), some (aI (fwOr se 0)), some (aI ((c : Int) + 1)), some (aI ho), some (aI (3 * (c2 : Int)))] dX12_oldBy_115 rfl rfl (by decide) ?_
              refine w_goto 5 dX12_oldBy_118 (by decide) ?_
              refine w_drop [5, 6] [some (aR 12 0), some (aI (s : Int)), some (aI x), some (aI (fwOr se 0)), some (aI ((c : Int) + 1)), none, none] rfl ?_
              exact ih5 (by omega) _ _ _ (by omega) hA18
            · refine w_iconst dX12_oldBy_105 ?_
              refine w_iload dX12_oldBy_106 rfl ?_
              refine w_ishl dX12_oldBy_108 ?_
              refine w_goto 113 dX12_oldBy_109 (by decide) ?_
              refine w_ior dX12_oldBy_113 ?_
              refine w_istore_n [some (aR 12 0), some (aI (s : Int)), some (aI x), some (aI (fwOr se (fwShl 1 (c : Int)))), some (aI (c : Int)), some (aI ho), some (aI (3 * (c2 : Int)))] dX12_oldBy_114 rfl (by decide) ?_
              refine w_iinc [some (aR 12 0), some (aI (s : Int)), some (aI x), some (aI (fwOr se (fwShl 1 (c : Int)))), some (aI ((c : Int) + 1)), some (aI ho), some (aI (3 * (c2 : Int)))] dX12_oldBy_115 rfl rfl (by decide) ?_
              refine w_goto 5 dX12_oldBy_118 (by decide) ?_
              refine w_drop [5, 6] [some (aR 12 0), some (aI (s : Int)), some (aI x), some (aI (fwOr se (fwShl 1 (c : Int)))), some (aI ((c : Int) + 1)), none, none] rfl ?_
              exact ih5 (by omega) _ _ _ (by omega) hA18
          · have hq9 := of_decide_eq_true ((mAll_iff _ _).mp hSl.2.2.2 c2 (by omega))
            refine w_iload dX12_oldBy_34 rfl ?_
            refine w_iload_n dX12_oldBy_36 rfl ?_
            refine w_icmp_eq 86 dX12_oldBy_37 (by decide) (by omega) (by omega) (fun c37 => ?_) (fun c37 => ?_)
            · refine w_iconst dX12_oldBy_86 ?_
              refine w_goto 91 dX12_oldBy_87 (by decide) ?_
              refine w_istore [some (aR 12 0), some (aI (s : Int)), some (aI x), some (aI se), some (aI (c : Int)), some (aI 1), some (aI (3 * (c2 : Int)))] dX12_oldBy_91 rfl (by decide) ?_
              refine w_iinc [some (aR 12 0), some (aI (s : Int)), some (aI x), some (aI se), some (aI (c : Int)), some (aI 1), some (aI ((3 * (c2 : Int)) + 3))] dX12_oldBy_93 rfl rfl (by decide) ?_
              refine w_goto 18 dX12_oldBy_96 (by decide) ?_
              exact ih18 (by omega) _ _ _ (by omega) (by omega) hA18
            · refine w_aload_n dX12_oldBy_40 rfl ?_
              refine w_iload dX12_oldBy_41 rfl ?_
              refine w_aload_n dX12_oldBy_43 rfl ?_
              refine w_iload_n dX12_oldBy_44 rfl ?_
              refine w_iload dX12_oldBy_45 rfl ?_
              refine w_callV (d := d + 3) (S := [aI (c : Int), aR 12 0]) [aI (s : Int), aI (3 * (c2 : Int))] dX12_oldBy_47 ml_X12_360 ok_X12_numberAt vi_X12_numberAt rfl rfl (by decide) rfl (Nat.le_of_ble_eq_true rfl) ?_
              refine c_naE (d := (d + 3)) s (3 * c2) (s : Int) (3 * (c2 : Int)) S (by omega) (by omega) (by omega) (by omega) ?_
              show fwWP mX12_oldBy (d + 4) 50 [some (aR 12 0), some (aI (s : Int)), some (aI x), some (aI se), some (aI (c : Int)), some (aI ho), some (aI (3 * (c2 : Int)))] [aJ (gg 33 s (3 * c2)), aI (c : Int), aR 12 0] (fwUc h 42 0 A2) Q
              have hl7 := (hs s (by omega)).2.2 (3 * c2) (by omega)
              refine w_l2i dX12_oldBy_50 ?_
              refine w_aload_n dX12_oldBy_51 rfl ?_
              refine w_iload_n dX12_oldBy_52 rfl ?_
              refine w_iload dX12_oldBy_53 rfl ?_
              refine w_iconst dX12_oldBy_55 ?_
              refine w_iadd dX12_oldBy_56 ?_
              refine w_callV (d := d + 3) (S := [aI (gg 33 s (3 * c2)), aI (c : Int), aR 12 0]) [aI (s : Int), aI ((3 * (c2 : Int)) + 1)] dX12_oldBy_57 ml_X12_360 ok_X12_numberAt vi_X12_numberAt rfl rfl (by decide) rfl (Nat.le_of_ble_eq_true rfl) ?_
              refine c_naE (d := (d + 3)) s ((3 * c2) + 1) (s : Int) ((3 * (c2 : Int)) + 1) S (by omega) (by omega) (by omega) (by omega) ?_
              show fwWP mX12_oldBy (d + 4) 60 [some (aR 12 0), some (aI (s : Int)), some (aI x), some (aI se), some (aI (c : Int)), some (aI ho), some (aI (3 * (c2 : Int)))] [aJ (gg 33 s ((3 * c2) + 1)), aI (gg 33 s (3 * c2)), aI (c : Int), aR 12 0] (fwUc h 42 0 A2) Q
              have hl8 := (hs s (by omega)).2.2 ((3 * c2) + 1) (by omega)
              refine w_l2i dX12_oldBy_60 ?_
              refine w_callV (d := d + 3) (S := []) [aI (c : Int), aI (gg 33 s (3 * c2)), aI (gg 33 s ((3 * c2) + 1))] dX12_oldBy_61 ml_X12_364 ok_X12_wasDark vi_X12_wasDark rfl rfl (by decide) rfl (Nat.le_of_ble_eq_true rfl) ?_
              refine c_X12_wasDark (d := d) c (gg 33 s (3 * c2)) (gg 33 s ((3 * c2) + 1)) J R hA18 (by omega) (by omega) (by omega) ?_
              intro A61_9 hA61_9; rw [fwUc_uc]
              show fwWP mX12_oldBy (d + 4) 64 [some (aR 12 0), some (aI (s : Int)), some (aI x), some (aI se), some (aI (c : Int)), some (aI ho), some (aI (3 * (c2 : Int)))] [aI (fwB (mShadeB (gg 4 0 1) (mOH gg c) (gg 33 s (3 * c2)) (gg 33 s ((3 * c2) + 1)) = true))] (fwUc h 42 0 A61_9) Q
              refine w_aload_n dX12_oldBy_64 rfl ?_
              refine w_iload_n dX12_oldBy_65 rfl ?_
              refine w_iload dX12_oldBy_66 rfl ?_
              refine w_iconst dX12_oldBy_68 ?_
              refine w_iadd dX12_oldBy_69 ?_
              refine w_callV (d := d + 3) (S := [aI (fwB (mShadeB (gg 4 0 1) (mOH gg c) (gg 33 s (3 * c2)) (gg 33 s ((3 * c2) + 1)) = true))]) [aI (s : Int), aI ((3 * (c2 : Int)) + 2)] dX12_oldBy_70 ml_X12_360 ok_X12_numberAt vi_X12_numberAt rfl rfl (by decide) rfl (Nat.le_of_ble_eq_true rfl) ?_
              refine c_naE (d := (d + 3)) s ((3 * c2) + 2) (s : Int) ((3 * (c2 : Int)) + 2) S (by omega) (by omega) (by omega) (by omega) ?_
              show fwWP mX12_oldBy (d + 4) 73 [some (aR 12 0), some (aI (s : Int)), some (aI x), some (aI se), some (aI (c : Int)), some (aI ho), some (aI (3 * (c2 : Int)))] [aJ (gg 33 s ((3 * c2) + 2)), aI (fwB (mShadeB (gg 4 0 1) (mOH gg c) (gg 33 s (3 * c2)) (gg 33 s ((3 * c2) + 1)) = true))] (fwUc h 42 0 A61_9) Q
              have hl10 := (hs s (by omega)).2.2 ((3 * c2) + 2) (by omega)
              refine w_lconst (z := 1) dX12_oldBy_73 rfl ?_
              refine w_lc_ne 82 dX12_oldBy_74 dX12_oldBy_75 (by decide) (by omega) (by omega) (fun c75 => ?_) (fun c75 => ?_)
              · refine w_iconst dX12_oldBy_82 ?_
                refine w_icmpF_ne 90 dX12_oldBy_83 (by decide) ?_ ?_
                · refine w_iconst dX12_oldBy_90 ?_
                  refine w_istore [some (aR 12 0), some (aI (s : Int)), some (aI x), some (aI se), some (aI (c : Int)), some (aI 0), some (aI (3 * (c2 : Int)))] dX12_oldBy_91 rfl (by decide) ?_
                  refine w_iinc [some (aR 12 0), some (aI (s : Int)), some (aI x), some (aI se), some (aI (c : Int)), some (aI 0), some (aI ((3 * (c2 : Int)) + 3))] dX12_oldBy_93 rfl rfl (by decide) ?_
                  refine w_goto 18 dX12_oldBy_96 (by decide) ?_
                  exact ih18 (by omega) _ _ _ (by omega) (by omega) hA61_9
                · refine w_iconst dX12_oldBy_86 ?_
                  refine w_goto 91 dX12_oldBy_87 (by decide) ?_
                  refine w_istore [some (aR 12 0), some (aI (s : Int)), some (aI x), some (aI se), some (aI (c : Int)), some (aI 1), some (aI (3 * (c2 : Int)))] dX12_oldBy_91 rfl (by decide) ?_
                  refine w_iinc [some (aR 12 0), some (aI (s : Int)), some (aI x), some (aI se), some (aI (c : Int)), some (aI 1), some (aI ((3 * (c2 : Int)) + 3))] dX12_oldBy_93 rfl rfl (by decide) ?_
                  refine w_goto 18 dX12_oldBy_96 (by decide) ?_
                  exact ih18 (by omega) _ _ _ (by omega) (by omega) hA61_9
              · refine w_iconst dX12_oldBy_78 ?_
                refine w_goto 83 dX12_oldBy_79 (by decide) ?_
                refine w_icmpF_ne 90 dX12_oldBy_83 (by decide) ?_ ?_
                · refine w_iconst dX12_oldBy_90 ?_
                  refine w_istore [some (aR 12 0), some (aI (s : Int)), some (aI x), some (aI se), some (aI (c : Int)), some (aI 0), some (aI (3 * (c2 : Int)))] dX12_oldBy_91 rfl (by decide) ?_
                  refine w_iinc [some (aR 12 0), some (aI (s : Int)), some (aI x), some (aI se), some (aI (c : Int)), some (aI 0), some (aI ((3 * (c2 : Int)) + 3))] dX12_oldBy_93 rfl rfl (by decide) ?_
                  refine w_goto 18 dX12_oldBy_96 (by decide) ?_
                  exact ih18 (by omega) _ _ _ (by omega) (by omega) hA61_9
                · refine w_iconst dX12_oldBy_86 ?_
                  refine w_goto 91 dX12_oldBy_87 (by decide) ?_
                  refine w_istore [some (aR 12 0), some (aI (s : Int)), some (aI x), some (aI se), some (aI (c : Int)), some (aI 1), some (aI (3 * (c2 : Int)))] dX12_oldBy_91 rfl (by decide) ?_
                  refine w_iinc [some (aR 12 0), some (aI (s : Int)), some (aI x), some (aI se), some (aI (c : Int)), some (aI 1), some (aI ((3 * (c2 : Int)) + 3))] dX12_oldBy_93 rfl rfl (by decide) ?_
                  refine w_goto 18 dX12_oldBy_96 (by decide) ?_
                  exact ih18 (by omega) _ _ _ (by omega) (by omega) hA61_9
      exact lp18 0 (by omega) _ _ _ (by omega) (by omega) hA5
  have e42 := fwUc_self h 42 0
  rw [← e42]
  exact lp5 0 (by omega) _ _ _ rfl hH
set_option maxRecDepth 100000 in
set_option maxHeartbeats 4000000 in
theorem c_w_askOf {d : Nat} {h gg : fwH} {Q : Option fwV → fwH → Prop} (s : Nat) (x : Int) (J : cOk gg) (R : jF gg h) (S : jS gg h) (hs : sOk gg) (hSl : oSl gg s) (hH : hiR (gg 4 0 1) (h 42 0) (gg 17 0)) (hx : 0 ≤ x ∧ x < gg 4 0 1) (k : ∀ v A r, hiR (gg 4 0 1) A (gg 17 0) → (r 5 = h 12 0 5 ∧ r 12 = h 12 0 12 ∧ r 13 = h 12 0 13) → Q (some (aI v)) (fwUc (fwUc h 42 0 A) 12 0 r)) : fwCt mX12_askOf (d + 5) [aR 12 0, aI (s : Int), aI x] h Q := by
  refine fwCt_of [some (aR 12 0), some (aI (s : Int)), some (aI x), none, none, none, none, none] rfl rfl rfl ?_
  obtain ⟨hs4, hs5, hs6, hs7⟩ := id hSl
  refine w_aload_n dX12_askOf_0 rfl ?_
  refine w_iload_n dX12_askOf_1 rfl ?_
  refine w_iconst dX12_askOf_2 ?_
  refine w_callV (d := d + 4) (S := []) [aI (s : Int), aI (-1)] dX12_askOf_3 ml_X12_371 ok_X12_oldBy vi_X12_oldBy rfl rfl (by decide) rfl (Nat.le_of_ble_eq_true rfl) ?_
  refine c_w_oldBy (d := d) s (-1) J R S hs hSl hH (by omega) ?_
  intro v1 A3_1 hA3_1
  show fwWP mX12_askOf (d + 5) 6 [some (aR 12 0), some (aI (s : Int)), some (aI x), none, none, none, none, none] [aI v1] (fwUc h 42 0 A3_1) Q
  refine w_istore_n [some (aR 12 0), some (aI (s : Int)), some (aI x), some (aI v1), none, none, none, none] dX12_askOf_6 rfl (by decide) ?_
  refine w_aload_n dX12_askOf_7 rfl ?_
  refine w_iload_n dX12_askOf_8 rfl ?_
  refine w_callS (d := d + 4) (S := [aR 12 0]) [aI v1] dX12_askOf_9 ml_X12_229 ok_X12_bits st_X12_bits rfl (Nat.le_of_ble_eq_true rfl) ?_
  refine c_X12_bits (d := (d + 4)) v1 ?_
  show fwWP mX12_askOf (d + 5) 12 [some (aR 12 0), some (aI (s : Int)), some (aI x), some (aI v1), none, none, none, none] [aI (mBt v1 21), aR 12 0] (fwUc h 42 0 A3_1) Q
  have hbb2 := mBt_rng v1 21
  refine w_puti dX12_askOf_12 fl_X12_374 fp_12_21 rfl (by decide) ?_
  have e3 : fwUp (fwUc h 42 0 A3_1) 12 0 21 (mBt v1 21) = (fwUc (fwUc h 42 0 A3_1) 12 0 (fwFu (h 12 0) 21 (mBt v1 21))) := fwUp_fu _ _ _ _ _
  rw [e3]
  refine w_iconst dX12_askOf_15 ?_
  refine w_istore [some (aR 12 0), some (aI (s : Int)), some (aI x), some (aI v1), some (aI 0), none, none, none] dX12_askOf_16 rfl (by decide) ?_
  refine w_iconst dX12_askOf_18 ?_
  refine w_istore [some (aR 12 0), some (aI (s : Int)), some (aI x), some (aI v1), some (aI 0), some (aI 1), none, none] dX12_askOf_19 rfl (by decide) ?_
  have lp21 : ∀ c : Nat, c ≤ 18 → ∀ (be y21 : Int) (A r : Nat → Int), y21 = 1 + (c : Int) → hiR (gg 4 0 1) A (gg 17 0) → (r 5 = h 12 0 5 ∧ r 12 = h 12 0 12 ∧ r 13 = h 12 0 13) → fwWP mX12_askOf (d + 5) 21 [some (aR 12 0), some (aI (s : Int)), some (aI x), some (aI v1), some (aI be), some (aI y21), none, none] [] (fwUc (fwUc h 42 0 A) 12 0 r) Q := by
    refine fw_up (fun c hc21 ih21 => ?_)
    intro be y21 A r ey21 hA21 hr21
    subst ey21
    show fwWP mX12_askOf (d + 5) 21 [some (aR 12 0), some (aI (s : Int)), some (aI x), some (aI v1), some (aI be), some (aI (1 + (c : Int))), none, none] [] (fwUc (fwUc h 42 0 A) 12 0 r) Q
    refine w_iload dX12_askOf_21 rfl ?_
    refine w_bipush dX12_askOf_23 rfl ?_
    refine w_icmp_gt 136 dX12_askOf_25 (by decide) (by omega) (by omega) (fun c25 => ?_) (fun c25 => ?_)
    · refine w_iload dX12_askOf_136 rfl ?_
      exact w_iret dX12_askOf_138 rfl (k _ _ _ hA21 hr21)
    · refine w_iconst dX12_askOf_28 ?_
      refine w_istore [some (aR 12 0), some (aI (s : Int)), some (aI x), some (aI v1), some (aI be), some (aI (1 + (c : Int))), some (aI 0), none] dX12_askOf_29 rfl (by decide) ?_
      refine w_iconst dX12_askOf_31 ?_
      refine w_istore [some (aR 12 0), some (aI (s : Int)), some (aI x), some (aI v1), some (aI be), some (aI (1 + (c : Int))), some (aI 0), some (aI 0)] dX12_askOf_32 rfl (by decide) ?_
      have lp34 : ∀ c2 : Nat, c2 ≤ 21 → ∀ (dk y34 : Int) (A2 : Nat → Int), y34 = (c2 : Int) → (0 ≤ dk ∧ dk ≤ c2) → hiR (gg 4 0 1) A2 (gg 17 0) → fwWP mX12_askOf (d + 5) 34 [some (aR 12 0), some (aI (s : Int)), some (aI x), some (aI v1), some (aI be), some (aI (1 + (c : Int))), some (aI dk), some (aI y34)] [] (fwUc (fwUc h 42 0 A2) 12 0 r) Q := by
        refine fw_up (fun c2 hc34 ih34 => ?_)
        intro dk y34 A2 ey34 hdk hA34
        subst ey34
        show fwWP mX12_askOf (d + 5) 34 [some (aR 12 0), some (aI (s : Int)), some (aI x), some (aI v1), some (aI be), some (aI (1 + (c : Int))), some (aI dk), some (aI (c2 : Int))] [] (fwUc (fwUc h 42 0 A2) 12 0 r) Q
        refine w_iload dX12_askOf_34 rfl ?_
        refine w_bipush dX12_askOf_36 rfl ?_
        refine w_icmp_gt 94 dX12_askOf_38 (by decide) (by omega) (by omega) (fun c38 => ?_) (fun c38 => ?_)
        · refine w_iload dX12_askOf_94 rfl ?_
          refine w_iload_n dX12_askOf_96 rfl ?_
          refine w_callS (d := d + 4) (S := [aI dk]) [aI v1] dX12_askOf_97 ml_X12_229 ok_X12_bits st_X12_bits rfl (Nat.le_of_ble_eq_true rfl) ?_
          refine c_X12_bits (d := (d + 4)) v1 ?_
          show fwWP mX12_askOf (d + 5) 100 [some (aR 12 0), some (aI (s : Int)), some (aI x), some (aI v1), some (aI be), some (aI (1 + (c : Int))), some (aI dk), some (aI (c2 : Int))] [aI (mBt v1 21), aI dk] (fwUc (fwUc h 42 0 A2) 12 0 r) Q
          have hbb6 := mBt_rng v1 21
          refine w_iload dX12_askOf_100 rfl ?_
          refine w_isub dX12_askOf_102 ?_
          refine w_max (d := d + 4) (S := []) dX12_askOf_103 ml_X12_317 (by omega) (by omega) (Nat.le_of_ble_eq_true rfl) ?_
          refine w_istore [some (aR 12 0), some (aI (s : Int)), some (aI x), some (aI v1), some (aI be), some (aI (1 + (c : Int))), some (aI dk), some (aI (max dk ((mBt v1 21) - dk)))] dX12_askOf_106 rfl (by decide) ?_
          refine w_iload dX12_askOf_108 rfl ?_
          refine w_aload_n dX12_askOf_110 rfl ?_
          refine w_getiE (v := r 21) dX12_askOf_111 fl_X12_374 rfl (by decide) rfl ?_
          refine w_icmpF_lt 120 dX12_askOf_114 (by decide) ?_ ?_
          · refine w_aload_n dX12_askOf_120 rfl ?_
            refine w_iload dX12_askOf_121 rfl ?_
            refine w_puti dX12_askOf_123 fl_X12_374 fp_12_21 rfl (by decide) ?_
            rw [fwUp_uc]
            refine w_iload dX12_askOf_126 rfl ?_
            refine w_istore [some (aR 12 0), some (aI (s : Int)), some (aI x), some (aI v1), some (aI (1 + (c : Int))), some (aI (1 + (c : Int))), some (aI dk), some (aI (max dk ((mBt v1 21) - dk)))] dX12_askOf_128 rfl (by decide) ?_
            refine w_iinc [some (aR 12 0), some (aI (s : Int)), some (aI x), some (aI v1), some (aI (1 + (c : Int))), some (aI ((1 + (c : Int)) + 1)), some (aI dk), some (aI (max dk ((mBt v1 21) - dk)))] dX12_askOf_130 rfl rfl (by decide) ?_
            refine w_goto 21 dX12_askOf_133 (by decide) ?_
            refine w_drop [6, 7] [some (aR 12 0), some (aI (s : Int)), some (aI x), some (aI v1), some (aI (1 + (c : Int))), some (aI ((1 + (c : Int)) + 1)), none, none] rfl ?_
            exact ih21 (by omega) _ _ _ _ (by omega) hA34 hr21
          · refine w_goto 130 dX12_askOf_117 (by decide) ?_
            refine w_iinc [some (aR 12 0), some (aI (s : Int)), some (aI x), some (aI v1), some (aI be), some (aI ((1 + (c : Int)) + 1)), some (aI dk), some (aI (max dk ((mBt v1 21) - dk)))] dX12_askOf_130 rfl rfl (by decide) ?_
            refine w_goto 21 dX12_askOf_133 (by decide) ?_
            refine w_drop [6, 7] [some (aR 12 0), some (aI (s : Int)), some (aI x), some (aI v1), some (aI be), some (aI ((1 + (c : Int)) + 1)), none, none] rfl ?_
            exact ih21 (by omega) _ _ _ _ (by omega) hA34 hr21
        · refine w_iload dX12_askOf_41 rfl ?_
          refine w_iload_n dX12_askOf_43 rfl ?_
          refine w_iload dX12_askOf_44 rfl ?_
          refine w_callS (d := d + 4) (S := [aI dk]) [aI v1, aI (c2 : Int)] dX12_askOf_46 ml_X12_257 ok_X12_bit st_X12_bit rfl (Nat.le_of_ble_eq_true rfl) ?_
          refine c_X12_bit (d := (d + 4)) v1 (c2 : Int) ?_
          show fwWP mX12_askOf (d + 5) 49 [some (aR 12 0), some (aI (s : Int)), some (aI x), some (aI v1), some (aI be), some (aI (1 + (c : Int))), some (aI dk), some (aI (c2 : Int))] [aI (fwAnd (fwShr v1 (c2 : Int)) 1), aI dk] (fwUc (fwUc h 42 0 A2) 12 0 r) Q
          have hbt9 := bit_01 v1 (c2 : Int)
          refine w_iconst dX12_askOf_49 ?_
          refine w_icmp_ne 84 dX12_askOf_50 (by decide) (by omega) (by omega) (fun c50 => ?_) (fun c50 => ?_)
          · refine w_iconst dX12_askOf_84 ?_
            refine w_iadd dX12_askOf_85 ?_
            refine w_istore [some (aR 12 0), some (aI (s : Int)), some (aI x), some (aI v1), some (aI be), some (aI (1 + (c : Int))), some (aI (dk + 0)), some (aI (c2 : Int))] dX12_askOf_86 rfl (by decide) ?_
            refine w_iinc [some (aR 12 0), some (aI (s : Int)), some (aI x), some (aI v1), some (aI be), some (aI (1 + (c : Int))), some (aI (dk + 0)), some (aI ((c2 : Int) + 1))] dX12_askOf_88 rfl rfl (by decide) ?_
            refine w_goto 34 dX12_askOf_91 (by decide) ?_
            exact ih34 (by omega) _ _ _ (by omega) (by omega) hA34
          · refine w_aload_n dX12_askOf_53 rfl ?_
            refine w_iload dX12_askOf_54 rfl ?_
            refine w_iload_n dX12_askOf_56 rfl ?_
            refine w_iload dX12_askOf_57 rfl ?_
            refine w_bipush dX12_askOf_59 rfl ?_
            refine w_icmp_gt 69 dX12_askOf_61 (by decide) (by omega) (by omega) (fun c61 => ?_) (fun c61 => ?_)
            · refine w_bipush dX12_askOf_69 rfl ?_
              refine w_iload dX12_askOf_71 rfl ?_
              refine w_isub dX12_askOf_73 ?_
              refine w_callV (d := d + 4) (S := [aI dk]) [aI (c2 : Int), aI x, aI (9 - (1 + (c : Int)))] dX12_askOf_74 ml_X12_364 ok_X12_wasDark vi_X12_wasDark rfl rfl (by decide) rfl (Nat.le_of_ble_eq_true rfl) ?_
              refine c_X12_wasDark (d := (d + 1)) c2 x (9 - (1 + (c : Int))) J R hA34 (by omega) (by omega) (by omega) ?_
              intro A74_12 hA74_12; rw [W12_42]
              show fwWP mX12_askOf (d + 5) 77 [some (aR 12 0), some (aI (s : Int)), some (aI x), some (aI v1), some (aI be), some (aI (1 + (c : Int))), some (aI dk), some (aI (c2 : Int))] [aI (fwB (mShadeB (gg 4 0 1) (mOH gg c2) x (9 - (1 + (c : Int))) = true)), aI dk] (fwUc (fwUc h 42 0 A74_12) 12 0 r) Q
              refine w_ifB_eq 84 dX12_askOf_77 (by decide) (fun c77 => ?_) (fun c77 => ?_)
              · refine w_iconst dX12_askOf_84 ?_
                refine w_iadd dX12_askOf_85 ?_
                refine w_istore [some (aR 12 0), some (aI (s : Int)), some (aI x), some (aI v1), some (aI be), some (aI (1 + (c : Int))), some (aI (dk + 0)), some (aI (c2 : Int))] dX12_askOf_86 rfl (by decide) ?_
                refine w_iinc [some (aR 12 0), some (aI (s : Int)), some (aI x), some (aI v1), some (aI be), some (aI (1 + (c : Int))), some (aI (dk + 0)), some (aI ((c2 : Int) + 1))] dX12_askOf_88 rfl rfl (by decide) ?_
                refine w_goto 34 dX12_askOf_91 (by decide) ?_
                exact ih34 (by omega) _ _ _ (by omega) (by omega) hA74_12
              · refine w_iconst dX12_askOf_80 ?_
                refine w_goto 85 dX12_askOf_81 (by decide) ?_
                refine w_iadd dX12_askOf_85 ?_
                refine w_istore [some (aR 12 0), some (aI (s : Int)), some (aI x), some (aI v1), some (aI be), some (aI (1 + (c : Int))), some (aI (dk + 1)), some (aI (c2 : Int))] dX12_askOf_86 rfl (by decide) ?_
                refine w_iinc [some (aR 12 0), some (aI (s : Int)), some (aI x), some (aI v1), some (aI be), some (aI (1 + (c : Int))), some (aI (dk + 1)), some (aI ((c2 : Int) + 1))] dX12_askOf_88 rfl rfl (by decide) ?_
                refine w_goto 34 dX12_askOf_91 (by decide) ?_
                exact ih34 (by omega) _ _ _ (by omega) (by omega) hA74_12
            · refine w_iload dX12_askOf_64 rfl ?_
              refine w_goto 74 dX12_askOf_66 (by decide) ?_
              refine w_callV (d := d + 4) (S := [aI dk]) [aI (c2 : Int), aI x, aI (1 + (c : Int))] dX12_askOf_74 ml_X12_364 ok_X12_wasDark vi_X12_wasDark rfl rfl (by decide) rfl (Nat.le_of_ble_eq_true rfl) ?_
              refine c_X12_wasDark (d := (d + 1)) c2 x (1 + (c : Int)) J R hA34 (by omega) (by omega) (by omega) ?_
              intro A74_14 hA74_14; rw [W12_42]
              show fwWP mX12_askOf (d + 5) 77 [some (aR 12 0), some (aI (s : Int)), some (aI x), some (aI v1), some (aI be), some (aI (1 + (c : Int))), some (aI dk), some (aI (c2 : Int))] [aI (fwB (mShadeB (gg 4 0 1) (mOH gg c2) x (1 + (c : Int)) = true)), aI dk] (fwUc (fwUc h 42 0 A74_14) 12 0 r) Q
              refine w_ifB_eq 84 dX12_askOf_77 (by decide) (fun c77 => ?_) (fun c77 => ?_)
              · refine w_iconst dX12_askOf_84 ?_
                refine w_iadd dX12_askOf_85 ?_
                refine w_istore [some (aR 12 0), some (aI (s : Int)), some (aI x), some (aI v1), some (aI be), some (aI (1 + (c : Int))), some (aI (dk + 0)), some (aI (c2 : Int))] dX12_askOf_86 rfl (by decide) ?_
                refine w_iinc [some (aR 12 0), some (aI (s : Int)), some (aI x), some (aI v1), some (aI be), some (aI (1 + (c : Int))), some (aI (dk + 0)), some (aI ((c2 : Int) + 1))] dX12_askOf_88 rfl rfl (by decide) ?_
                refine w_goto 34 dX12_askOf_91 (by decide) ?_
                exact ih34 (by omega) _ _ _ (by omega) (by omega) hA74_14
              · refine w_iconst dX12_askOf_80 ?_
                refine w_goto 85 dX12_askOf_81 (by decide) ?_
                refine w_iadd dX12_askOf_85 ?_
                refine w_istore [some (aR 12 0), some (aI (s : Int)), some (aI x), some (aI v1), some (aI be), some (aI (1 + (c : Int))), some (aI (dk + 1)), some (aI (c2 : Int))] dX12_askOf_86 rfl (by decide) ?_
                refine w_iinc [some (aR 12 0), some (aI (s : Int)), some (aI x), some (aI v1), some (aI be), some (aI (1 + (c : Int))), some (aI (dk + 1)), some (aI ((c2 : Int) + 1))] dX12_askOf_88 rfl rfl (by decide) ?_
                refine w_goto 34 dX12_askOf_91 (by decide) ?_
                exact ih34 (by omega) _ _ _ (by omega) (by omega) hA74_14
      exact lp34 0 (by omega) _ _ _ rfl (by omega) hA21
  exact lp21 0 (by omega) _ _ _ _ (by omega) hA3_1 ⟨rfl, rfl, rfl⟩
end
section
set_option maxRecDepth 100000 in
set_option maxHeartbeats 4000000 in
theorem c_w_old {d : Nat} {h gg : fwH} {Q : Option fwV → fwH → Prop} (x : Int) (J : cOk gg) (R : jF gg h) (K : jA gg h) (hsh : sc h) (S : jS gg h) (hx : -2147483648 ≤ x ∧ x < 2147483648) (k : ∀ v g, scr h g → Q (some (aI v)) g) : fwCt mX12_old (d + 7) [aR 12 0, aI x] h Q := by
  refine fwCt_of [some (aR 12 0), some (aI x), none] rfl rfl rfl ?_
  obtain ⟨hl, hP, hG, hM0, htd, hut, hlw, hhc, ha, hs, hT, hsc⟩ := id J
  have hb17 : hB (gg 17 0) := fun c hc => by have := hM0 c hc; omega
  obtain ⟨⟨g1, g2⟩, ⟨g3, g4⟩, ⟨g5, g6⟩, g7, -⟩ := id hG
  have h17_99 : ∀ c : Nat, (c : Int) < gg 4 0 1 → gg 17 0 c ≤ 99 := fun c hc => (hM0 c (by omega)).2
  have hpz := hP.1
  have hrs1 := R.2.2.2.2.2.2.2.2.2.2.2
  refine w_aload_n dX12_old_0 rfl ?_
  refine w_iload_n dX12_old_1 rfl ?_
  refine w_callV (d := d + 6) (S := []) [aI x] dX12_old_2 ml_X12_368 ok_X12_asksOld vi_X12_asksOld rfl rfl (by decide) rfl (Nat.le_of_ble_eq_true rfl) ?_
  refine c_X12_asksOld (d := d) x J R K S (by omega) ⟨fun hld => ?_, fun hld => ?_⟩
  · have hrn := mLdR_n gg x
    show fwWP mX12_old (d + 7) 5 [some (aR 12 0), some (aI x), none] [aI (mLdR gg x)] h Q
    refine w_istore_n [some (aR 12 0), some (aI x), some (aI (mLdR gg x))] dX12_old_5 rfl (by decide) ?_
    refine w_iload_n dX12_old_6 rfl ?_
    refine w_if_ge 14 dX12_old_7 (by decide) (by omega) (fun c7 => ?_) (fun c7 => ?_)
    · (exfalso; omega)
    · refine w_iload_n dX12_old_10 rfl ?_
      refine w_goto 20 dX12_old_11 (by decide) ?_
      exact w_iret dX12_old_20 rfl (k _ _ (scr_rf hsh))
  · intro A9 hA9
    show fwWP mX12_old (d + 7) 5 [some (aR 12 0), some (aI x), none] [aI 0] (fwUc h 42 0 A9) Q
    obtain ⟨s, rfl⟩ : ∃ s : Nat, x = (s : Int) := ⟨x.toNat, by omega⟩
    have hs35 := (hs s (by omega)).1
    have hz1 : gg 35 0 s ≠ -1 := hld.2.2.1
    have hz2 : gg 35 0 s % 3 = 0 := hld.2.2.2.1
    have hal : mAll (mSiP (gg 33 s) (gg 4 0 1)) (gg 35 0 s / 3).toNat = true := hld.2.2.2.2
    have hSl : oSl gg s := ⟨by omega, by omega, hz2, hal⟩
    refine w_istore_n [some (aR 12 0), some (aI (s : Int)), some (aI 0)] dX12_old_5 rfl (by decide) ?_
    refine w_iload_n dX12_old_6 rfl ?_
    refine w_if_ge 14 dX12_old_7 (by decide) (by omega) (fun c7 => ?_) (fun c7 => ?_)
    · refine w_aload_n dX12_old_14 rfl ?_
      refine w_iload_n dX12_old_15 rfl ?_
      refine w_iconst dX12_old_16 ?_
      refine w_callV (d := d + 6) (S := []) [aI (s : Int), aI (-1)] dX12_old_17 ml_X12_371 ok_X12_oldBy vi_X12_oldBy rfl rfl (by decide) rfl (Nat.le_of_ble_eq_true rfl) ?_
      refine c_w_oldBy (d := (d + 2)) s (-1) J R S hs hSl hA9 (by omega) ?_
      intro v3 A17_3 hA17_3; rw [fwUc_uc]
      show fwWP mX12_old (d + 7) 20 [some (aR 12 0), some (aI (s : Int)), some (aI 0)] [aI v3] (fwUc h 42 0 A17_3) Q
      exact w_iret dX12_old_20 rfl (k _ _ (scr_uc (scr_rf hsh) rfl (by decide) (by decide) (by decide)))
    · (exfalso; omega)
set_option maxRecDepth 100000 in
set_option maxHeartbeats 4000000 in
theorem c_w_ask {d : Nat} {h gg : fwH} {Q : Option fwV → fwH → Prop} (x : Int) (y : Int) (J : cOk gg) (R : jF gg h) (K : jA gg h) (hsh : sc h) (S : jS gg h) (hx : -2147483648 ≤ x ∧ x < 2147483648) (hy : -2147483648 ≤ y ∧ y < 2147483648) (k : ∀ v g, scr h g → Q (some (aI v)) g) : fwCt mX12_ask (d + 7) [aR 12 0, aI x, aI y] h Q := by
  refine fwCt_of [some (aR 12 0), some (aI x), some (aI y), none] rfl rfl rfl ?_
  obtain ⟨hl, hP, hG, hM0, htd, hut, hlw, hhc, ha, hs, hT, hsc⟩ := id J
  have hb17 : hB (gg 17 0) := fun c hc => by have := hM0 c hc; omega
  obtain ⟨⟨g1, g2⟩, ⟨g3, g4⟩, ⟨g5, g6⟩, g7, -⟩ := id hG
  have h17_99 : ∀ c : Nat, (c : Int) < gg 4 0 1 → gg 17 0 c ≤ 99 := fun c hc => (hM0 c (by omega)).2
  have hpz := hP.1
  have hrs1 := R.2.2.2.2.2.2.2.2.2.2.2
  refine w_aload_n dX12_ask_0 rfl ?_
  refine w_iload_n dX12_ask_1 rfl ?_
  refine w_callV (d := d + 6) (S := []) [aI x] dX12_ask_2 ml_X12_368 ok_X12_asksOld vi_X12_asksOld rfl rfl (by decide) rfl (Nat.le_of_ble_eq_true rfl) ?_
  refine c_X12_asksOld (d := d) x J R K S (by omega) ⟨fun hld => ?_, fun hld => ?_⟩
  · have hrn := mLdR_n gg x
    show fwWP mX12_ask (d + 7) 5 [some (aR 12 0), some (aI x), some (aI y), none] [aI (mLdR gg x)] h Q
    refine w_istore_n [some (aR 12 0), some (aI x), some (aI y), some (aI (mLdR gg x))] dX12_ask_5 rfl (by decide) ?_
    refine w_iload_n dX12_ask_6 rfl ?_
    refine w_bipush dX12_ask_7 rfl ?_
    refine w_icmp_ne 26 dX12_ask_9 (by decide) (by omega) (by omega) (fun c9 => ?_) (fun c9 => ?_)
    · refine w_iload_n dX12_ask_26 rfl ?_
      refine w_if_ge 34 dX12_ask_27 (by decide) (by omega) (fun c27 => ?_) (fun c27 => ?_)
      · (exfalso; omega)
      · refine w_iload_n dX12_ask_30 rfl ?_
        refine w_goto 54 dX12_ask_31 (by decide) ?_
        exact w_iret dX12_ask_54 rfl (k _ _ (scr_rf hsh))
    · refine w_aload_n dX12_ask_12 rfl ?_
      refine w_iload_n dX12_ask_13 rfl ?_
      refine w_i2l dX12_ask_14 (by omega) ?_
      refine w_callV (d := d + 6) (S := []) [aJ y] dX12_ask_15 ml_X12_203 ok_X12_isCell vi_X12_isCell rfl rfl (by decide) rfl (Nat.le_of_ble_eq_true rfl) ?_
      refine c_X12_isCell (d := (d + 5)) y J R (by omega) ?_
      show fwWP mX12_ask (d + 7) 18 [some (aR 12 0), some (aI x), some (aI y), some (aI (mLdR gg x))] [aI (fwB (0 ≤ y ∧ y ≤ gg 4 0 1 - 1))] h Q
      refine w_ifB_ne 26 dX12_ask_18 (by decide) (fun c18 => ?_) (fun c18 => ?_)
      · refine w_iload_n dX12_ask_26 rfl ?_
        refine w_if_ge 34 dX12_ask_27 (by decide) (by omega) (fun c27 => ?_) (fun c27 => ?_)
        · (exfalso; omega)
        · refine w_iload_n dX12_ask_30 rfl ?_
          refine w_goto 54 dX12_ask_31 (by decide) ?_
          exact w_iret dX12_ask_54 rfl (k _ _ (scr_rf hsh))
      · refine w_bipush dX12_ask_21 rfl ?_
        refine w_goto 54 dX12_ask_23 (by decide) ?_
        exact w_iret dX12_ask_54 rfl (k _ _ (scr_rf hsh))
  · intro A9 hA9
    show fwWP mX12_ask (d + 7) 5 [some (aR 12 0), some (aI x), some (aI y), none] [aI 0] (fwUc h 42 0 A9) Q
    obtain ⟨s, rfl⟩ : ∃ s : Nat, x = (s : Int) := ⟨x.toNat, by omega⟩
    have hs35 := (hs s (by omega)).1
    have hz1 : gg 35 0 s ≠ -1 := hld.2.2.1
    have hz2 : gg 35 0 s % 3 = 0 := hld.2.2.2.1
    have hal : mAll (mSiP (gg 33 s) (gg 4 0 1)) (gg 35 0 s / 3).toNat = true := hld.2.2.2.2
    have hSl : oSl gg s := ⟨by omega, by omega, hz2, hal⟩
    refine w_istore_n [some (aR 12 0), some (aI (s : Int)), some (aI y), some (aI 0)] dX12_ask_5 rfl (by decide) ?_
    refine w_iload_n dX12_ask_6 rfl ?_
    refine w_bipush dX12_ask_7 rfl ?_
    refine w_icmp_ne 26 dX12_ask_9 (by decide) (by omega) (by omega) (fun c9 => ?_) (fun c9 => ?_)
    · refine w_iload_n dX12_ask_26 rfl ?_
      refine w_if_ge 34 dX12_ask_27 (by decide) (by omega) (fun c27 => ?_) (fun c27 => ?_)
      · refine w_aload_n dX12_ask_34 rfl ?_
        refine w_iload_n dX12_ask_35 rfl ?_
        refine w_i2l dX12_ask_36 (by omega) ?_
        refine w_callV (d := d + 6) (S := []) [aJ y] dX12_ask_37 ml_X12_203 ok_X12_isCell vi_X12_isCell rfl rfl (by decide) rfl (Nat.le_of_ble_eq_true rfl) ?_
        refine c_X12_isCell (d := (d + 5)) y J R (by omega) ?_
        show fwWP mX12_ask (d + 7) 40 [some (aR 12 0), some (aI (s : Int)), some (aI y), some (aI 0)] [aI (fwB (0 ≤ y ∧ y ≤ gg 4 0 1 - 1))] (fwUc h 42 0 A9) Q
        refine w_ifB_eq 52 dX12_ask_40 (by decide) (fun c40 => ?_) (fun c40 => ?_)
        · refine w_bipush dX12_ask_52 rfl ?_
          exact w_iret dX12_ask_54 rfl (k _ _ (scr_uc (scr_rf hsh) rfl (by decide) (by decide) (by decide)))
        · refine w_aload_n dX12_ask_43 rfl ?_
          refine w_iload_n dX12_ask_44 rfl ?_
          refine w_iload_n dX12_ask_45 rfl ?_
          refine w_callV (d := d + 6) (S := []) [aI (s : Int), aI y] dX12_ask_46 ml_X12_377 ok_X12_askOf vi_X12_askOf rfl rfl (by decide) rfl (Nat.le_of_ble_eq_true rfl) ?_
          refine c_w_askOf (d := (d + 1)) s y J R S hs hSl hA9 (by omega) ?_
          intro v8 A8 r8 hA8 hr8; rw [fwUc_uc]
          show fwWP mX12_ask (d + 7) 49 [some (aR 12 0), some (aI (s : Int)), some (aI y), some (aI 0)] [aI v8] (fwUc (fwUc h 42 0 A8) 12 0 r8) Q
          refine w_goto 54 dX12_ask_49 (by decide) ?_
          exact w_iret dX12_ask_54 rfl (k _ _ (scr_12 (scr_uc (scr_rf hsh) rfl (by decide) (by decide) (by decide)) hr8.1 hr8.2.1 hr8.2.2))
      · (exfalso; omega)
    · refine w_aload_n dX12_ask_12 rfl ?_
      refine w_iload_n dX12_ask_13 rfl ?_
      refine w_i2l dX12_ask_14 (by omega) ?_
      refine w_callV (d := d + 6) (S := []) [aJ y] dX12_ask_15 ml_X12_203 ok_X12_isCell vi_X12_isCell rfl rfl (by decide) rfl (Nat.le_of_ble_eq_true rfl) ?_
      refine c_X12_isCell (d := (d + 5)) y J R (by omega) ?_
      show fwWP mX12_ask (d + 7) 18 [some (aR 12 0), some (aI (s : Int)), some (aI y), some (aI 0)] [aI (fwB (0 ≤ y ∧ y ≤ gg 4 0 1 - 1))] (fwUc h 42 0 A9) Q
      refine w_ifB_ne 26 dX12_ask_18 (by decide) (fun c18 => ?_) (fun c18 => ?_)
      · refine w_iload_n dX12_ask_26 rfl ?_
        refine w_if_ge 34 dX12_ask_27 (by decide) (by omega) (fun c27 => ?_) (fun c27 => ?_)
        · refine w_aload_n dX12_ask_34 rfl ?_
          refine w_iload_n dX12_ask_35 rfl ?_
          refine w_i2l dX12_ask_36 (by omega) ?_
          refine w_callV (d := d + 6) (S := []) [aJ y] dX12_ask_37 ml_X12_203 ok_X12_isCell vi_X12_isCell rfl rfl (by decide) rfl (Nat.le_of_ble_eq_true rfl) ?_
          refine c_X12_isCell (d := (d + 5)) y J R (by omega) ?_
          show fwWP mX12_ask (d + 7) 40 [some (aR 12 0), some (aI (s : Int)), some (aI y), some (aI 0)] [aI (fwB (0 ≤ y ∧ y ≤ gg 4 0 1 - 1))] (fwUc h 42 0 A9) Q
          refine w_ifB_eq 52 dX12_ask_40 (by decide) (fun c40 => ?_) (fun c40 => ?_)
          · refine w_bipush dX12_ask_52 rfl ?_
            exact w_iret dX12_ask_54 rfl (k _ _ (scr_uc (scr_rf hsh) rfl (by decide) (by decide) (by decide)))
          · refine w_aload_n dX12_ask_43 rfl ?_
            refine w_iload_n dX12_ask_44 rfl ?_
            refine w_iload_n dX12_ask_45 rfl ?_
            refine w_callV (d := d + 6) (S := []) [aI (s : Int), aI y] dX12_ask_46 ml_X12_377 ok_X12_askOf vi_X12_askOf rfl rfl (by decide) rfl (Nat.le_of_ble_eq_true rfl) ?_
            refine c_w_askOf (d := (d + 1)) s y J R S hs hSl hA9 (by omega) ?_
            intro v12 A12 r12 hA12 hr12; rw [fwUc_uc]
            show fwWP mX12_ask (d + 7) 49 [some (aR 12 0), some (aI (s : Int)), some (aI y), some (aI 0)] [aI v12] (fwUc (fwUc h 42 0 A12) 12 0 r12) Q
            refine w_goto 54 dX12_ask_49 (by decide) ?_
            exact w_iret dX12_ask_54 rfl (k _ _ (scr_12 (scr_uc (scr_rf hsh) rfl (by decide) (by decide) (by decide)) hr12.1 hr12.2.1 hr12.2.2))
        · (exfalso; omega)
      · refine w_bipush dX12_ask_21 rfl ?_
        refine w_goto 54 dX12_ask_23 (by decide) ?_
        exact w_iret dX12_ask_54 rfl (k _ _ (scr_uc (scr_rf hsh) rfl (by decide) (by decide) (by decide)))
set_option maxRecDepth 100000 in
set_option maxHeartbeats 4000000 in
theorem c_w_leaves {d : Nat} {h gg : fwH} {Q : Option fwV → fwH → Prop} (x : Int) (y : Int) (J : cOk gg) (R : jF gg h) (K : jA gg h) (hsh : sc h) (S : jS gg h) (hx : -2147483648 ≤ x ∧ x < 2147483648) (hy : -2147483648 ≤ y ∧ y < 2147483648) (k : ∀ v g, scr h g → Q (some (aI v)) g) : fwCt mX12_leaves (d + 7) [aR 12 0, aI x, aI y] h Q := by
  refine fwCt_of [some (aR 12 0), some (aI x), some (aI y), none] rfl rfl rfl ?_
  obtain ⟨hl, hP, hG, hM0, htd, hut, hlw, hhc, ha, hs, hT, hsc⟩ := id J
  have hb17 : hB (gg 17 0) := fun c hc => by have := hM0 c hc; omega
  obtain ⟨⟨g1, g2⟩, ⟨g3, g4⟩, ⟨g5, g6⟩, g7, -⟩ := id hG
  have h17_99 : ∀ c : Nat, (c : Int) < gg 4 0 1 → gg 17 0 c ≤ 99 := fun c hc => (hM0 c (by omega)).2
  have hpz := hP.1
  have hrs1 := R.2.2.2.2.2.2.2.2.2.2.2
  refine w_aload_n dX12_leaves_0 rfl ?_
  refine w_iload_n dX12_leaves_1 rfl ?_
  refine w_callV (d := d + 6) (S := []) [aI x] dX12_leaves_2 ml_X12_368 ok_X12_asksOld vi_X12_asksOld rfl rfl (by decide) rfl (Nat.le_of_ble_eq_true rfl) ?_
  refine c_X12_asksOld (d := d) x J R K S (by omega) ⟨fun hld => ?_, fun hld => ?_⟩
  · have hrn := mLdR_n gg x
    show fwWP mX12_leaves (d + 7) 5 [some (aR 12 0), some (aI x), some (aI y), none] [aI (mLdR gg x)] h Q
    refine w_istore_n [some (aR 12 0), some (aI x), some (aI y), some (aI (mLdR gg x))] dX12_leaves_5 rfl (by decide) ?_
    refine w_iload_n dX12_leaves_6 rfl ?_
    refine w_if_lt 19 dX12_leaves_7 (by decide) (by omega) (fun c7 => ?_) (fun c7 => ?_)
    · refine w_iload_n dX12_leaves_19 rfl ?_
      refine w_bipush dX12_leaves_20 rfl ?_
      refine w_icmp_ne 39 dX12_leaves_22 (by decide) (by omega) (by omega) (fun c22 => ?_) (fun c22 => ?_)
      · refine w_bipush dX12_leaves_39 rfl ?_
        exact w_iret dX12_leaves_41 rfl (k _ _ (scr_rf hsh))
      · refine w_aload_n dX12_leaves_25 rfl ?_
        refine w_iload_n dX12_leaves_26 rfl ?_
        refine w_i2l dX12_leaves_27 (by omega) ?_
        refine w_callV (d := d + 6) (S := []) [aJ y] dX12_leaves_28 ml_X12_203 ok_X12_isCell vi_X12_isCell rfl rfl (by decide) rfl (Nat.le_of_ble_eq_true rfl) ?_
        refine c_X12_isCell (d := (d + 5)) y J R (by omega) ?_
        show fwWP mX12_leaves (d + 7) 31 [some (aR 12 0), some (aI x), some (aI y), some (aI (mLdR gg x))] [aI (fwB (0 ≤ y ∧ y ≤ gg 4 0 1 - 1))] h Q
        refine w_ifB_eq 39 dX12_leaves_31 (by decide) (fun c31 => ?_) (fun c31 => ?_)
        · refine w_bipush dX12_leaves_39 rfl ?_
          exact w_iret dX12_leaves_41 rfl (k _ _ (scr_rf hsh))
        · refine w_bipush dX12_leaves_34 rfl ?_
          refine w_goto 41 dX12_leaves_36 (by decide) ?_
          exact w_iret dX12_leaves_41 rfl (k _ _ (scr_rf hsh))
    · (exfalso; omega)
  · intro A9 hA9
    show fwWP mX12_leaves (d + 7) 5 [some (aR 12 0), some (aI x), some (aI y), none] [aI 0] (fwUc h 42 0 A9) Q
    obtain ⟨s, rfl⟩ : ∃ s : Nat, x = (s : Int) := ⟨x.toNat, by omega⟩
    have hs35 := (hs s (by omega)).1
    have hz1 : gg 35 0 s ≠ -1 := hld.2.2.1
    have hz2 : gg 35 0 s % 3 = 0 := hld.2.2.2.1
    have hal : mAll (mSiP (gg 33 s) (gg 4 0 1)) (gg 35 0 s / 3).toNat = true := hld.2.2.2.2
    have hSl : oSl gg s := ⟨by omega, by omega, hz2, hal⟩
    refine w_istore_n [some (aR 12 0), some (aI (s : Int)), some (aI y), some (aI 0)] dX12_leaves_5 rfl (by decide) ?_
    refine w_iload_n dX12_leaves_6 rfl ?_
    refine w_if_lt 19 dX12_leaves_7 (by decide) (by omega) (fun c7 => ?_) (fun c7 => ?_)
    · (exfalso; omega)
    · refine w_aload_n dX12_leaves_10 rfl ?_
      refine w_iload_n dX12_leaves_11 rfl ?_
      refine w_i2l dX12_leaves_12 (by omega) ?_
      refine w_callV (d := d + 6) (S := []) [aJ y] dX12_leaves_13 ml_X12_203 ok_X12_isCell vi_X12_isCell rfl rfl (by decide) rfl (Nat.le_of_ble_eq_true rfl) ?_
      refine c_X12_isCell (d := (d + 5)) y J R (by omega) ?_
      show fwWP mX12_leaves (d + 7) 16 [some (aR 12 0), some (aI (s : Int)), some (aI y), some (aI 0)] [aI (fwB (0 ≤ y ∧ y ≤ gg 4 0 1 - 1))] (fwUc h 42 0 A9) Q
      refine w_ifB_ne 42 dX12_leaves_16 (by decide) (fun c16 => ?_) (fun c16 => ?_)
      · refine w_aload_n dX12_leaves_42 rfl ?_
        refine w_iload_n dX12_leaves_43 rfl ?_
        refine w_iload_n dX12_leaves_44 rfl ?_
        refine w_callV (d := d + 6) (S := []) [aI (s : Int), aI y] dX12_leaves_45 ml_X12_377 ok_X12_askOf vi_X12_askOf rfl rfl (by decide) rfl (Nat.le_of_ble_eq_true rfl) ?_
        refine c_w_askOf (d := (d + 1)) s y J R S hs hSl hA9 (by omega) ?_
        intro v6 A6 r6 hA6 hr6; rw [fwUc_uc]
        show fwWP mX12_leaves (d + 7) 48 [some (aR 12 0), some (aI (s : Int)), some (aI y), some (aI 0)] [aI v6] (fwUc (fwUc h 42 0 A6) 12 0 r6) Q
        refine w_pop dX12_leaves_48 rfl ?_
        refine w_aload_n dX12_leaves_49 rfl ?_
        refine w_getiE (v := r6 21) dX12_leaves_50 fl_X12_374 rfl (by decide) rfl ?_
        exact w_iret dX12_leaves_53 rfl (k _ _ (scr_12 (scr_uc (scr_rf hsh) rfl (by decide) (by decide) (by decide)) hr6.1 hr6.2.1 hr6.2.2))
      · refine w_iload_n dX12_leaves_19 rfl ?_
        refine w_bipush dX12_leaves_20 rfl ?_
        refine w_icmp_ne 39 dX12_leaves_22 (by decide) (by omega) (by omega) (fun c22 => ?_) (fun c22 => ?_)
        · refine w_bipush dX12_leaves_39 rfl ?_
          exact w_iret dX12_leaves_41 rfl (k _ _ (scr_uc (scr_rf hsh) rfl (by decide) (by decide) (by decide)))
        · refine w_aload_n dX12_leaves_25 rfl ?_
          refine w_iload_n dX12_leaves_26 rfl ?_
          refine w_i2l dX12_leaves_27 (by omega) ?_
          refine w_callV (d := d + 6) (S := []) [aJ y] dX12_leaves_28 ml_X12_203 ok_X12_isCell vi_X12_isCell rfl rfl (by decide) rfl (Nat.le_of_ble_eq_true rfl) ?_
          refine c_X12_isCell (d := (d + 5)) y J R (by omega) ?_
          show fwWP mX12_leaves (d + 7) 31 [some (aR 12 0), some (aI (s : Int)), some (aI y), some (aI 0)] [aI (fwB (0 ≤ y ∧ y ≤ gg 4 0 1 - 1))] (fwUc h 42 0 A9) Q
          refine w_ifB_eq 39 dX12_leaves_31 (by decide) (fun c31 => ?_) (fun c31 => ?_)
          · refine w_bipush dX12_leaves_39 rfl ?_
            exact w_iret dX12_leaves_41 rfl (k _ _ (scr_uc (scr_rf hsh) rfl (by decide) (by decide) (by decide)))
          · refine w_bipush dX12_leaves_34 rfl ?_
            refine w_goto 41 dX12_leaves_36 (by decide) ?_
            exact w_iret dX12_leaves_41 rfl (k _ _ (scr_uc (scr_rf hsh) rfl (by decide) (by decide) (by decide)))
set_option maxRecDepth 100000 in
set_option maxHeartbeats 4000000 in
theorem c_w_doubts {d : Nat} {h gg : fwH} {Q : Option fwV → fwH → Prop} (x : Int) (J : cOk gg) (R : jF gg h) (K : jA gg h) (hsh : sc h) (S : jS gg h) (hx : -2147483648 ≤ x ∧ x < 2147483648) (k : ∀ v g, scr h g → Q (some (aI v)) g) : fwCt mX12_doubts (d + 7) [aR 12 0, aI x] h Q := by
  refine fwCt_of [some (aR 12 0), some (aI x), none, none, none] rfl rfl rfl ?_
  obtain ⟨hl, hP, hG, hM0, htd, hut, hlw, hhc, ha, hs, hT, hsc⟩ := id J
  have hb17 : hB (gg 17 0) := fun c hc => by have := hM0 c hc; omega
  obtain ⟨⟨g1, g2⟩, ⟨g3, g4⟩, ⟨g5, g6⟩, g7, -⟩ := id hG
  have h17_99 : ∀ c : Nat, (c : Int) < gg 4 0 1 → gg 17 0 c ≤ 99 := fun c hc => (hM0 c (by omega)).2
  have hpz := hP.1
  have hrs1 := R.2.2.2.2.2.2.2.2.2.2.2
  refine w_aload_n dX12_doubts_0 rfl ?_
  refine w_iload_n dX12_doubts_1 rfl ?_
  refine w_callV (d := d + 6) (S := []) [aI x] dX12_doubts_2 ml_X12_368 ok_X12_asksOld vi_X12_asksOld rfl rfl (by decide) rfl (Nat.le_of_ble_eq_true rfl) ?_
  refine c_X12_asksOld (d := d) x J R K S (by omega) ⟨fun hld => ?_, fun hld => ?_⟩
  · have hrn := mLdR_n gg x
    show fwWP mX12_doubts (d + 7) 5 [some (aR 12 0), some (aI x), none, none, none] [aI (mLdR gg x)] h Q
    refine w_istore_n [some (aR 12 0), some (aI x), some (aI (mLdR gg x)), none, none] dX12_doubts_5 rfl (by decide) ?_
    refine w_iload_n dX12_doubts_6 rfl ?_
    refine w_if_ge 12 dX12_doubts_7 (by decide) (by omega) (fun c7 => ?_) (fun c7 => ?_)
    · (exfalso; omega)
    · refine w_iload_n dX12_doubts_10 rfl ?_
      exact w_iret dX12_doubts_11 rfl (k _ _ (scr_rf hsh))
  · intro A9 hA9
    show fwWP mX12_doubts (d + 7) 5 [some (aR 12 0), some (aI x), none, none, none] [aI 0] (fwUc h 42 0 A9) Q
    obtain ⟨s, rfl⟩ : ∃ s : Nat, x = (s : Int) := ⟨x.toNat, by omega⟩
    have hs35 := (hs s (by omega)).1
    have hz1 : gg 35 0 s ≠ -1 := hld.2.2.1
    have hz2 : gg 35 0 s % 3 = 0 := hld.2.2.2.1
    have hal : mAll (mSiP (gg 33 s) (gg 4 0 1)) (gg 35 0 s / 3).toNat = true := hld.2.2.2.2
    have hSl : oSl gg s := ⟨by omega, by omega, hz2, hal⟩
    refine w_istore_n [some (aR 12 0), some (aI (s : Int)), some (aI 0), none, none] dX12_doubts_5 rfl (by decide) ?_
    refine w_iload_n dX12_doubts_6 rfl ?_
    refine w_if_ge 12 dX12_doubts_7 (by decide) (by omega) (fun c7 => ?_) (fun c7 => ?_)
    · refine w_iconst dX12_doubts_12 ?_
      refine w_istore_n [some (aR 12 0), some (aI (s : Int)), some (aI 0), some (aI 0), none] dX12_doubts_13 rfl (by decide) ?_
      refine w_iconst dX12_doubts_14 ?_
      refine w_istore [some (aR 12 0), some (aI (s : Int)), some (aI 0), some (aI 0), some (aI 0)] dX12_doubts_15 rfl (by decide) ?_
      have lp17 : ∀ c : Nat, c ≤ (gg 35 0 s / 3).toNat → ∀ (nd y17 : Int) (A : Nat → Int), y17 = 3 * (c : Int) → hiR (gg 4 0 1) A (gg 17 0) → fwWP mX12_doubts (d + 7) 17 [some (aR 12 0), some (aI (s : Int)), some (aI 0), some (aI nd), some (aI y17)] [] (fwUc h 42 0 A) Q := by
        refine fw_up (fun c hc17 ih17 => ?_)
        intro nd y17 A ey17 hA17
        subst ey17
        show fwWP mX12_doubts (d + 7) 17 [some (aR 12 0), some (aI (s : Int)), some (aI 0), some (aI nd), some (aI (3 * (c : Int)))] [] (fwUc h 42 0 A) Q
        refine w_iload dX12_doubts_17 rfl ?_
        refine w_aload_n dX12_doubts_19 rfl ?_
        refine w_getr 46 0 dX12_doubts_20 fl_X12_47 rfl (by decide) ?_
        refine w_iload_n dX12_doubts_23 rfl ?_
        refine w_ialdE (v := gg 35 0 s) dX12_doubts_24 rfl (by decide) (by omega) (by omega) (S s (by omega)).1 ?_
        refine w_icmp_ge 52 dX12_doubts_25 (by decide) (by omega) (by omega) (fun c25 => ?_) (fun c25 => ?_)
        · refine w_iload_n dX12_doubts_52 rfl ?_
          exact w_iret dX12_doubts_53 rfl (k _ _ (scr_uc (scr_rf hsh) rfl (by decide) (by decide) (by decide)))
        · refine w_iload_n dX12_doubts_28 rfl ?_
          refine w_aload_n dX12_doubts_29 rfl ?_
          refine w_iload_n dX12_doubts_30 rfl ?_
          refine w_iload dX12_doubts_31 rfl ?_
          refine w_callV (d := d + 6) (S := [aI nd]) [aI (s : Int), aI (3 * (c : Int))] dX12_doubts_33 ml_X12_371 ok_X12_oldBy vi_X12_oldBy rfl rfl (by decide) rfl (Nat.le_of_ble_eq_true rfl) ?_
          refine c_w_oldBy (d := (d + 2)) s (3 * (c : Int)) J R S hs hSl hA17 (by omega) ?_
          intro v4 A33_4 hA33_4; rw [fwUc_uc]
          show fwWP mX12_doubts (d + 7) 36 [some (aR 12 0), some (aI (s : Int)), some (aI 0), some (aI nd), some (aI (3 * (c : Int)))] [aI v4, aI nd] (fwUc h 42 0 A33_4) Q
          refine w_ifF_eq 43 dX12_doubts_36 (by decide) ?_ ?_
          · refine w_iconst dX12_doubts_43 ?_
            refine w_iadd dX12_doubts_44 ?_
            refine w_istore_n [some (aR 12 0), some (aI (s : Int)), some (aI 0), some (aI (nd + 0)), some (aI (3 * (c : Int)))] dX12_doubts_45 rfl (by decide) ?_
            refine w_iinc [some (aR 12 0), some (aI (s : Int)), some (aI 0), some (aI (nd + 0)), some (aI ((3 * (c : Int)) + 3))] dX12_doubts_46 rfl rfl (by decide) ?_
            refine w_goto 17 dX12_doubts_49 (by decide) ?_
            exact ih17 (by omega) _ _ _ (by omega) hA33_4
          · refine w_iconst dX12_doubts_39 ?_
            refine w_goto 44 dX12_doubts_40 (by decide) ?_
            refine w_iadd dX12_doubts_44 ?_
            refine w_istore_n [some (aR 12 0), some (aI (s : Int)), some (aI 0), some (aI (nd + 1)), some (aI (3 * (c : Int)))] dX12_doubts_45 rfl (by decide) ?_
            refine w_iinc [some (aR 12 0), some (aI (s : Int)), some (aI 0), some (aI (nd + 1)), some (aI ((3 * (c : Int)) + 3))] dX12_doubts_46 rfl rfl (by decide) ?_
            refine w_goto 17 dX12_doubts_49 (by decide) ?_
            exact ih17 (by omega) _ _ _ (by omega) hA33_4
      exact lp17 0 (by omega) _ _ _ (by omega) hA9
    · (exfalso; omega)
set_option maxRecDepth 100000 in
set_option maxHeartbeats 4000000 in
theorem c_w_asksNames0 {d : Nat} {h gg : fwH} {Q : Option fwV → fwH → Prop} (x : Int) (J : cOk gg) (R : jF gg h) (S : jS gg h) (hx : -2147483648 ≤ x ∧ x < 2147483648) (k : Q (some (aI (-2))) h) : fwCt mX12_asksNames (d + 2) [aR 12 0, aI x, aI 0] h Q := by
  refine fwCt_of [some (aR 12 0), some (aI x), some (aI 0), none] rfl rfl rfl ?_
  obtain ⟨hl, hP, hG, -, -, -, hlw, -, ha, hs, -, hsc⟩ := id J
  obtain ⟨⟨g1, g2⟩, ⟨g3, g4⟩, ⟨g5, g6⟩, g7, -⟩ := id hG
  have hpz := hP.1
  refine w_iload_n dX12_asksNames_0 rfl ?_
  refine w_callS (d := d + 1) (S := []) [aI x] dX12_asksNames_1 ml_X12_357 ok_X12_isSlot st_X12_isSlot rfl (Nat.le_of_ble_eq_true rfl) ?_
  refine c_X12_isSlot (d := d) x (by omega) ?_
  show fwWP mX12_asksNames (d + 2) 4 [some (aR 12 0), some (aI x), some (aI 0), none] [aI (fwB (0 ≤ x ∧ x ≤ 3))] h Q
  refine w_ifB_eq 18 dX12_asksNames_4 (by decide) (fun c4 => ?_) (fun c4 => ?_)
  · refine w_bipush dX12_asksNames_18 rfl ?_
    exact w_iret dX12_asksNames_20 rfl k
  · refine w_aload_n dX12_asksNames_7 rfl ?_
    refine w_callV (d := d + 1) (S := []) [] dX12_asksNames_8 ml_X12_73 ok_X12_isMount vi_X12_isMount rfl rfl (by decide) rfl (Nat.le_of_ble_eq_true rfl) ?_
    refine c_X12_isMount (d := (d + 1)) J R ?_
    show fwWP mX12_asksNames (d + 2) 11 [some (aR 12 0), some (aI x), some (aI 0), none] [aI (fwB (0 < gg 3 0 6))] h Q
    refine w_ifB_eq 18 dX12_asksNames_11 (by decide) (fun c11 => ?_) (fun c11 => ?_)
    · refine w_bipush dX12_asksNames_18 rfl ?_
      exact w_iret dX12_asksNames_20 rfl k
    · refine w_iload_n dX12_asksNames_14 rfl ?_
      refine w_if_ne 21 dX12_asksNames_15 (by decide) (by omega) (fun c15 => ?_) (fun c15 => ?_)
      · (exfalso; omega)
      · refine w_bipush dX12_asksNames_18 rfl ?_
        exact w_iret dX12_asksNames_20 rfl k
theorem c_w_askN {d : Nat} {h gg : fwH} {Q : Option fwV → fwH → Prop} {P : Prop} [Decidable P] (x : Int) (J : cOk gg) (R : jF gg h) (S : jS gg h) (hx : -2147483648 ≤ x ∧ x < 2147483648) (k1 : ∀ v : Int, (v = -6 ∨ v = -2) → Q (some (aI v)) h) (k2 : mRl gg x → P → Q (some (aI 0)) h) : fwCt mX12_asksNames (d + 2) [aR 12 0, aI x, aI (fwB P)] h Q := by
  by_cases p : P
  · rw [fwB_t p]
    exact c_X12_asksNames x J R S hx ⟨fun _ => k1 _ (mRlR_n gg x), fun r => k2 r p⟩
  · rw [fwB_f p]
    exact c_w_asksNames0 x J R S hx (k1 _ (Or.inr rfl))
set_option maxRecDepth 100000 in
set_option maxHeartbeats 4000000 in
theorem c_w_struck {d : Nat} {h gg : fwH} {Q : Option fwV → fwH → Prop} (x : Int) (y : Int) (J : cOk gg) (R : jF gg h) (K : jA gg h) (hsh : sc h) (S : jS gg h) (hx : -2147483648 ≤ x ∧ x < 2147483648) (hy : -2147483648 ≤ y ∧ y < 2147483648) (k : ∀ v g, scr h g → Q (some (aI v)) g) : fwCt mX12_struck (d + 3) [aR 12 0, aI x, aI y] h Q := by
  refine fwCt_of [some (aR 12 0), some (aI x), some (aI y), none, none, none] rfl rfl rfl ?_
  obtain ⟨hl, hP, hG, hM0, htd, hut, hlw, hhc, ha, hs, hT, hsc⟩ := id J
  have hb17 : hB (gg 17 0) := fun c hc => by have := hM0 c hc; omega
  obtain ⟨⟨g1, g2⟩, ⟨g3, g4⟩, ⟨g5, g6⟩, g7, -⟩ := id hG
  have h17_99 : ∀ c : Nat, (c : Int) < gg 4 0 1 → gg 17 0 c ≤ 99 := fun c hc => (hM0 c (by omega)).2
  have hpz := hP.1
  have hrs1 := R.2.2.2.2.2.2.2.2.2.2.2
  refine w_aload_n dX12_struck_0 rfl ?_
  refine w_iload_n dX12_struck_1 rfl ?_
  refine w_iload_n dX12_struck_2 rfl ?_
  refine w_i2l dX12_struck_3 (by omega) ?_
  refine w_lconst (z := 0) dX12_struck_4 rfl ?_
  refine w_lconst (z := 1) dX12_struck_5 rfl ?_
  refine w_callS (d := d + 2) (S := [aI x, aR 12 0]) [aJ y, aJ 0, aJ 1] dX12_struck_6 ml_X12_65 ok_X12_in st_X12_in rfl (Nat.le_of_ble_eq_true rfl) ?_
  refine c_X12_in (d := (d + 2)) y 0 1 (by omega) (by omega) (by omega) ?_
  show fwWP mX12_struck (d + 3) 9 [some (aR 12 0), some (aI x), some (aI y), none, none, none] [aI (fwB (0 ≤ y ∧ y ≤ 1)), aI x, aR 12 0] h Q
  refine w_callV (d := d + 2) (S := []) [aI x, aI (fwB (0 ≤ y ∧ y ≤ 1))] dX12_struck_9 ml_X12_380 ok_X12_asksNames vi_X12_asksNames rfl rfl (by decide) rfl (Nat.le_of_ble_eq_true rfl) ?_
  refine c_w_askN (d := d) x J R S (by omega) ?_ ?_
  · intro vn hvn
    show fwWP mX12_struck (d + 3) 12 [some (aR 12 0), some (aI x), some (aI y), none, none, none] [aI vn] h Q
    refine w_istore_n [some (aR 12 0), some (aI x), some (aI y), some (aI vn), none, none] dX12_struck_12 rfl (by decide) ?_
    refine w_iload_n dX12_struck_13 rfl ?_
    refine w_if_ge 19 dX12_struck_14 (by decide) (by omega) (fun c14 => ?_) (fun c14 => ?_)
    · (exfalso; omega)
    · refine w_iload_n dX12_struck_17 rfl ?_
      exact w_iret dX12_struck_18 rfl (k _ _ (scr_rf hsh))
  · intro hrl hwh
    show fwWP mX12_struck (d + 3) 12 [some (aR 12 0), some (aI x), some (aI y), none, none, none] [aI 0] h Q
    obtain ⟨s, rfl⟩ : ∃ s : Nat, x = (s : Int) := ⟨x.toNat, by omega⟩
    have hs35 := (hs s (by omega)).1
    have hz1 : gg 35 0 s ≠ -1 := hrl.2.2.1
    have hz2 : gg 35 0 s % 2 = 0 := hrl.2.2.2.1
    have hal : mAll (mRollP (gg 33 s) (gg 5 0 3)) (gg 35 0 s / 2).toNat = true := hrl.2.2.2.2
    refine w_istore_n [some (aR 12 0), some (aI (s : Int)), some (aI y), some (aI 0), none, none] dX12_struck_12 rfl (by decide) ?_
    refine w_iload_n dX12_struck_13 rfl ?_
    refine w_if_ge 19 dX12_struck_14 (by decide) (by omega) (fun c14 => ?_) (fun c14 => ?_)
    · refine w_iconst dX12_struck_19 ?_
      refine w_istore [some (aR 12 0), some (aI (s : Int)), some (aI y), some (aI 0), some (aI 0), none] dX12_struck_20 rfl (by decide) ?_
      refine w_iconst dX12_struck_22 ?_
      refine w_istore [some (aR 12 0), some (aI (s : Int)), some (aI y), some (aI 0), some (aI 0), some (aI 0)] dX12_struck_23 rfl (by decide) ?_
      have lp25 : ∀ c : Nat, c ≤ (gg 35 0 s / 2).toNat → ∀ (y25 nv : Int), y25 = 2 * (c : Int) → True → fwWP mX12_struck (d + 3) 25 [some (aR 12 0), some (aI (s : Int)), some (aI y), some (aI 0), some (aI nv), some (aI y25)] [] h Q := by
        refine fw_up (fun c hc25 ih25 => ?_)
        intro y25 nv ey25 e_nv
        subst ey25
        show fwWP mX12_struck (d + 3) 25 [some (aR 12 0), some (aI (s : Int)), some (aI y), some (aI 0), some (aI nv), some (aI (2 * (c : Int)))] [] h Q
        refine w_iload dX12_struck_25 rfl ?_
        refine w_aload_n dX12_struck_27 rfl ?_
        refine w_getr 46 0 dX12_struck_28 fl_X12_47 rfl (by decide) ?_
        refine w_iload_n dX12_struck_31 rfl ?_
        refine w_ialdE (v := gg 35 0 s) dX12_struck_32 rfl (by decide) (by omega) (by omega) (S s (by omega)).1 ?_
        refine w_icmp_ge 95 dX12_struck_33 (by decide) (by omega) (by omega) (fun c33 => ?_) (fun c33 => ?_)
        · refine w_iload dX12_struck_95 rfl ?_
          exact w_iret dX12_struck_97 rfl (k _ _ (scr_rf hsh))
        · have hrp := of_decide_eq_true ((mAll_iff _ _).mp hal c (by omega))
          refine w_iload dX12_struck_36 rfl ?_
          refine w_iload_n dX12_struck_38 rfl ?_
          refine w_iconst dX12_struck_39 ?_
          refine w_icmp_ne 61 dX12_struck_40 (by decide) (by omega) (by omega) (fun c40 => ?_) (fun c40 => ?_)
          · refine w_aload_n dX12_struck_61 rfl ?_
            refine w_iload_n dX12_struck_62 rfl ?_
            refine w_iload dX12_struck_63 rfl ?_
            refine w_callV (d := d + 2) (S := [aI nv]) [aI (s : Int), aI (2 * (c : Int))] dX12_struck_65 ml_X12_384 ok_X12_hasName vi_X12_hasName rfl rfl (by decide) rfl (Nat.le_of_ble_eq_true rfl) ?_
            refine c_X12_hasName (d := (d + 1)) s c J R S (by omega) (by omega) (by omega) ?_
            show fwWP mX12_struck (d + 3) 68 [some (aR 12 0), some (aI (s : Int)), some (aI y), some (aI 0), some (aI nv), some (aI (2 * (c : Int)))] [aI (fwB (gg 33 s (2 * c + 1) < gg 18 0 (7 * (gg 33 s (2 * c)).toNat + 1))), aI nv] h Q
            refine w_ifB_eq 85 dX12_struck_68 (by decide) (fun c68 => ?_) (fun c68 => ?_)
            · refine w_iconst dX12_struck_85 ?_
              refine w_iadd dX12_struck_86 ?_
              refine w_istore [some (aR 12 0), some (aI (s : Int)), some (aI y), some (aI 0), some (aI (nv + 0)), some (aI (2 * (c : Int)))] dX12_struck_87 rfl (by decide) ?_
              refine w_iinc [some (aR 12 0), some (aI (s : Int)), some (aI y), some (aI 0), some (aI (nv + 0)), some (aI ((2 * (c : Int)) + 2))] dX12_struck_89 rfl rfl (by decide) ?_
              refine w_goto 25 dX12_struck_92 (by decide) ?_
              refine ih25 (by omega) _ _ ?_ ?_
              · exact (by omega)
              · exact trivial
            · refine w_aload_n dX12_struck_71 rfl ?_
              refine w_iload_n dX12_struck_72 rfl ?_
              refine w_iload dX12_struck_73 rfl ?_
              refine w_callV (d := d + 2) (S := [aI nv]) [aI (s : Int), aI (2 * (c : Int))] dX12_struck_75 ml_X12_387 ok_X12_isThere vi_X12_isThere rfl rfl (by decide) rfl (Nat.le_of_ble_eq_true rfl) ?_
              refine c_X12_isThere (d := (d + 1)) s c S hs (by omega) (by omega) ?_
              show fwWP mX12_struck (d + 3) 78 [some (aR 12 0), some (aI (s : Int)), some (aI y), some (aI 0), some (aI nv), some (aI (2 * (c : Int)))] [aI (fwB (¬ mAll (mNew (gg 33 s) c) c = true)), aI nv] h Q
              refine w_ifB_eq 85 dX12_struck_78 (by decide) (fun c78 => ?_) (fun c78 => ?_)
              · refine w_iconst dX12_struck_85 ?_
                refine w_iadd dX12_struck_86 ?_
                refine w_istore [some (aR 12 0), some (aI (s : Int)), some (aI y), some (aI 0), some (aI (nv + 0)), some (aI (2 * (c : Int)))] dX12_struck_87 rfl (by decide) ?_
                refine w_iinc [some (aR 12 0), some (aI (s : Int)), some (aI y), some (aI 0), some (aI (nv + 0)), some (aI ((2 * (c : Int)) + 2))] dX12_struck_89 rfl rfl (by decide) ?_
                refine w_goto 25 dX12_struck_92 (by decide) ?_
                refine ih25 (by omega) _ _ ?_ ?_
                · exact (by omega)
                · exact trivial
              · refine w_iconst dX12_struck_81 ?_
                refine w_goto 86 dX12_struck_82 (by decide) ?_
                refine w_iadd dX12_struck_86 ?_
                refine w_istore [some (aR 12 0), some (aI (s : Int)), some (aI y), some (aI 0), some (aI (nv + 1)), some (aI (2 * (c : Int)))] dX12_struck_87 rfl (by decide) ?_
                refine w_iinc [some (aR 12 0), some (aI (s : Int)), some (aI y), some (aI 0), some (aI (nv + 1)), some (aI ((2 * (c : Int)) + 2))] dX12_struck_89 rfl rfl (by decide) ?_
                refine w_goto 25 dX12_struck_92 (by decide) ?_
                refine ih25 (by omega) _ _ ?_ ?_
                · exact (by omega)
                · exact trivial
          · refine w_aload_n dX12_struck_43 rfl ?_
            refine w_iload_n dX12_struck_44 rfl ?_
            refine w_iload dX12_struck_45 rfl ?_
            refine w_callV (d := d + 2) (S := [aI nv]) [aI (s : Int), aI (2 * (c : Int))] dX12_struck_47 ml_X12_384 ok_X12_hasName vi_X12_hasName rfl rfl (by decide) rfl (Nat.le_of_ble_eq_true rfl) ?_
            refine c_X12_hasName (d := (d + 1)) s c J R S (by omega) (by omega) (by omega) ?_
            show fwWP mX12_struck (d + 3) 50 [some (aR 12 0), some (aI (s : Int)), some (aI y), some (aI 0), some (aI nv), some (aI (2 * (c : Int)))] [aI (fwB (gg 33 s (2 * c + 1) < gg 18 0 (7 * (gg 33 s (2 * c)).toNat + 1))), aI nv] h Q
            refine w_ifB_eq 57 dX12_struck_50 (by decide) (fun c50 => ?_) (fun c50 => ?_)
            · refine w_iconst dX12_struck_57 ?_
              refine w_goto 86 dX12_struck_58 (by decide) ?_
              refine w_iadd dX12_struck_86 ?_
              refine w_istore [some (aR 12 0), some (aI (s : Int)), some (aI y), some (aI 0), some (aI (nv + 1)), some (aI (2 * (c : Int)))] dX12_struck_87 rfl (by decide) ?_
              refine w_iinc [some (aR 12 0), some (aI (s : Int)), some (aI y), some (aI 0), some (aI (nv + 1)), some (aI ((2 * (c : Int)) + 2))] dX12_struck_89 rfl rfl (by decide) ?_
              refine w_goto 25 dX12_struck_92 (by decide) ?_
              refine ih25 (by omega) _ _ ?_ ?_
              · exact (by omega)
              · exact trivial
            · refine w_iconst dX12_struck_53 ?_
              refine w_goto 86 dX12_struck_54 (by decide) ?_
              refine w_iadd dX12_struck_86 ?_
              refine w_istore [some (aR 12 0), some (aI (s : Int)), some (aI y), some (aI 0), some (aI (nv + 0)), some (aI (2 * (c : Int)))] dX12_struck_87 rfl (by decide) ?_
              refine w_iinc [some (aR 12 0), some (aI (s : Int)), some (aI y), some (aI 0), some (aI (nv + 0)), some (aI ((2 * (c : Int)) + 2))] dX12_struck_89 rfl rfl (by decide) ?_
              refine w_goto 25 dX12_struck_92 (by decide) ?_
              refine ih25 (by omega) _ _ ?_ ?_
              · exact (by omega)
              · exact trivial
      refine lp25 0 (Nat.zero_le _) _ _ ?_ ?_
      · exact (by omega)
      · exact trivial
    · (exfalso; omega)
end

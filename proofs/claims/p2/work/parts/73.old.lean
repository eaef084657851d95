theorem w_icmpF_lt {M : fwM} {d pc : Nat} {L : List (Option fwV)} {S : List fwV} {h : fwH} {Q : Option fwV → fwH → Prop} {x y off : Int} (tgt : Nat) (hd : decode M.2.1 pc = .ok (.if_icmp .lt off, 3)) (ht : (pc : Int) + off = (tgt : Int)) (kt : fwWP M d tgt L S h Q) (kf : fwWP M d (pc + 3) L S h Q) : fwWP M d pc L (aI y :: aI x :: S) h Q := by
  intro l p e s m args below meth c ad D tc H locs ls C X
  exact lv_icmp_lt C.1 C.2.1 hd ht (fun _ => kt l p e s m args below meth c ad D tc H locs ls C X) (fun _ => kf l p e s m args below meth c ad D tc H locs ls C X)
theorem W12_42 (h : fwH) (A r B : Nat → Int) : fwUc (fwUc (fwUc h 42 0 A) 12 0 r) 42 0 B = fwUc (fwUc h 42 0 B) 12 0 r := by
  rw [fwUc_cmm r B (show 12 ≠ 42 by decide), fwUc_uc]
/-- a SLOT whose row tells of light, as the questions find it -/
def oSl (gg : fwH) (s : Nat) : Prop := s < 4 ∧ (0 ≤ gg 35 0 s ∧ gg 35 0 s ≤ 60) ∧ gg 35 0 s % 3 = 0 ∧ mAll (mSiP (gg 33 s) (gg 4 0 1)) (gg 35 0 s / 3).toNat = true
set_option maxRecDepth 100000 in
set_option maxHeartbeats 4000000 in
theorem c_w_oldBy {d : Nat} {h gg : fwH} {Q : Option fwV → fwH → Prop} (s : Nat) (x : Int) (J : cOk gg) (R : jF gg h) (S : jS gg h) (hs : sOk gg) (hSl : oSl gg s) (hH : hiR (gg 4 0 1) (h 42 0) (gg 17 0)) (hx : -2147483648 ≤ x ∧ x < 2147483648) (k : ∀ v A, hiR (gg 4 0 1) A (gg 17 0) → Q (some (aI v)) (fwUc h 42 0 A)) : fwCt mX12_oldBy (d + 4) [aR 12 0, aI (s : Int), aI x] h Q := by
  refine fwCt_of [some (aR 12 0), some (aI (s : Int)), some (aI x), none, none, none, none] rfl rfl rfl ?_
  obtain ⟨hs4, hs5, hs6, hs7⟩ := id hSl
  refine w_iconst dX12_oldBy_0 ?_
  refine w_istore_n [some (aR 12 0), some (aI (s : Int)), some (aI x), some (aI 0), none, none, none] dX12_oldBy_1 rfl (by decide) ?_
  refine w_iconst dX12_oldBy_2 ?_
  refine w_istore [some (aR 12 0), some (aI (s : Int)), some (aI x), some (aI 0), some (aI 0), none, none] dX12_oldBy_3 rfl (by decide) ?_
  have lp5 : ∀ c : Nat, c ≤ 21 → ∀ (se y5 : Int) (A : Nat → Int), y5 = (c : Int) → hiR (gg 4 0 1) A (gg 17 0) → fwWP mX12_oldBy (d + 4) 5 [some (aR 12 0), some (aI (s : Int)), some (aI x), some (aI se), some (aI y5), none, none] [] (fwUc h 42 0 A) Q := by
    refine fw_up (fun c hc5 ih5 => ?_)
    intro se y5 A ey5 hA5
    subst ey5
    show fwWP mX12_oldBy (d + 4) 5 [some (aR 12 0), some (aI (s : Int)), some (aI x), some (aI se), some (aI (c : Int)), none, none] [] (fwUc h 42 0 A) Q
    refine w_iload dX12_oldBy_5 rfl ?_
    refine w_bipush dX12_oldBy_7 rfl ?_
    refine w_icmp_gt 121 dX12_oldBy_9 (by decide) (by omega) (by omega) (fun c9 => ?_) (fun c9 => ?_)
    · refine w_iload_n dX12_oldBy_121 rfl ?_
      exact w_iret dX12_oldBy_122 rfl (k _ _ hA5)
    · refine w_iconst dX12_oldBy_12 ?_
      refine w_istore [some (aR 12 0), some (aI (s : Int)), some (aI x), some (aI se), some (aI (c : Int)), some (aI 1), none] dX12_oldBy_13 rfl (by decide) ?_
      refine w_iconst dX12_oldBy_15 ?_
      refine w_istore [some (aR 12 0), some (aI (s : Int)), some (aI x), some (aI se), some (aI (c : Int)), some (aI 1), some (aI 0)] dX12_oldBy_16 rfl (by decide) ?_
      have lp18 : ∀ c2 : Nat, c2 ≤ (gg 35 0 s / 3).toNat → ∀ (ho y18 : Int) (A2 : Nat → Int), y18 = 3 * (c2 : Int) → (0 ≤ ho ∧ ho ≤ 1) → hiR (gg 4 0 1) A2 (gg 17 0) → fwWP mX12_oldBy (d + 4) 18 [some (aR 12 0), some (aI (s : Int)), some (aI x), some (aI se), some (aI (c : Int)), some (aI ho), some (aI y18)] [] (fwUc h 42 0 A2) Q := by
        refine fw_up (fun c2 hc18 ih18 => ?_)
        intro ho y18 A2 ey18 hho hA18
        subst ey18
        show fwWP mX12_oldBy (d + 4) 18 [some (aR 12 0), some (aI (s : Int)), some (aI x), some (aI se), some (aI (c : Int)), some (aI ho), some (aI (3 * (c2 : Int)))] [] (fwUc h 42 0 A2) Q
        refine w_iload dX12_oldBy_18 rfl ?_
        refine w_aload_n dX12_oldBy_20 rfl ?_
        refine w_getr 46 0 dX12_oldBy_21 fl_X12_47 rfl (by decide) ?_
        refine w_iload_n dX12_oldBy_24 rfl ?_
        refine w_ialdE (v := gg 35 0 s) dX12_oldBy_25 rfl (by decide) (by omega) (by omega) (S s (by omega)).1 ?_
        refine w_icmp_ge 99 dX12_oldBy_26 (by decide) (by omega) (by omega) (fun c26 => ?_) (fun c26 => ?_)
        · refine w_iload_n dX12_oldBy_99 rfl ?_
          refine w_iload dX12_oldBy_100 rfl ?_
          refine w_if_eq 112 dX12_oldBy_102 (by decide) (by omega) (fun c102 => ?_) (fun c102 => ?_)
          · refine w_iconst dX12_oldBy_112 ?_
            refine w_ior dX12_oldBy_113 ?_
            refine w_istore_n [some (aR 12 0), some (aI (s : Int)), some (aI x), some (aI (fwOr se 0)), some (aI (c : Int)), some (aI ho), some (aI (3 * (c2 : Int)))] dX12_oldBy_114 rfl (by decide) ?_
            refine w_iinc [some (aR 12 0), some (aI (s : Int)), some (aI x), some (aI (fwOr se 0)), some (aI ((c : Int) + 1)), some (aI ho), some (aI (3 * (c2 : Int)))] dX12_oldBy_115 rfl rfl (by decide) ?_
            refine w_goto 5 dX12_oldBy_118 (by decide) ?_
            refine w_drop [5, 6] [some (aR 12 0), some (aI (s : Int)), some (aI x), some (aI (fwOr se 0)), some (aI ((c : Int) + 1)), none, none] rfl ?_
            exact ih5 (by omega) _ _ _ (by omega) hA18
          · refine w_iconst dX12_oldBy_105 ?_
            refine w_iload dX12_oldBy_106 rfl ?_
            refine w_ishl dX12_oldBy_108 ?_
            refine w_goto 113 dX12_oldBy_109 (by decide) ?_
            refine w_ior dX12_oldBy_113 ?_
            refine w_istore_n [some (aR 12 0), some (aI (s : Int)), some (aI x), some (aI (fwOr se (fwShl 1 (c : Int)))), some (aI (c : Int)), some (aI ho), some (aI (3 * (c2 : Int)))] dX12_oldBy_114 rfl (by decide) ?_
            refine w_iinc [some (aR 12 0), some (aI (s : Int)), some (aI x), some (aI (fwOr se (fwShl 1 (c : Int)))), some (aI ((c : Int) + 1)), some (aI ho), some (aI (3 * (c2 : Int)))] dX12_oldBy_115 rfl rfl (by decide) ?_
            refine w_goto 5 dX12_oldBy_118 (by decide) ?_
            refine w_drop [5, 6] [some (aR 12 0), some (aI (s : Int)), some (aI x), some (aI (fwOr se (fwShl 1 (c : Int)))), some (aI ((c : Int) + 1)), none, none] rfl ?_
            exact ih5 (by omega) _ _ _ (by omega) hA18
        · refine w_iload dX12_oldBy_29 rfl ?_
          refine w_if_eq 99 dX12_oldBy_31 (by decide) (by omega) (fun c31 => ?_) (fun c31 => ?_)
          · refine w_iload_n dX12_oldBy_99 rfl ?_
            refine w_iload dX12_oldBy_100 rfl ?_
            refine w_if_eq 112 dX12_oldBy_102 (by decide) (by omega) (fun c102 => ?_) (fun c102 => ?_)
            · refine w_iconst dX12_oldBy_112 ?_
              refine w_ior dX12_oldBy_113 ?_
              refine w_istore_n [some (aR 12 0), some (aI (s : Int)), some (aI x), some (aI (fwOr se 0)), some (aI (c : Int)), some (aI ho), some (aI (3 * (c2 : Int)))] dX12_oldBy_114 rfl (by decide) ?_
              refine w_iinc [some (aR 12 0), some (aI (s : Int)), some (aI x), some (aI (fwOr se 0)), some (aI ((c : Int) + 1)), some (aI ho), some (aI (3 * (c2 : Int)))] dX12_oldBy_115 rfl rfl (by decide) ?_
              refine w_goto 5 dX12_oldBy_118 (by decide) ?_
              refine w_drop [5, 6] [some (aR 12 0), some (aI (s : Int)), some (aI x), some (aI (fwOr se 0)), some (aI ((c : Int) + 1)), none, none] rfl ?_
              exact ih5 (by omega) _ _ _ (by omega) hA18
            · refine w_iconst dX12_oldBy_105 ?_
              refine w_iload dX12_oldBy_106 rfl ?_
              refine w_ishl dX12_oldBy_108 ?_
              refine w_goto 113 dX12_oldBy_109 (by decide) ?_
              refine w_ior dX12_oldBy_113 ?_
              refine w_istore_n [some (aR 12 0), some (aI (s : Int)), some (aI x), some (aI (fwOr se (fwShl 1 (c : Int)))), some (aI (c : Int)), some (aI ho), some (aI (3 * (c2 : Int)))] dX12_oldBy_114 rfl (by decide) ?_
              refine w_iinc [some (aR 12 0), some (aI (s : Int)), some (aI x), some (aI (fwOr se (fwShl 1 (c : Int)))), some (aI ((c : Int) + 1)), some (aI ho), some (aI (3 * (c2 : Int)))] dX12_oldBy_115 rfl rfl (by decide) ?_
              refine w_goto 5 dX12_oldBy_118 (by decide) ?_
              refine w_drop [5, 6] [some (aR 12 0), some (aI (s : Int)), some (aI x), some (aI (fwOr se (fwShl 1 (c : Int)))), some (aI ((c : Int) + 1)), none, none] rfl ?_
              exact ih5 (by omega) _ _ _ (by omega) hA18
          · have hq9 := of_decide_eq_true ((mAll_iff _ _).mp hSl.2.2.2 c2 (by omega))
            refine w_iload dX12_oldBy_34 rfl ?_
            refine w_iload_n dX12_oldBy_36 rfl ?_
            refine w_icmp_eq 86 dX12_oldBy_37 (by decide) (by omega) (by omega) (fun c37 => ?_) (fun c37 => ?_)
            · refine w_iconst dX12_oldBy_86 ?_
              refine w_goto 91 dX12_oldBy_87 (by decide) ?_
              refine w_istore [some (aR 12 0), some (aI (s : Int)), some (aI x), some (aI se), some (aI (c : Int)), some (aI 1), some (aI (3 * (c2 : Int)))] dX12_oldBy_91 rfl (by decide) ?_
              refine w_iinc [some (aR 12 0), some (aI (s : Int)), some (aI x), some (aI se), some (aI (c : Int)), some (aI 1), some (aI ((3 * (c2 : Int)) + 3))] dX12_oldBy_93 rfl rfl (by decide) ?_
              refine w_goto 18 dX12_oldBy_96 (by decide) ?_
              exact ih18 (by omega) _ _ _ (by omega) (by omega) hA18
            · refine w_aload_n dX12_oldBy_40 rfl ?_
              refine w_iload dX12_oldBy_41 rfl ?_
              refine w_aload_n dX12_oldBy_43 rfl ?_
              refine w_iload_n dX12_oldBy_44 rfl ?_
              refine w_iload dX12_oldBy_45 rfl ?_
              refine w_callV (d := d + 3) (S := [aI (c : Int), aR 12 0]) [aI (s : Int), aI (3 * (c2 : Int))] dX12_oldBy_47 ml_X12_360 ok_X12_numberAt vi_X12_numberAt rfl rfl (by decide) rfl (Nat.le_of_ble_eq_true rfl) ?_
              refine c_naE (d := (d + 3)) s (3 * c2) (s : Int) (3 * (c2 : Int)) S (by omega) (by omega) (by omega) (by omega) ?_
              show fwWP mX12_oldBy (d + 4) 50 [some (aR 12 0), some (aI (s : Int)), some (aI x), some (aI se), some (aI (c : Int)), some (aI ho), some (aI (3 * (c2 : Int)))] [aJ (gg 33 s (3 * c2)), aI (c : Int), aR 12 0] (fwUc h 42 0 A2) Q
              have hl7 := (hs s (by omega)).2.2 (3 * c2) (by omega)
              refine w_l2i dX12_oldBy_50 ?_
              refine w_aload_n dX12_oldBy_51 rfl ?_
              refine w_iload_n dX12_oldBy_52 rfl ?_
              refine w_iload dX12_oldBy_53 rfl ?_
              refine w_iconst dX12_oldBy_55 ?_
              refine w_iadd dX12_oldBy_56 ?_
              refine w_callV (d := d + 3) (S := [aI (gg 33 s (3 * c2)), aI (c : Int), aR 12 0]) [aI (s : Int), aI ((3 * (c2 : Int)) + 1)] dX12_oldBy_57 ml_X12_360 ok_X12_numberAt vi_X12_numberAt rfl rfl (by decide) rfl (Nat.le_of_ble_eq_true rfl) ?_
              refine c_naE (d := (d + 3)) s ((3 * c2) + 1) (s : Int) ((3 * (c2 : Int)) + 1) S (by omega) (by omega) (by omega) (by omega) ?_
              show fwWP mX12_oldBy (d + 4) 60 [some (aR 12 0), some (aI (s : Int)), some (aI x), some (aI se), some (aI (c : Int)), some (aI ho), some (aI (3 * (c2 : Int)))] [aJ (gg 33 s ((3 * c2) + 1)), aI (gg 33 s (3 * c2)), aI (c : Int), aR 12 0] (fwUc h 42 0 A2) Q
              have hl8 := (hs s (by omega)).2.2 ((3 * c2) + 1) (by omega)
              refine w_l2i dX12_oldBy_60 ?_
              refine w_callV (d := d + 3) (S := []) [aI (c : Int), aI (gg 33 s (3 * c2)), aI (gg 33 s ((3 * c2) + 1))] dX12_oldBy_61 ml_X12_364 ok_X12_wasDark vi_X12_wasDark rfl rfl (by decide) rfl (Nat.le_of_ble_eq_true rfl) ?_
              refine c_X12_wasDark (d := d) c (gg 33 s (3 * c2)) (gg 33 s ((3 * c2) + 1)) J R hA18 (by omega) (by omega) (by omega) ?_
              intro A61_9 hA61_9; rw [fwUc_uc]
              show fwWP mX12_oldBy (d + 4) 64 [some (aR 12 0), some (aI (s : Int)), some (aI x), some (aI se), some (aI (c : Int)), some (aI ho), some (aI (3 * (c2 : Int)))] [aI (fwB (mShadeB (gg 4 0 1) (mOH gg c) (gg 33 s (3 * c2)) (gg 33 s ((3 * c2) + 1)) = true))] (fwUc h 42 0 A61_9) Q
              refine w_aload_n dX12_oldBy_64 rfl ?_
              refine w_iload_n dX12_oldBy_65 rfl ?_
              refine w_iload dX12_oldBy_66 rfl ?_
              refine w_iconst dX12_oldBy_68 ?_
              refine w_iadd dX12_oldBy_69 ?_
              refine w_callV (d := d + 3) (S := [aI (fwB (mShadeB (gg 4 0 1) (mOH gg c) (gg 33 s (3 * c2)) (gg 33 s ((3 * c2) + 1)) = true))]) [aI (s : Int), aI ((3 * (c2 : Int)) + 2)] dX12_oldBy_70 ml_X12_360 ok_X12_numberAt vi_X12_numberAt rfl rfl (by decide) rfl (Nat.le_of_ble_eq_true rfl) ?_
              refine c_naE (d := (d + 3)) s ((3 * c2) + 2) (s : Int) ((3 * (c2 : Int)) + 2) S (by omega) (by omega) (by omega) (by omega) ?_
              show fwWP mX12_oldBy (d + 4) 73 [some (aR 12 0), some (aI (s : Int)), some (aI x), some (aI se), some (aI (c : Int)), some (aI ho), some (aI (3 * (c2 : Int)))] [aJ (gg 33 s ((3 * c2) + 2)), aI (fwB (mShadeB (gg 4 0 1) (mOH gg c) (gg 33 s (3 * c2)) (gg 33 s ((3 * c2) + 1)) = true))] (fwUc h 42 0 A61_9) Q
              have hl10 := (hs s (by omega)).2.2 ((3 * c2) + 2) (by omega)
              refine w_lconst (z := 1) dX12_oldBy_73 rfl ?_
              refine w_lc_ne 82 dX12_oldBy_74 dX12_oldBy_75 (by decide) (by omega) (by omega) (fun c75 => ?_) (fun c75 => ?_)
              · refine w_iconst dX12_oldBy_82 ?_
                refine w_icmpF_ne 90 dX12_oldBy_83 (by decide) ?_ ?_
                · refine w_iconst dX12_oldBy_90 ?_
                  refine w_istore [some (aR 12 0), some (aI (s : Int)), some (aI x), some (aI se), some (aI (c : Int)), some (aI 0), some (aI (3 * (c2 : Int)))] dX12_oldBy_91 rfl (by decide) ?_
                  refine w_iinc [some (aR 12 0), some (aI (s : Int)), some (aI x), some (aI se), some (aI (c : Int)), some (aI 0), some (aI ((3 * (c2 : Int)) + 3))] dX12_oldBy_93 rfl rfl (by decide) ?_
                  refine w_goto 18 dX12_oldBy_96 (by decide) ?_
                  exact ih18 (by omega) _ _ _ (by omega) (by omega) hA61_9
                · refine w_iconst dX12_oldBy_86 ?_
                  refine w_goto 91 dX12_oldBy_87 (by decide) ?_
                  refine w_istore [some (aR 12 0), some (aI (s : Int)), some (aI x), some (aI se), some (aI (c : Int)), some (aI 1), some (aI (3 * (c2 : Int)))] dX12_oldBy_91 rfl (by decide) ?_
                  refine w_iinc [some (aR 12 0), some (aI (s : Int)), some (aI x), some (aI se), some (aI (c : Int)), some (aI 1), some (aI ((3 * (c2 : Int)) + 3))] dX12_oldBy_93 rfl rfl (by decide) ?_
                  refine w_goto 18 dX12_oldBy_96 (by decide) ?_
                  exact ih18 (by omega) _ _ _ (by omega) (by omega) hA61_9
              · refine w_iconst dX12_oldBy_78 ?_
                refine w_goto 83 dX12_oldBy_79 (by decide) ?_
                refine w_icmpF_ne 90 dX12_oldBy_83 (by decide) ?_ ?_
                · refine w_iconst dX12_oldBy_90 ?_
                  refine w_istore [some (aR 12 0), some (aI (s : Int)), some (aI x), some (aI se), some (aI (c : Int)), some (aI 0), some (aI (3 * (c2 : Int)))] dX12_oldBy_91 rfl (by decide) ?_
                  refine w_iinc [some (aR 12 0), some (aI (s : Int)), some (aI x), some (aI se), some (aI (c : Int)), some (aI 0), some (aI ((3 * (c2 : Int)) + 3))] dX12_oldBy_93 rfl rfl (by decide) ?_
                  refine w_goto 18 dX12_oldBy_96 (by decide) ?_
                  exact ih18 (by omega) _ _ _ (by omega) (by omega) hA61_9
                · refine w_iconst dX12_oldBy_86 ?_
                  refine w_goto 91 dX12_oldBy_87 (by decide) ?_
                  refine w_istore [some (aR 12 0), some (aI (s : Int)), some (aI x), some (aI se), some (aI (c : Int)), some (aI 1), some (aI (3 * (c2 : Int)))] dX12_oldBy_91 rfl (by decide) ?_
                  refine w_iinc [some (aR 12 0), some (aI (s : Int)), some (aI x), some (aI se), some (aI (c : Int)), some (aI 1), some (aI ((3 * (c2 : Int)) + 3))] dX12_oldBy_93 rfl rfl (by decide) ?_
                  refine w_goto 18 dX12_oldBy_96 (by decide) ?_
                  exact ih18 (by omega) _ _ _ (by omega) (by omega) hA61_9
      exact lp18 0 (by omega) _ _ _ (by omega) (by omega) hA5
  have e42 := fwUc_self h 42 0
  rw [← e42]
  exact lp5 0 (by omega) _ _ _ rfl hH
set_option maxRecDepth 100000 in
set_option maxHeartbeats 4000000 in
theorem c_w_askOf {d : Nat} {h gg : fwH} {Q : Option fwV → fwH → Prop} (s : Nat) (x : Int) (J : cOk gg) (R : jF gg h) (S : jS gg h) (hs : sOk gg) (hSl : oSl gg s) (hH : hiR (gg 4 0 1) (h 42 0) (gg 17 0)) (hx : 0 ≤ x ∧ x < gg 4 0 1) (k : ∀ v A r, hiR (gg 4 0 1) A (gg 17 0) → (r 5 = h 12 0 5 ∧ r 12 = h 12 0 12 ∧ r 13 = h 12 0 13) → Q (some (aI v)) (fwUc (fwUc h 42 0 A) 12 0 r)) : fwCt mX12_askOf (d + 5) [aR 12 0, aI (s : Int), aI x] h Q := by
  refine fwCt_of [some (aR 12 0), some (aI (s : Int)), some (aI x), none, none, none, none, none] rfl rfl rfl ?_
  obtain ⟨hs4, hs5, hs6, hs7⟩ := id hSl
  refine w_aload_n dX12_askOf_0 rfl ?_
  refine w_iload_n dX12_askOf_1 rfl ?_
  refine w_iconst dX12_askOf_2 ?_
  refine w_callV (d := d + 4) (S := []) [aI (s : Int), aI (-1)] dX12_askOf_3 ml_X12_371 ok_X12_oldBy vi_X12_oldBy rfl rfl (by decide) rfl (Nat.le_of_ble_eq_true rfl) ?_
  refine c_w_oldBy (d := d) s (-1) J R S hs hSl hH (by omega) ?_
  intro v1 A3_1 hA3_1
  show fwWP mX12_askOf (d + 5) 6 [some (aR 12 0), some (aI (s : Int)), some (aI x), none, none, none, none, none] [aI v1] (fwUc h 42 0 A3_1) Q
  refine w_istore_n [some (aR 12 0), some (aI (s : Int)), some (aI x), some (aI v1), none, none, none, none] dX12_askOf_6 rfl (by decide) ?_
  refine w_aload_n dX12_askOf_7 rfl ?_
  refine w_iload_n dX12_askOf_8 rfl ?_
  refine w_callS (d := d + 4) (S := [aR 12 0]) [aI v1] dX12_askOf_9 ml_X12_229 ok_X12_bits st_X12_bits rfl (Nat.le_of_ble_eq_true rfl) ?_
  refine c_X12_bits (d := (d + 4)) v1 ?_
  show fwWP mX12_askOf (d + 5) 12 [some (aR 12 0), some (aI (s : Int)), some (aI x), some (aI v1), none, none, none, none] [aI (mBt v1 21), aR 12 0] (fwUc h 42 0 A3_1) Q
  have hbb2 := mBt_rng v1 21
  refine w_puti dX12_askOf_12 fl_X12_374 fp_12_21 rfl (by decide) ?_
  have e3 : fwUp (fwUc h 42 0 A3_1) 12 0 21 (mBt v1 21) = (fwUc (fwUc h 42 0 A3_1) 12 0 (fwFu (h 12 0) 21 (mBt v1 21))) := fwUp_fu _ _ _ _ _
  rw [e3]
  refine w_iconst dX12_askOf_15 ?_
  refine w_istore [some (aR 12 0), some (aI (s : Int)), some (aI x), some (aI v1), some (aI 0), none, none, none] dX12_askOf_16 rfl (by decide) ?_
  refine w_iconst dX12_askOf_18 ?_
  refine w_istore [some (aR 12 0), some (aI (s : Int)), some (aI x), some (aI v1), some (aI 0), some (aI 1), none, none] dX12_askOf_19 rfl (by decide) ?_
  have lp21 : ∀ c : Nat, c ≤ 18 → ∀ (be y21 : Int) (A r : Nat → Int), y21 = 1 + (c : Int) → hiR (gg 4 0 1) A (gg 17 0) → (r 5 = h 12 0 5 ∧ r 12 = h 12 0 12 ∧ r 13 = h 12 0 13) → fwWP mX12_askOf (d + 5) 21 [some (aR 12 0), some (aI (s : Int)), some (aI x), some (aI v1), some (aI be), some (aI y21), none, none] [] (fwUc (fwUc h 42 0 A) 12 0 r) Q := by
    refine fw_up (fun c hc21 ih21 => ?_)
    intro be y21 A r ey21 hA21 hr21
    subst ey21
    show fwWP mX12_askOf (d + 5) 21 [some (aR 12 0), some (aI (s : Int)), some (aI x), some (aI v1), some (aI be), some (aI (1 + (c : Int))), none, none] [] (fwUc (fwUc h 42 0 A) 12 0 r) Q
    refine w_iload dX12_askOf_21 rfl ?_
    refine w_bipush dX12_askOf_23 rfl ?_
    refine w_icmp_gt 136 dX12_askOf_25 (by decide) (by omega) (by omega) (fun c25 => ?_) (fun c25 => ?_)
    · refine w_iload dX12_askOf_136 rfl ?_
      exact w_iret dX12_askOf_138 rfl (k _ _ _ hA21 hr21)
    · refine w_iconst dX12_askOf_28 ?_
      refine w_istore [some (aR 12 0), some (aI (s : Int)), some (aI x), some (aI v1), some (aI be), some (aI (1 + (c : Int))), some (aI 0), none] dX12_askOf_29 rfl (by decide) ?_
      refine w_iconst dX12_askOf_31 ?_
      refine w_istore [some (aR 12 0), some (aI (s : Int)), some (aI x), some (aI v1), some (aI be), some (aI (1 + (c : Int))), some (aI 0), some (aI 0)] dX12_askOf_32 rfl (by decide) ?_
      have lp34 : ∀ c2 : Nat, c2 ≤ 21 → ∀ (dk y34 : Int) (A2 : Nat → Int), y34 = (c2 : Int) → (0 ≤ dk ∧ dk ≤ c2) → hiR (gg 4 0 1) A2 (gg 17 0) → fwWP mX12_askOf (d + 5) 34 [some (aR 12 0), some (aI (s : Int)), some (aI x), some (aI v1), some (aI be), some (aI (1 + (c : Int))), some (aI dk), some (aI y34)] [] (fwUc (fwUc h 42 0 A2) 12 0 r) Q := by
        refine fw_up (fun c2 hc34 ih34 => ?_)
        intro dk y34 A2 ey34 hdk hA34
        subst ey34
        show fwWP mX12_askOf (d + 5) 34 [some (aR 12 0), some (aI (s : Int)), some (aI x), some (aI v1), some (aI be), some (aI (1 + (c : Int))), some (aI dk), some (aI (c2 : Int))] [] (fwUc (fwUc h 42 0 A2) 12 0 r) Q
        refine w_iload dX12_askOf_34 rfl ?_
        refine w_bipush dX12_askOf_36 rfl ?_
        refine w_icmp_gt 94 dX12_askOf_38 (by decide) (by omega) (by omega) (fun c38 => ?_) (fun c38 => ?_)
        · refine w_iload dX12_askOf_94 rfl ?_
          refine w_iload_n dX12_askOf_96 rfl ?_
          refine w_callS (d := d + 4) (S := [aI dk]) [aI v1] dX12_askOf_97 ml_X12_229 ok_X12_bits st_X12_bits rfl (Nat.le_of_ble_eq_true rfl) ?_
          refine c_X12_bits (d := (d + 4)) v1 ?_
          show fwWP mX12_askOf (d + 5) 100 [some (aR 12 0), some (aI (s : Int)), some (aI x), some (aI v1), some (aI be), some (aI (1 + (c : Int))), some (aI dk), some (aI (c2 : Int))] [aI (mBt v1 21), aI dk] (fwUc (fwUc h 42 0 A2) 12 0 r) Q
          have hbb6 := mBt_rng v1 21
          refine w_iload dX12_askOf_100 rfl ?_
          refine w_isub dX12_askOf_102 ?_
          refine w_max (d := d + 4) (S := []) dX12_askOf_103 ml_X12_317 (by omega) (by omega) (Nat.le_of_ble_eq_true rfl) ?_
          refine w_istore [some (aR 12 0), some (aI (s : Int)), some (aI x), some (aI v1), some (aI be), some (aI (1 + (c : Int))), some (aI dk), some (aI (max dk ((mBt v1 21) - dk)))] dX12_askOf_106 rfl (by decide) ?_
          refine w_iload dX12_askOf_108 rfl ?_
          refine w_aload_n dX12_askOf_110 rfl ?_
          refine w_getiE (v := r 21) dX12_askOf_111 fl_X12_374 rfl (by decide) rfl ?_
          refine w_icmpF_lt 120 dX12_askOf_114 (by decide) ?_ ?_
          · refine w_aload_n dX12_askOf_120 rfl ?_
            refine w_iload dX12_askOf_121 rfl ?_
            refine w_puti dX12_askOf_123 fl_X12_374 fp_12_21 rfl (by decide) ?_
            rw [fwUp_uc]
            refine w_iload dX12_askOf_126 rfl ?_
            refine w_istore [some (aR 12 0), some (aI (s : Int)), some (aI x), some (aI v1), some (aI (1 + (c : Int))), some (aI (1 + (c : Int))), some (aI dk), some (aI (max dk ((mBt v1 21) - dk)))] dX12_askOf_128 rfl (by decide) ?_
            refine w_iinc [some (aR 12 0), some (aI (s : Int)), some (aI x), some (aI v1), some (aI (1 + (c : Int))), some (aI ((1 + (c : Int)) + 1)), some (aI dk), some (aI (max dk ((mBt v1 21) - dk)))] dX12_askOf_130 rfl rfl (by decide) ?_
            refine w_goto 21 dX12_askOf_133 (by decide) ?_
            refine w_drop [6, 7] [some (aR 12 0), some (aI (s : Int)), some (aI x), some (aI v1), some (aI (1 + (c : Int))), some (aI ((1 + (c : Int)) + 1)), none, none] rfl ?_
            exact ih21 (by omega) _ _ _ _ (by omega) hA34 hr21
          · refine w_goto 130 dX12_askOf_117 (by decide) ?_
            refine w_iinc [some (aR 12 0), some (aI (s : Int)), some (aI x), some (aI v1), some (aI be), some (aI ((1 + (c : Int)) + 1)), some (aI dk), some (aI (max dk ((mBt v1 21) - dk)))] dX12_askOf_130 rfl rfl (by decide) ?_
            refine w_goto 21 dX12_askOf_133 (by decide) ?_
            refine w_drop [6, 7] [some (aR 12 0), some (aI (s : Int)), some (aI x), some (aI v1), some (aI be), some (aI ((1 + (c : Int)) + 1)), none, none] rfl ?_
            exact ih21 (by omega) _ _ _ _ (by omega) hA34 hr21
        · refine w_iload dX12_askOf_41 rfl ?_
          refine w_iload_n dX12_askOf_43 rfl ?_
          refine w_iload dX12_askOf_44 rfl ?_
          refine w_callS (d := d + 4) (S := [aI dk]) [aI v1, aI (c2 : Int)] dX12_askOf_46 ml_X12_257 ok_X12_bit st_X12_bit rfl (Nat.le_of_ble_eq_true rfl) ?_
          refine c_X12_bit (d := (d + 4)) v1 (c2 : Int) ?_
          show fwWP mX12_askOf (d + 5) 49 [some (aR 12 0), some (aI (s : Int)), some (aI x), some (aI v1), some (aI be), some (aI (1 + (c : Int))), some (aI dk), some (aI (c2 : Int))] [aI (fwAnd (fwShr v1 (c2 : Int)) 1), aI dk] (fwUc (fwUc h 42 0 A2) 12 0 r) Q
          have hbt9 := bit_01 v1 (c2 : Int)
          refine w_iconst dX12_askOf_49 ?_
          refine w_icmp_ne 84 dX12_askOf_50 (by decide) (by omega) (by omega) (fun c50 => ?_) (fun c50 => ?_)
          · refine w_iconst dX12_askOf_84 ?_
            refine w_iadd dX12_askOf_85 ?_
            refine w_istore [some (aR 12 0), some (aI (s : Int)), some (aI x), some (aI v1), some (aI be), some (aI (1 + (c : Int))), some (aI (dk + 0)), some (aI (c2 : Int))] dX12_askOf_86 rfl (by decide) ?_
            refine w_iinc [some (aR 12 0), some (aI (s : Int)), some (aI x), some (aI v1), some (aI be), some (aI (1 + (c : Int))), some (aI (dk + 0)), some (aI ((c2 : Int) + 1))] dX12_askOf_88 rfl rfl (by decide) ?_
            refine w_goto 34 dX12_askOf_91 (by decide) ?_
            exact ih34 (by omega) _ _ _ (by omega) (by omega) hA34
          · refine w_aload_n dX12_askOf_53 rfl ?_
            refine w_iload dX12_askOf_54 rfl ?_
            refine w_iload_n dX12_askOf_56 rfl ?_
            refine w_iload dX12_askOf_57 rfl ?_
            refine w_bipush dX12_askOf_59 rfl ?_
            refine w_icmp_gt 69 dX12_askOf_61 (by decide) (by omega) (by omega) (fun c61 => ?_) (fun c61 => ?_)
            · refine w_bipush dX12_askOf_69 rfl ?_
              refine w_iload dX12_askOf_71 rfl ?_
              refine w_isub dX12_askOf_73 ?_
              refine w_callV (d := d + 4) (S := [aI dk]) [aI (c2 : Int), aI x, aI (9 - (1 + (c : Int)))] dX12_askOf_74 ml_X12_364 ok_X12_wasDark vi_X12_wasDark rfl rfl (by decide) rfl (Nat.le_of_ble_eq_true rfl) ?_
              refine c_X12_wasDark (d := (d + 1)) c2 x (9 - (1 + (c : Int))) J R hA34 (by omega) (by omega) (by omega) ?_
              intro A74_12 hA74_12; rw [W12_42]
              show fwWP mX12_askOf (d + 5) 77 [some (aR 12 0), some (aI (s : Int)), some (aI x), some (aI v1), some (aI be), some (aI (1 + (c : Int))), some (aI dk), some (aI (c2 : Int))] [aI (fwB (mShadeB (gg 4 0 1) (mOH gg c2) x (9 - (1 + (c : Int))) = true)), aI dk] (fwUc (fwUc h 42 0 A74_12) 12 0 r) Q
              refine w_ifB_eq 84 dX12_askOf_77 (by decide) (fun c77 => ?_) (fun c77 => ?_)
              · refine w_iconst dX12_askOf_84 ?_
                refine w_iadd dX12_askOf_85 ?_
                refine w_istore [some (aR 12 0), some (aI (s : Int)), some (aI x), some (aI v1), some (aI be), some (aI (1 + (c : Int))), some (aI (dk + 0)), some (aI (c2 : Int))] dX12_askOf_86 rfl (by decide) ?_
                refine w_iinc [some (aR 12 0), some (aI (s : Int)), some (aI x), some (aI v1), some (aI be), some (aI (1 + (c : Int))), some (aI (dk + 0)), some (aI ((c2 : Int) + 1))] dX12_askOf_88 rfl rfl (by decide) ?_
                refine w_goto 34 dX12_askOf_91 (by decide) ?_
                exact ih34 (by omega) _ _ _ (by omega) (by omega) hA74_12
              · refine w_iconst dX12_askOf_80 ?_
                refine w_goto 85 dX12_askOf_81 (by decide) ?_
                refine w_iadd dX12_askOf_85 ?_
                refine w_istore [some (aR 12 0), some (aI (s : Int)), some (aI x), some (aI v1), some (aI be), some (aI (1 + (c : Int))), some (aI (dk + 1)), some (aI (c2 : Int))] dX12_askOf_86 rfl (by decide) ?_
                refine w_iinc [some (aR 12 0), some (aI (s : Int)), some (aI x), some (aI v1), some (aI be), some (aI (1 + (c : Int))), some (aI (dk + 1)), some (aI ((c2 : Int) + 1))] dX12_askOf_88 rfl rfl (by decide) ?_
                refine w_goto 34 dX12_askOf_91 (by decide) ?_
                exact ih34 (by omega) _ _ _ (by omega) (by omega) hA74_12
            · refine w_iload dX12_askOf_64 rfl ?_
              refine w_goto 74 dX12_askOf_66 (by decide) ?_
              refine w_callV (d := d + 4) (S := [aI dk]) [aI (c2 : Int), aI x, aI (1 + (c : Int))] dX12_askOf_74 ml_X12_364 ok_X12_wasDark vi_X12_wasDark rfl rfl (by decide) rfl (Nat.le_of_ble_eq_true rfl) ?_
              refine c_X12_wasDark (d := (d + 1)) c2 x (1 + (c : Int)) J R hA34 (by omega) (by omega) (by omega) ?_
              intro A74_14 hA74_14; rw [W12_42]
              show fwWP mX12_askOf (d + 5) 77 [some (aR 12 0), some (aI (s : Int)), some (aI x), some (aI v1), some (aI be), some (aI (1 + (c : Int))), some (aI dk), some (aI (c2 : Int))] [aI (fwB (mShadeB (gg 4 0 1) (mOH gg c2) x (1 + (c : Int)) = true)), aI dk] (fwUc (fwUc h 42 0 A74_14) 12 0 r) Q
              refine w_ifB_eq 84 dX12_askOf_77 (by decide) (fun c77 => ?_) (fun c77 => ?_)
              · refine w_iconst dX12_askOf_84 ?_
                refine w_iadd dX12_askOf_85 ?_
                refine w_istore [some (aR 12 0), some (aI (s : Int)), some (aI x), some (aI v1), some (aI be), some (aI (1 + (c : Int))), some (aI (dk + 0)), some (aI (c2 : Int))] dX12_askOf_86 rfl (by decide) ?_
                refine w_iinc [some (aR 12 0), some (aI (s : Int)), some (aI x), some (aI v1), some (aI be), some (aI (1 + (c : Int))), some (aI (dk + 0)), some (aI ((c2 : Int) + 1))] dX12_askOf_88 rfl rfl (by decide) ?_
                refine w_goto 34 dX12_askOf_91 (by decide) ?_
                exact ih34 (by omega) _ _ _ (by omega) (by omega) hA74_14
              · refine w_iconst dX12_askOf_80 ?_
                refine w_goto 85 dX12_askOf_81 (by decide) ?_
                refine w_iadd dX12_askOf_85 ?_
                refine w_istore [some (aR 12 0), some (aI (s : Int)), some (aI x), some (aI v1), some (aI be), some (aI (1 + (c : Int))), some (aI (dk + 1)), some (aI (c2 : Int))] dX12_askOf_86 rfl (by decide) ?_
                refine w_iinc [some (aR 12 0), some (aI (s : Int)), some (aI x), some (aI v1), some (aI be), some (aI (1 + (c : Int))), some (aI (dk + 1)), some (aI ((c2 : Int) + 1))] dX12_askOf_88 rfl rfl (by decide) ?_
                refine w_goto 34 dX12_askOf_91 (by decide) ?_
                exact ih34 (by omega) _ _ _ (by omega) (by omega) hA74_14
      exact lp34 0 (by omega) _ _ _ rfl (by omega) hA21
  exact lp21 0 (by omega) _ _ _ _ (by omega) hA3_1 ⟨rfl, rfl, rfl⟩

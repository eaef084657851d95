section FREE
variable {M : fwM} {d pc : Nat} {L : List (Option fwV)} {S : List fwV} {h : fwH} {Q : Option fwV → fwH → Prop}
theorem w_ifF_eq {x off : Int} (tgt : Nat) (hd : decode M.2.1 pc = .ok (.ifCond .eq off, 3)) (ht : (pc : Int) + off = (tgt : Int)) (kt : fwWP M d tgt L S h Q) (kf : fwWP M d (pc + 3) L S h Q) : fwWP M d pc L (aI x :: S) h Q := by
  intro l p e s m args below meth c ad D tc H locs ls C X
  exact lv_if_eq C.1 C.2.1 hd ht (fun _ => kt l p e s m args below meth c ad D tc H locs ls C X) (fun _ => kf l p e s m args below meth c ad D tc H locs ls C X)
theorem w_ifF_ne {x off : Int} (tgt : Nat) (hd : decode M.2.1 pc = .ok (.ifCond .ne off, 3)) (ht : (pc : Int) + off = (tgt : Int)) (kt : fwWP M d tgt L S h Q) (kf : fwWP M d (pc + 3) L S h Q) : fwWP M d pc L (aI x :: S) h Q := by
  intro l p e s m args below meth c ad D tc H locs ls C X
  exact lv_if_ne C.1 C.2.1 hd ht (fun _ => kt l p e s m args below meth c ad D tc H locs ls C X) (fun _ => kf l p e s m args below meth c ad D tc H locs ls C X)
theorem w_icmpF_ne {x y off : Int} (tgt : Nat) (hd : decode M.2.1 pc = .ok (.if_icmp .ne off, 3)) (ht : (pc : Int) + off = (tgt : Int)) (kt : fwWP M d tgt L S h Q) (kf : fwWP M d (pc + 3) L S h Q) : fwWP M d pc L (aI y :: aI x :: S) h Q := by
  intro l p e s m args below meth c ad D tc H locs ls C X
  exact lv_icmp_ne C.1 C.2.1 hd ht (fun _ => kt l p e s m args below meth c ad D tc H locs ls C X) (fun _ => kf l p e s m args below meth c ad D tc H locs ls C X)
end FREE
set_option maxRecDepth 100000 in
set_option maxHeartbeats 4000000 in
theorem c_w_isWinners {d : Nat} {h : fwH} {Q : Option fwV → fwH → Prop} (x y : Int)  (k : ∀ v : Int, (v = 0 ∨ v = 1) → Q (some (aI v)) h) : fwCt mX12_isWinners (d + 0) [aI x, aI y] h Q := by
  refine fwCt_of [some (aI x), some (aI y)] rfl rfl rfl ?_
  refine w_iload_n dX12_isWinners_0 rfl ?_
  refine w_iconst dX12_isWinners_1 ?_
  refine w_irem dX12_isWinners_2 (by omega) (by omega) ?_
  refine w_iload_n dX12_isWinners_3 rfl ?_
  refine w_icmpF_ne 11 dX12_isWinners_4 (by decide) ?_ ?_
  · refine w_iconst dX12_isWinners_11 ?_
    exact w_zret dX12_isWinners_12 rfl (by omega) (k _ (by omega))
  · refine w_iconst dX12_isWinners_7 ?_
    refine w_goto 12 dX12_isWinners_8 (by decide) ?_
    exact w_zret dX12_isWinners_12 rfl (by omega) (k _ (by omega))
set_option maxRecDepth 100000 in
set_option maxHeartbeats 4000000 in
theorem c_X12_pair {d : Nat} {h : fwH} {Q : Option fwV → fwH → Prop} (x y : Int)  (k : Q (some (aI (256 * x + y))) h) : fwCt mX12_pair (d + 0) [aI x, aI y] h Q := by
  refine fwCt_of [some (aI x), some (aI y)] rfl rfl rfl ?_
  refine w_sipush dX12_pair_0 rfl ?_
  refine w_iload_n dX12_pair_3 rfl ?_
  refine w_imul dX12_pair_4 ?_
  refine w_iload_n dX12_pair_5 rfl ?_
  refine w_iadd dX12_pair_6 ?_
  exact w_iretE dX12_pair_7 rfl (by rfl) k
theorem shl_c8 {c : Nat} (hc : c < 8) : fwShl 1 (c : Int) < 256 := by
  have key : ∀ c : Nat, c < 8 → fwShl 1 (c : Int) < 256 := by decide +kernel
  exact key c hc
set_option maxRecDepth 100000 in
set_option maxHeartbeats 4000000 in
theorem c_w_endBy {d : Nat} {h gg : fwH} {Q : Option fwV → fwH → Prop} (x y u v wl : Int) (J : cOk gg) (R : jF gg h) (hx : 0 ≤ x ∧ x < 256) (hy : 0 ≤ y ∧ y < 256) (hu : 0 ≤ u ∧ u ≤ 4) (hw8 : 0 ≤ wl ∧ wl < 256) (k : ∀ b : Int, (b = 0 ∨ b = 1) → Q (some (aI b)) h) : fwCt mX12_endBy (d + 3) [aR 12 0, aI x, aI y, aI u, aI v, aI wl] h Q := by
  refine fwCt_of [some (aR 12 0), some (aI x), some (aI y), some (aI u), some (aI v), some (aI wl), none, none, none, none] rfl rfl rfl ?_
  obtain ⟨hl, hP, hG, -, -, -, hlw, -, ha, hs, -, hsc⟩ := id J
  obtain ⟨⟨g1, g2⟩, ⟨g3, g4⟩, ⟨g5, g6⟩, g7, -⟩ := id hG
  have hpz := hP.1
  refine w_iload_n dX12_endBy_0 rfl ?_
  refine w_callS (d := d + 2) (S := []) [aI x] dX12_endBy_1 ml_X12_229 ok_X12_bits st_X12_bits rfl (Nat.le_of_ble_eq_true rfl) ?_
  refine c_bitsP (d := (d + 2)) x (by first | assumption | omega | decide) ?_
  show fwWP mX12_endBy (d + 3) 4 [some (aR 12 0), some (aI x), some (aI y), some (aI u), some (aI v), some (aI wl), none, none, none, none] [aI (fwPop x)] h Q
  have hpp1 := fwPop_rng x
  refine w_iload_n dX12_endBy_4 rfl ?_
  refine w_callS (d := d + 2) (S := [aI (fwPop x)]) [aI y] dX12_endBy_5 ml_X12_229 ok_X12_bits st_X12_bits rfl (Nat.le_of_ble_eq_true rfl) ?_
  refine c_bitsP (d := (d + 2)) y (by first | assumption | omega | decide) ?_
  show fwWP mX12_endBy (d + 3) 8 [some (aR 12 0), some (aI x), some (aI y), some (aI u), some (aI v), some (aI wl), none, none, none, none] [aI (fwPop y), aI (fwPop x)] h Q
  have hpp2 := fwPop_rng y
  refine w_iadd dX12_endBy_8 ?_
  refine w_istore [some (aR 12 0), some (aI x), some (aI y), some (aI u), some (aI v), some (aI wl), some (aI ((fwPop x) + (fwPop y))), none, none, none] dX12_endBy_9 rfl (by decide) ?_
  refine w_iload dX12_endBy_11 rfl ?_
  refine w_iconst dX12_endBy_13 ?_
  refine w_iload_n dX12_endBy_14 rfl ?_
  refine w_imul dX12_endBy_15 ?_
  refine w_aload_n dX12_endBy_16 rfl ?_
  refine w_getr 36 0 dX12_endBy_17 fl_X12_9 rfl (by decide) ?_
  refine w_bipush dX12_endBy_20 rfl ?_
  refine w_ialdE (v := gg 5 0 3) dX12_endBy_22 rfl (by decide) (by omega) (by omega) R.2.2.2.2.2.2.1 ?_
  refine w_min (d := d + 2) (S := [aI ((fwPop x) + (fwPop y))]) dX12_endBy_23 ml_X12_112 (by omega) (by omega) (Nat.le_of_ble_eq_true rfl) ?_
  refine w_icmp_lt 43 dX12_endBy_26 (by decide) (by omega) (by omega) (fun c26 => ?_) (fun c26 => ?_)
  · refine w_iload dX12_endBy_43 rfl ?_
    refine w_iload dX12_endBy_45 rfl ?_
    refine w_callS (d := d + 2) (S := []) [aI ((fwPop x) + (fwPop y)), aI v] dX12_endBy_47 ml_X12_279 ok_X12_isWinners st_X12_isWinners rfl (Nat.le_of_ble_eq_true rfl) ?_
    refine c_w_isWinners (d := (d + 2)) ((fwPop x) + (fwPop y)) v ?_
    intro b4 hb4
    show fwWP mX12_endBy (d + 3) 50 [some (aR 12 0), some (aI x), some (aI y), some (aI u), some (aI v), some (aI wl), some (aI ((fwPop x) + (fwPop y))), none, none, none] [aI b4] h Q
    refine w_istore [some (aR 12 0), some (aI x), some (aI y), some (aI u), some (aI v), some (aI wl), some (aI ((fwPop x) + (fwPop y))), some (aI b4), none, none] dX12_endBy_50 rfl (by decide) ?_
    refine w_iconst dX12_endBy_52 ?_
    refine w_istore [some (aR 12 0), some (aI x), some (aI y), some (aI u), some (aI v), some (aI wl), some (aI ((fwPop x) + (fwPop y))), some (aI b4), some (aI 0), none] dX12_endBy_53 rfl (by decide) ?_
    have lp55 : ∀ c : Nat, c ≤ (gg 5 0 3).toNat → ∀ (y55  : Int), y55 = (c : Int) → fwWP mX12_endBy (d + 3) 55 [some (aR 12 0), some (aI x), some (aI y), some (aI u), some (aI v), some (aI wl), some (aI ((fwPop x) + (fwPop y))), some (aI b4), some (aI y55), none] [] h Q := by
      refine fw_up (fun c hc55 ih55 => ?_)
      intro y55  ey55
      subst ey55
      show fwWP mX12_endBy (d + 3) 55 [some (aR 12 0), some (aI x), some (aI y), some (aI u), some (aI v), some (aI wl), some (aI ((fwPop x) + (fwPop y))), some (aI b4), some (aI (c : Int)), none] [] h Q
      refine w_iload dX12_endBy_55 rfl ?_
      refine w_aload_n dX12_endBy_57 rfl ?_
      refine w_getr 36 0 dX12_endBy_58 fl_X12_9 rfl (by decide) ?_
      refine w_bipush dX12_endBy_61 rfl ?_
      refine w_ialdE (v := gg 5 0 3) dX12_endBy_63 rfl (by decide) (by omega) (by omega) R.2.2.2.2.2.2.1 ?_
      refine w_icmp_ge 138 dX12_endBy_64 (by decide) (by omega) (by omega) (fun c64 => ?_) (fun c64 => ?_)
      · refine w_iload dX12_endBy_138 rfl ?_
        refine w_ifF_ne 147 dX12_endBy_140 (by decide) ?_ ?_
        · refine w_iconst dX12_endBy_147 ?_
          exact w_zret dX12_endBy_148 rfl (by omega) (k _ (by omega))
        · refine w_iconst dX12_endBy_143 ?_
          refine w_goto 148 dX12_endBy_144 (by decide) ?_
          exact w_zret dX12_endBy_148 rfl (by omega) (k _ (by omega))
      · refine w_iload_n dX12_endBy_67 rfl ?_
        refine w_iload_n dX12_endBy_68 rfl ?_
        refine w_ior dX12_endBy_69 ?_
        refine w_iload dX12_endBy_70 rfl ?_
        refine w_callS (d := d + 2) (S := []) [aI (fwOr x y), aI (c : Int)] dX12_endBy_72 ml_X12_257 ok_X12_bit st_X12_bit rfl (Nat.le_of_ble_eq_true rfl) ?_
        refine c_X12_bit (d := (d + 2)) (fwOr x y) (c : Int) ?_
        show fwWP mX12_endBy (d + 3) 75 [some (aR 12 0), some (aI x), some (aI y), some (aI u), some (aI v), some (aI wl), some (aI ((fwPop x) + (fwPop y))), some (aI b4), some (aI (c : Int)), none] [aI (fwAnd (fwShr (fwOr x y) (c : Int)) 1)] h Q
        have hbt7 := bit_01 (fwOr x y) (c : Int)
        refine w_iconst dX12_endBy_75 ?_
        refine w_icmp_ne 82 dX12_endBy_76 (by decide) (by omega) (by omega) (fun c76 => ?_) (fun c76 => ?_)
        · have hf8 := shl_8 (x := (c : Int)) (by omega)
          have hf7 : fwShl 1 (c : Int) < 256 := shl_c8 (by omega)
          have hox := or_rg hx (y := fwShl 1 (c : Int)) (by omega)
          have hoy := or_rg hy (y := fwShl 1 (c : Int)) (by omega)
          refine w_iload dX12_endBy_82 rfl ?_
          refine w_ifF_eq 105 dX12_endBy_84 (by decide) ?_ ?_
          · refine w_aload_n dX12_endBy_105 rfl ?_
            refine w_getr 43 0 dX12_endBy_106 fl_X12_38 rfl (by decide) ?_
            refine w_iload_n dX12_endBy_109 rfl ?_
            refine w_iload_n dX12_endBy_110 rfl ?_
            refine w_iconst dX12_endBy_111 ?_
            refine w_iload dX12_endBy_112 rfl ?_
            refine w_ishl dX12_endBy_114 ?_
            refine w_ior dX12_endBy_115 ?_
            refine w_callS (d := d + 2) (S := [aR 43 0]) [aI x, aI (fwOr y (fwShl 1 (c : Int)))] dX12_endBy_116 ml_X12_282 ok_X12_pair st_X12_pair rfl (Nat.le_of_ble_eq_true rfl) ?_
            refine c_X12_pair (d := (d + 2)) x (fwOr y (fwShl 1 (c : Int))) ?_
            show fwWP mX12_endBy (d + 3) 119 [some (aR 12 0), some (aI x), some (aI y), some (aI u), some (aI v), some (aI wl), some (aI ((fwPop x) + (fwPop y))), some (aI b4), some (aI (c : Int)), none] [aI (256 * x + (fwOr y (fwShl 1 (c : Int)))), aR 43 0] h Q
            refine w_zald dX12_endBy_119 rfl (by decide) (by omega) (by omega) ?_
            refine w_istore [some (aR 12 0), some (aI x), some (aI y), some (aI u), some (aI v), some (aI wl), some (aI ((fwPop x) + (fwPop y))), some (aI b4), some (aI (c : Int)), some (aI (h 43 0 (256 * x + (fwOr y (fwShl 1 (c : Int)))).toNat))] dX12_endBy_120 rfl (by decide) ?_
            refine w_iload dX12_endBy_122 rfl ?_
            refine w_iload dX12_endBy_124 rfl ?_
            refine w_icmpF_ne 132 dX12_endBy_126 (by decide) ?_ ?_
            · refine w_iinc [some (aR 12 0), some (aI x), some (aI y), some (aI u), some (aI v), some (aI wl), some (aI ((fwPop x) + (fwPop y))), some (aI b4), some (aI ((c : Int) + 1)), some (aI (h 43 0 (256 * x + (fwOr y (fwShl 1 (c : Int)))).toNat))] dX12_endBy_132 rfl rfl (by decide) ?_
              refine w_goto 55 dX12_endBy_135 (by decide) ?_
              refine w_drop [9] [some (aR 12 0), some (aI x), some (aI y), some (aI u), some (aI v), some (aI wl), some (aI ((fwPop x) + (fwPop y))), some (aI b4), some (aI ((c : Int) + 1)), none] rfl ?_
              refine ih55 (by omega) _ ?_
              · exact (by omega)
            · refine w_iload dX12_endBy_129 rfl ?_
              exact w_zret dX12_endBy_131 rfl (by omega) (k _ (by omega))
          · refine w_aload_n dX12_endBy_87 rfl ?_
            refine w_getr 43 0 dX12_endBy_88 fl_X12_38 rfl (by decide) ?_
            refine w_iload_n dX12_endBy_91 rfl ?_
            refine w_iconst dX12_endBy_92 ?_
            refine w_iload dX12_endBy_93 rfl ?_
            refine w_ishl dX12_endBy_95 ?_
            refine w_ior dX12_endBy_96 ?_
            refine w_iload_n dX12_endBy_97 rfl ?_
            refine w_callS (d := d + 2) (S := [aR 43 0]) [aI (fwOr x (fwShl 1 (c : Int))), aI y] dX12_endBy_98 ml_X12_282 ok_X12_pair st_X12_pair rfl (Nat.le_of_ble_eq_true rfl) ?_
            refine c_X12_pair (d := (d + 2)) (fwOr x (fwShl 1 (c : Int))) y ?_
            show fwWP mX12_endBy (d + 3) 101 [some (aR 12 0), some (aI x), some (aI y), some (aI u), some (aI v), some (aI wl), some (aI ((fwPop x) + (fwPop y))), some (aI b4), some (aI (c : Int)), none] [aI (256 * (fwOr x (fwShl 1 (c : Int))) + y), aR 43 0] h Q
            refine w_zald dX12_endBy_101 rfl (by decide) (by omega) (by omega) ?_
            refine w_goto 120 dX12_endBy_102 (by decide) ?_
            refine w_istore [some (aR 12 0), some (aI x), some (aI y), some (aI u), some (aI v), some (aI wl), some (aI ((fwPop x) + (fwPop y))), some (aI b4), some (aI (c : Int)), some (aI (h 43 0 (256 * (fwOr x (fwShl 1 (c : Int))) + y).toNat))] dX12_endBy_120 rfl (by decide) ?_
            refine w_iload dX12_endBy_122 rfl ?_
            refine w_iload dX12_endBy_124 rfl ?_
            refine w_icmpF_ne 132 dX12_endBy_126 (by decide) ?_ ?_
            · refine w_iinc [some (aR 12 0), some (aI x), some (aI y), some (aI u), some (aI v), some (aI wl), some (aI ((fwPop x) + (fwPop y))), some (aI b4), some (aI ((c : Int) + 1)), some (aI (h 43 0 (256 * (fwOr x (fwShl 1 (c : Int))) + y).toNat))] dX12_endBy_132 rfl rfl (by decide) ?_
              refine w_goto 55 dX12_endBy_135 (by decide) ?_
              refine w_drop [9] [some (aR 12 0), some (aI x), some (aI y), some (aI u), some (aI v), some (aI wl), some (aI ((fwPop x) + (fwPop y))), some (aI b4), some (aI ((c : Int) + 1)), none] rfl ?_
              refine ih55 (by omega) _ ?_
              · exact (by omega)
            · refine w_iload dX12_endBy_129 rfl ?_
              exact w_zret dX12_endBy_131 rfl (by omega) (k _ (by omega))
        · refine w_goto 132 dX12_endBy_79 (by decide) ?_
          refine w_iinc [some (aR 12 0), some (aI x), some (aI y), some (aI u), some (aI v), some (aI wl), some (aI ((fwPop x) + (fwPop y))), some (aI b4), some (aI ((c : Int) + 1)), none] dX12_endBy_132 rfl rfl (by decide) ?_
          refine w_goto 55 dX12_endBy_135 (by decide) ?_
          refine ih55 (by omega) _ ?_
          · exact (by omega)
    refine lp55 0 (Nat.zero_le _) _ ?_
    · exact (by omega)
  · have ho8 := or_rg hw8 (y := x) (by omega)
    refine w_aload_n dX12_endBy_29 rfl ?_
    refine w_aload_n dX12_endBy_30 rfl ?_
    refine w_iload dX12_endBy_31 rfl ?_
    refine w_iload_n dX12_endBy_33 rfl ?_
    refine w_ior dX12_endBy_34 ?_
    refine w_iload_n dX12_endBy_35 rfl ?_
    refine w_callV (d := d + 2) (S := [aR 12 0]) [aI (fwOr wl x), aI y] dX12_endBy_36 ml_X12_270 ok_X12_signing vi_X12_signing rfl rfl (by decide) rfl (Nat.le_of_ble_eq_true rfl) ?_
    refine c_sgE (d := (d + 1)) (fwOr wl x) y J R (by omega) (by omega) ?_
    show fwWP mX12_endBy (d + 3) 39 [some (aR 12 0), some (aI x), some (aI y), some (aI u), some (aI v), some (aI wl), some (aI ((fwPop x) + (fwPop y))), none, none, none] [aI (mSign (gg 18 0) (gg 5 0 3).toNat (fwOr wl x) y), aR 12 0] h Q
    refine w_callV (d := d + 2) (S := []) [aI (mSign (gg 18 0) (gg 5 0 3).toNat (fwOr wl x) y)] dX12_endBy_39 ml_X12_273 ok_X12_isEnough vi_X12_isEnough rfl rfl (by decide) rfl (Nat.le_of_ble_eq_true rfl) ?_
    refine c_X12_isEnough (d := d) (mSign (gg 18 0) (gg 5 0 3).toNat (fwOr wl x) y) J R ?_
    show fwWP mX12_endBy (d + 3) 42 [some (aR 12 0), some (aI x), some (aI y), some (aI u), some (aI v), some (aI wl), some (aI ((fwPop x) + (fwPop y))), none, none, none] [aI (fwB (gg 3 0 4 ≤ mNames (gg 18 0) (mSign (gg 18 0) (gg 5 0 3).toNat (fwOr wl x) y) (gg 5 0 3).toNat))] h Q
    exact w_zret dX12_endBy_42 rfl (fwB_01 _) (k _ (fwB_01 _))
theorem and_w {x y : Int} (hx : 0 ≤ x ∧ x < 256) (hy : 0 ≤ y ∧ y < 256) : 0 ≤ fwAnd x y ∧ fwAnd x y < 256 := by
  obtain ⟨a, rfl⟩ : ∃ a : Nat, x = a := ⟨x.toNat, by omega⟩
  obtain ⟨b, rfl⟩ : ∃ b : Nat, y = b := ⟨y.toNat, by omega⟩
  rw [and_255 (by omega) (by omega)]
  have := Nat.and_le_left (n := a) (m := b)
  omega
set_option maxRecDepth 100000 in
set_option maxHeartbeats 4000000 in
theorem c_w_playBy {d : Nat} {h gg : fwH} {Q : Option fwV → fwH → Prop} (x y : Int) (J : cOk gg) (R : jF gg h) (K : jA gg h) (hsh : sc h) (hx : 0 ≤ x ∧ x ≤ 4) (hmt : 0 < gg 3 0 6) (k : ∀ v g, (v = 0 ∨ v = 1) → scr h g → Q (some (aI v)) g) : fwCt mX12_playBy (d + 6) [aR 12 0, aI x, aI y] h Q := by
  refine fwCt_of [some (aR 12 0), some (aI x), some (aI y), none, none, none] rfl rfl rfl ?_
  obtain ⟨hl, hP, hG, hM0, htd, hut, hlw, hhc, ha, hs, hT, hsc⟩ := id J
  have hb17 : hB (gg 17 0) := fun c hc => by have := hM0 c hc; omega
  obtain ⟨⟨g1, g2⟩, ⟨g3, g4⟩, ⟨g5, g6⟩, g7, -⟩ := id hG
  have h17_99 : ∀ c : Nat, (c : Int) < gg 4 0 1 → gg 17 0 c ≤ 99 := fun c hc => (hM0 c (by omega)).2
  have hpz := hP.1
  have hrs1 := R.2.2.2.2.2.2.2.2.2.2.2
  refine w_aload_n dX12_playBy_0 rfl ?_
  refine w_callV (d := d + 5) (S := []) [] dX12_playBy_1 ml_X12_240 ok_X12_asItIs vi_X12_asItIs rfl rfl (by decide) rfl (Nat.le_of_ble_eq_true rfl) ?_
  refine c_X12_asItIs (d := d) J R K (show 1 ≤ gg 4 0 1 by omega) (show 1 ≤ gg 4 0 3 by omega) ?_
  intro A1_1 hA1_1
  show fwWP mX12_playBy (d + 6) 4 [some (aR 12 0), some (aI x), some (aI y), none, none, none] [] (fwUc h 42 0 A1_1) Q
  refine w_aload_n dX12_playBy_4 rfl ?_
  refine w_callV (d := d + 5) (S := []) [] dX12_playBy_5 ml_X12_263 ok_X12_willingSet vi_X12_willingSet rfl rfl (by decide) rfl (Nat.le_of_ble_eq_true rfl) ?_
  refine c_X12_willingSet (d := d) (gg 17 0) J R hA1_1 hb17 (show 1 ≤ gg 4 0 1 by omega) ?_
  intro A5_2 hA5_2
  show fwWP mX12_playBy (d + 6) 8 [some (aR 12 0), some (aI x), some (aI y), none, none, none] [aI (mGers (gg 4 0 1) (gg 17 0) (gg 4 0 2) (gg 4 0 4) (gg 18 0) (gg 5 0 3).toNat (-1))] (fwUc (fwUc h 42 0 A1_1) 42 0 A5_2) Q
  rw [show (fwUc (fwUc h 42 0 A1_1) 42 0 A5_2) = (fwUc h 42 0 A5_2) from by funext a b; simp only [fwUc]; (repeat' split); all_goals first | rfl | (exfalso; omega)]
  have hwr2 := mGers_r (gg 4 0 1) (gg 17 0) (gg 4 0 2) (gg 4 0 4) (gg 18 0) (m := (gg 5 0 3).toNat) (-1) (by omega)
  have hw8_3 := mGers_8 (gg 4 0 1) (gg 17 0) (gg 4 0 2) (gg 4 0 4) (gg 18 0) (m := (gg 5 0 3).toNat) (-1) (by omega)
  change fwWP _ _ _ _ (aI (mWil gg 0) :: _) _ _
  have hw8 : 0 ≤ mWil gg 0 ∧ mWil gg 0 < 256 := hw8_3
  have hs8 := shl_8 (x := gg 5 0 3) (by omega)
  refine w_istore_n [some (aR 12 0), some (aI x), some (aI y), some (aI (mWil gg 0)), none, none] dX12_playBy_8 rfl (by decide) ?_
  refine w_aload_n dX12_playBy_9 rfl ?_
  refine w_callV (d := d + 5) (S := []) [] dX12_playBy_10 ml_X12_77 ok_X12_all vi_X12_all rfl rfl (by decide) rfl (Nat.le_of_ble_eq_true rfl) ?_
  refine c_X12_all (d := (d + 5)) J R ?_
  show fwWP mX12_playBy (d + 6) 13 [some (aR 12 0), some (aI x), some (aI y), some (aI (mWil gg 0)), none, none] [aI (fwShl 1 (gg 5 0 3) - 1)] (fwUc h 42 0 A5_2) Q
  have hsh4 := fwShl1_rng (x := gg 5 0 3) (by omega)
  refine w_istore [some (aR 12 0), some (aI x), some (aI y), some (aI (mWil gg 0)), some (aI (fwShl 1 (gg 5 0 3) - 1)), none] dX12_playBy_13 rfl (by decide) ?_
  have lp15 : ∀ c : Nat, c ≤ (fwShl 1 (gg 5 0 3)).toNat → ∀ (y15  : Int) (hh15 : fwH), y15 = fwShl 1 (gg 5 0 3) - 1 - (c : Int) → (∃ r : Nat → Int, hh15 = (fwUc (fwUc h 42 0 A5_2) 43 0 r) ∧ ((c : Int) < fwShl 1 (gg 5 0 3) ∨ (r 0 = 0 ∨ r 0 = 1))) → fwWP mX12_playBy (d + 6) 15 [some (aR 12 0), some (aI x), some (aI y), some (aI (mWil gg 0)), some (aI y15), none] [] hh15 Q := by
    refine fw_up (fun c hc15 ih15 => ?_)
    intro y15  hh15 ey15 eh15
    subst ey15
    obtain ⟨r_15, eh15, hp15⟩ := eh15
    subst eh15
    show fwWP mX12_playBy (d + 6) 15 [some (aR 12 0), some (aI x), some (aI y), some (aI (mWil gg 0)), some (aI (fwShl 1 (gg 5 0 3) - 1 - (c : Int))), none] [] (fwUc (fwUc h 42 0 A5_2) 43 0 r_15) Q
    refine w_iload dX12_playBy_15 rfl ?_
    refine w_if_lt 74 dX12_playBy_17 (by decide) (by omega) (fun c17 => ?_) (fun c17 => ?_)
    · refine w_aload_n dX12_playBy_74 rfl ?_
      refine w_getr 43 0 dX12_playBy_75 fl_X12_38 rfl (by decide) ?_
      refine w_iconst dX12_playBy_78 ?_
      refine w_zaldE (v := r_15 0) dX12_playBy_79 rfl (by decide) (by omega) (by omega) (by rw [show (0 : Int).toNat = 0 by omega]; rfl) ?_
      exact w_zret dX12_playBy_80 rfl (by omega) (k _ _ (by omega) (scr_uc (scr_uc (scr_rf hsh) rfl (by decide) (by decide) (by decide)) rfl (by decide) (by decide) (by decide)))
    · refine w_aload_n dX12_playBy_20 rfl ?_
      refine w_callV (d := d + 5) (S := []) [] dX12_playBy_21 ml_X12_77 ok_X12_all vi_X12_all rfl rfl (by decide) rfl (Nat.le_of_ble_eq_true rfl) ?_
      refine c_X12_all (d := (d + 5)) J R ?_
      show fwWP mX12_playBy (d + 6) 24 [some (aR 12 0), some (aI x), some (aI y), some (aI (mWil gg 0)), some (aI (fwShl 1 (gg 5 0 3) - 1 - (c : Int))), none] [aI (fwShl 1 (gg 5 0 3) - 1)] (fwUc (fwUc h 42 0 A5_2) 43 0 r_15) Q
      have hsh6 := fwShl1_rng (x := gg 5 0 3) (by omega)
      refine w_istore [some (aR 12 0), some (aI x), some (aI y), some (aI (mWil gg 0)), some (aI (fwShl 1 (gg 5 0 3) - 1 - (c : Int))), some (aI (fwShl 1 (gg 5 0 3) - 1))] dX12_playBy_24 rfl (by decide) ?_
      have lp26 : ∀ c2 : Nat, c2 ≤ (fwShl 1 (gg 5 0 3)).toNat → ∀ (y26  : Int) (hh26 : fwH), y26 = fwShl 1 (gg 5 0 3) - 1 - (c2 : Int) → (∃ r : Nat → Int, hh26 = (fwUc (fwUc h 42 0 A5_2) 43 0 r) ∧ ((c : Int) < fwShl 1 (gg 5 0 3) - 1 ∨ (c2 : Int) < fwShl 1 (gg 5 0 3) ∨ (r 0 = 0 ∨ r 0 = 1))) → fwWP mX12_playBy (d + 6) 26 [some (aR 12 0), some (aI x), some (aI y), some (aI (mWil gg 0)), some (aI (fwShl 1 (gg 5 0 3) - 1 - (c : Int))), some (aI y26)] [] hh26 Q := by
        refine fw_up (fun c2 hc26 ih26 => ?_)
        intro y26  hh26 ey26 eh26
        subst ey26
        obtain ⟨r_26, eh26, hp26⟩ := eh26
        subst eh26
        show fwWP mX12_playBy (d + 6) 26 [some (aR 12 0), some (aI x), some (aI y), some (aI (mWil gg 0)), some (aI (fwShl 1 (gg 5 0 3) - 1 - (c : Int))), some (aI (fwShl 1 (gg 5 0 3) - 1 - (c2 : Int)))] [] (fwUc (fwUc h 42 0 A5_2) 43 0 r_26) Q
        refine w_iload dX12_playBy_26 rfl ?_
        refine w_if_lt 68 dX12_playBy_28 (by decide) (by omega) (fun c28 => ?_) (fun c28 => ?_)
        · refine w_iinc [some (aR 12 0), some (aI x), some (aI y), some (aI (mWil gg 0)), some (aI ((fwShl 1 (gg 5 0 3) - 1 - (c : Int)) + (-1))), some (aI (fwShl 1 (gg 5 0 3) - 1 - (c2 : Int)))] dX12_playBy_68 rfl rfl (by decide) ?_
          refine w_goto 15 dX12_playBy_71 (by decide) ?_
          refine w_drop [5] [some (aR 12 0), some (aI x), some (aI y), some (aI (mWil gg 0)), some (aI ((fwShl 1 (gg 5 0 3) - 1 - (c : Int)) + (-1))), none] rfl ?_
          refine ih15 (by omega) _ _ ?_ ?_
          · exact (by omega)
          · exact ⟨_, rfl, by omega⟩
        · refine w_iload dX12_playBy_31 rfl ?_
          refine w_iload dX12_playBy_33 rfl ?_
          refine w_iand dX12_playBy_35 ?_
          refine w_if_ne 62 dX12_playBy_36 (by decide) (by have := and_w (x := fwShl 1 (gg 5 0 3) - 1 - (c : Int)) (y := fwShl 1 (gg 5 0 3) - 1 - (c2 : Int)) (by omega) (by omega); omega) (fun c36 => ?_) (fun c36 => ?_)
          · refine w_iinc [some (aR 12 0), some (aI x), some (aI y), some (aI (mWil gg 0)), some (aI (fwShl 1 (gg 5 0 3) - 1 - (c : Int))), some (aI ((fwShl 1 (gg 5 0 3) - 1 - (c2 : Int)) + (-1)))] dX12_playBy_62 rfl rfl (by decide) ?_
            refine w_goto 26 dX12_playBy_65 (by decide) ?_
            refine ih26 (by omega) _ _ ?_ ?_
            · exact (by omega)
            · exact ⟨_, rfl, by rcases hp26 with q | q | q; exact Or.inl q; exact (Decidable.em ((c2 : Int) + 1 < fwShl 1 (gg 5 0 3))).elim (fun z => Or.inr (Or.inl (by omega))) (fun z => (Decidable.em ((c : Int) < fwShl 1 (gg 5 0 3) - 1)).elim Or.inl (fun z2 => absurd (by rw [show fwShl 1 (gg 5 0 3) - 1 - (c : Int) = 0 by omega, show fwShl 1 (gg 5 0 3) - 1 - (c2 : Int) = 0 by omega]; decide) c36)); exact Or.inr (Or.inr q)⟩
          · refine w_aload_n dX12_playBy_39 rfl ?_
            refine w_getr 43 0 dX12_playBy_40 fl_X12_38 rfl (by decide) ?_
            refine w_iload dX12_playBy_43 rfl ?_
            refine w_iload dX12_playBy_45 rfl ?_
            refine w_callS (d := d + 5) (S := [aR 43 0]) [aI (fwShl 1 (gg 5 0 3) - 1 - (c : Int)), aI (fwShl 1 (gg 5 0 3) - 1 - (c2 : Int))] dX12_playBy_47 ml_X12_282 ok_X12_pair st_X12_pair rfl (Nat.le_of_ble_eq_true rfl) ?_
            refine c_X12_pair (d := (d + 5)) (fwShl 1 (gg 5 0 3) - 1 - (c : Int)) (fwShl 1 (gg 5 0 3) - 1 - (c2 : Int)) ?_
            show fwWP mX12_playBy (d + 6) 50 [some (aR 12 0), some (aI x), some (aI y), some (aI (mWil gg 0)), some (aI (fwShl 1 (gg 5 0 3) - 1 - (c : Int))), some (aI (fwShl 1 (gg 5 0 3) - 1 - (c2 : Int)))] [aI (256 * (fwShl 1 (gg 5 0 3) - 1 - (c : Int)) + (fwShl 1 (gg 5 0 3) - 1 - (c2 : Int))), aR 43 0] (fwUc (fwUc h 42 0 A5_2) 43 0 r_26) Q
            refine w_aload_n dX12_playBy_50 rfl ?_
            refine w_iload dX12_playBy_51 rfl ?_
            refine w_iload dX12_playBy_53 rfl ?_
            refine w_iload_n dX12_playBy_55 rfl ?_
            refine w_iload_n dX12_playBy_56 rfl ?_
            refine w_iload_n dX12_playBy_57 rfl ?_
            refine w_callV (d := d + 5) (S := [aI (256 * (fwShl 1 (gg 5 0 3) - 1 - (c : Int)) + (fwShl 1 (gg 5 0 3) - 1 - (c2 : Int))), aR 43 0]) [aI (fwShl 1 (gg 5 0 3) - 1 - (c : Int)), aI (fwShl 1 (gg 5 0 3) - 1 - (c2 : Int)), aI x, aI y, aI (mWil gg 0)] dX12_playBy_58 ml_X12_285 ok_X12_endBy vi_X12_endBy rfl rfl (by decide) rfl (Nat.le_of_ble_eq_true rfl) ?_
            refine c_w_endBy (d := (d + 2)) (fwShl 1 (gg 5 0 3) - 1 - (c : Int)) (fwShl 1 (gg 5 0 3) - 1 - (c2 : Int)) x y (mWil gg 0) J R (by omega) (by omega) (by omega) (by omega) ?_
            intro b9 hb9
            show fwWP mX12_playBy (d + 6) 61 [some (aR 12 0), some (aI x), some (aI y), some (aI (mWil gg 0)), some (aI (fwShl 1 (gg 5 0 3) - 1 - (c : Int))), some (aI (fwShl 1 (gg 5 0 3) - 1 - (c2 : Int)))] [aI b9, aI (256 * (fwShl 1 (gg 5 0 3) - 1 - (c : Int)) + (fwShl 1 (gg 5 0 3) - 1 - (c2 : Int))), aR 43 0] (fwUc (fwUc h 42 0 A5_2) 43 0 r_26) Q
            refine w_zast dX12_playBy_61 rfl (by decide) (by omega) (by omega) (by omega) ?_
            refine w_iinc [some (aR 12 0), some (aI x), some (aI y), some (aI (mWil gg 0)), some (aI (fwShl 1 (gg 5 0 3) - 1 - (c : Int))), some (aI ((fwShl 1 (gg 5 0 3) - 1 - (c2 : Int)) + (-1)))] dX12_playBy_62 rfl rfl (by decide) ?_
            refine w_goto 26 dX12_playBy_65 (by decide) ?_
            refine ih26 (by omega) _ _ ?_ ?_
            · exact (by omega)
            · exact ⟨fwFu r_26 (256 * (fwShl 1 (gg 5 0 3) - 1 - (c : Int)) + (fwShl 1 (gg 5 0 3) - 1 - (c2 : Int))).toNat b9, by rw [fwUp_uc], by rcases hp26 with q | q | q; exact Or.inl q; exact (Decidable.em ((c2 : Int) + 1 < fwShl 1 (gg 5 0 3))).elim (fun z => Or.inr (Or.inl (by omega))) (fun z => (Decidable.em ((c : Int) < fwShl 1 (gg 5 0 3) - 1)).elim Or.inl (fun z2 => Or.inr (Or.inr (by unfold fwFu; rw [if_pos (by omega)]; omega)))); exact Or.inr (Or.inr (by unfold fwFu; split <;> omega))⟩
      refine lp26 0 (Nat.zero_le _) _ _ ?_ ?_
      · exact (by omega)
      · exact ⟨_, rfl, by omega⟩
  refine lp15 0 (Nat.zero_le _) _ _ ?_ ?_
  · exact (by omega)
  · exact ⟨h 43 0, (fwUc_self _ 43 0).symm, by omega⟩
theorem scr_36 {h g : fwH} (a : scr h g) : g 36 0 = h 36 0 := a.1 36 0 rfl (by decide)
set_option maxRecDepth 100000 in
set_option maxHeartbeats 4000000 in
theorem c_w_play {d : Nat} {h gg : fwH} {Q : Option fwV → fwH → Prop} (x : Int) (y : Int) (J : cOk gg) (R : jF gg h) (K : jA gg h) (hsh : sc h) (hx : -2147483648 ≤ x ∧ x < 2147483648) (hy : -2147483648 ≤ y ∧ y < 2147483648) (k : ∀ v g, scr h g → Q (some (aI v)) g) : fwCt mX12_play (d + 7) [aR 12 0, aI x, aI y] h Q := by
  refine fwCt_of [some (aR 12 0), some (aI x), some (aI y)] rfl rfl rfl ?_
  obtain ⟨hl, hP, hG, hM0, htd, hut, hlw, hhc, ha, hs, hT, hsc⟩ := id J
  have hb17 : hB (gg 17 0) := fun c hc => by have := hM0 c hc; omega
  obtain ⟨⟨g1, g2⟩, ⟨g3, g4⟩, ⟨g5, g6⟩, g7, -⟩ := id hG
  have h17_99 : ∀ c : Nat, (c : Int) < gg 4 0 1 → gg 17 0 c ≤ 99 := fun c hc => (hM0 c (by omega)).2
  have hpz := hP.1
  have hrs1 := R.2.2.2.2.2.2.2.2.2.2.2
  refine w_aload_n dX12_play_0 rfl ?_
  refine w_callV (d := d + 6) (S := []) [] dX12_play_1 ml_X12_73 ok_X12_isMount vi_X12_isMount rfl rfl (by decide) rfl (Nat.le_of_ble_eq_true rfl) ?_
  refine c_X12_isMount (d := (d + 6)) J R ?_
  show fwWP mX12_play (d + 7) 4 [some (aR 12 0), some (aI x), some (aI y)] [aI (fwB (0 < gg 3 0 6))] h Q
  refine w_ifB_eq 46 dX12_play_4 (by decide) (fun c4 => ?_) (fun c4 => ?_)
  · refine w_bipush dX12_play_46 rfl ?_
    exact w_iret dX12_play_48 rfl (k _ _ (scr_rf hsh))
  · refine w_iload_n dX12_play_7 rfl ?_
    refine w_i2l dX12_play_8 (by omega) ?_
    refine w_lconst (z := 0) dX12_play_9 rfl ?_
    refine w_ldc2 (n := 4) dX12_play_10 cs_X12_289 ?_
    refine w_callS (d := d + 6) (S := []) [aJ x, aJ 0, aJ 4] dX12_play_13 ml_X12_65 ok_X12_in st_X12_in rfl (Nat.le_of_ble_eq_true rfl) ?_
    refine c_X12_in (d := (d + 6)) x 0 4 (by omega) (by omega) (by omega) ?_
    show fwWP mX12_play (d + 7) 16 [some (aR 12 0), some (aI x), some (aI y)] [aI (fwB (0 ≤ x ∧ x ≤ 4))] h Q
    refine w_ifB_eq 46 dX12_play_16 (by decide) (fun c16 => ?_) (fun c16 => ?_)
    · refine w_bipush dX12_play_46 rfl ?_
      exact w_iret dX12_play_48 rfl (k _ _ (scr_rf hsh))
    · refine w_iload_n dX12_play_19 rfl ?_
      refine w_i2l dX12_play_20 (by omega) ?_
      refine w_lconst (z := 0) dX12_play_21 rfl ?_
      refine w_lconst (z := 1) dX12_play_22 rfl ?_
      refine w_callS (d := d + 6) (S := []) [aJ y, aJ 0, aJ 1] dX12_play_23 ml_X12_65 ok_X12_in st_X12_in rfl (Nat.le_of_ble_eq_true rfl) ?_
      refine c_X12_in (d := (d + 6)) y 0 1 (by omega) (by omega) (by omega) ?_
      show fwWP mX12_play (d + 7) 26 [some (aR 12 0), some (aI x), some (aI y)] [aI (fwB (0 ≤ y ∧ y ≤ 1))] h Q
      refine w_ifB_eq 46 dX12_play_26 (by decide) (fun c26 => ?_) (fun c26 => ?_)
      · refine w_bipush dX12_play_46 rfl ?_
        exact w_iret dX12_play_48 rfl (k _ _ (scr_rf hsh))
      · refine w_aload_n dX12_play_29 rfl ?_
        refine w_iload_n dX12_play_30 rfl ?_
        refine w_iload_n dX12_play_31 rfl ?_
        refine w_callV (d := d + 6) (S := []) [aI x, aI y] dX12_play_32 ml_X12_291 ok_X12_playBy vi_X12_playBy rfl rfl (by decide) rfl (Nat.le_of_ble_eq_true rfl) ?_
        refine c_w_playBy (d := d) x y J R K hsh (by omega) (by omega) ?_
        intro v4 g4 hv4 sg4
        show fwWP mX12_play (d + 7) 35 [some (aR 12 0), some (aI x), some (aI y)] [aI v4] g4 Q
        have rr4 := scr_36 sg4
        refine w_if_eq 42 dX12_play_35 (by decide) (by omega) (fun c35 => ?_) (fun c35 => ?_)
        · refine w_iconst dX12_play_42 ?_
          refine w_goto 48 dX12_play_43 (by decide) ?_
          exact w_iret dX12_play_48 rfl (k _ _ (sg4))
        · refine w_iconst dX12_play_38 ?_
          refine w_goto 48 dX12_play_39 (by decide) ?_
          exact w_iret dX12_play_48 rfl (k _ _ (sg4))
set_option maxRecDepth 100000 in
set_option maxHeartbeats 4000000 in
theorem c_w_moves {d : Nat} {h gg : fwH} {Q : Option fwV → fwH → Prop} (x : Int) (y : Int) (J : cOk gg) (R : jF gg h) (K : jA gg h) (hsh : sc h) (hx : -2147483648 ≤ x ∧ x < 2147483648) (hy : -2147483648 ≤ y ∧ y < 2147483648) (k : ∀ v g, scr h g → Q (some (aI v)) g) : fwCt mX12_moves (d + 7) [aR 12 0, aI x, aI y] h Q := by
  refine fwCt_of [some (aR 12 0), some (aI x), some (aI y), none, none] rfl rfl rfl ?_
  obtain ⟨hl, hP, hG, hM0, htd, hut, hlw, hhc, ha, hs, hT, hsc⟩ := id J
  have hb17 : hB (gg 17 0) := fun c hc => by have := hM0 c hc; omega
  obtain ⟨⟨g1, g2⟩, ⟨g3, g4⟩, ⟨g5, g6⟩, g7, -⟩ := id hG
  have h17_99 : ∀ c : Nat, (c : Int) < gg 4 0 1 → gg 17 0 c ≤ 99 := fun c hc => (hM0 c (by omega)).2
  have hpz := hP.1
  have hrs1 := R.2.2.2.2.2.2.2.2.2.2.2
  refine w_aload_n dX12_moves_0 rfl ?_
  refine w_callV (d := d + 6) (S := []) [] dX12_moves_1 ml_X12_73 ok_X12_isMount vi_X12_isMount rfl rfl (by decide) rfl (Nat.le_of_ble_eq_true rfl) ?_
  refine c_X12_isMount (d := (d + 6)) J R ?_
  show fwWP mX12_moves (d + 7) 4 [some (aR 12 0), some (aI x), some (aI y), none, none] [aI (fwB (0 < gg 3 0 6))] h Q
  refine w_ifB_eq 29 dX12_moves_4 (by decide) (fun c4 => ?_) (fun c4 => ?_)
  · refine w_bipush dX12_moves_29 rfl ?_
    exact w_iret dX12_moves_31 rfl (k _ _ (scr_rf hsh))
  · refine w_iload_n dX12_moves_7 rfl ?_
    refine w_i2l dX12_moves_8 (by omega) ?_
    refine w_lconst (z := 0) dX12_moves_9 rfl ?_
    refine w_ldc2 (n := 4) dX12_moves_10 cs_X12_289 ?_
    refine w_callS (d := d + 6) (S := []) [aJ x, aJ 0, aJ 4] dX12_moves_13 ml_X12_65 ok_X12_in st_X12_in rfl (Nat.le_of_ble_eq_true rfl) ?_
    refine c_X12_in (d := (d + 6)) x 0 4 (by omega) (by omega) (by omega) ?_
    show fwWP mX12_moves (d + 7) 16 [some (aR 12 0), some (aI x), some (aI y), none, none] [aI (fwB (0 ≤ x ∧ x ≤ 4))] h Q
    refine w_ifB_eq 29 dX12_moves_16 (by decide) (fun c16 => ?_) (fun c16 => ?_)
    · refine w_bipush dX12_moves_29 rfl ?_
      exact w_iret dX12_moves_31 rfl (k _ _ (scr_rf hsh))
    · refine w_iload_n dX12_moves_19 rfl ?_
      refine w_i2l dX12_moves_20 (by omega) ?_
      refine w_lconst (z := 0) dX12_moves_21 rfl ?_
      refine w_lconst (z := 1) dX12_moves_22 rfl ?_
      refine w_callS (d := d + 6) (S := []) [aJ y, aJ 0, aJ 1] dX12_moves_23 ml_X12_65 ok_X12_in st_X12_in rfl (Nat.le_of_ble_eq_true rfl) ?_
      refine c_X12_in (d := (d + 6)) y 0 1 (by omega) (by omega) (by omega) ?_
      show fwWP mX12_moves (d + 7) 26 [some (aR 12 0), some (aI x), some (aI y), none, none] [aI (fwB (0 ≤ y ∧ y ≤ 1))] h Q
      refine w_ifB_ne 32 dX12_moves_26 (by decide) (fun c26 => ?_) (fun c26 => ?_)
      · refine w_iload_n dX12_moves_32 rfl ?_
        refine w_if_eq 46 dX12_moves_33 (by decide) (by omega) (fun c33 => ?_) (fun c33 => ?_)
        · refine w_iconst dX12_moves_46 ?_
          exact w_iret dX12_moves_47 rfl (k _ _ (scr_rf hsh))
        · refine w_aload_n dX12_moves_36 rfl ?_
          refine w_getr 36 0 dX12_moves_37 fl_X12_9 rfl (by decide) ?_
          refine w_bipush dX12_moves_40 rfl ?_
          refine w_ialdE (v := gg 5 0 3) dX12_moves_42 rfl (by decide) (by omega) (by omega) R.2.2.2.2.2.2.1 ?_
          refine w_if_ne 48 dX12_moves_43 (by decide) (by omega) (fun c43 => ?_) (fun c43 => ?_)
          · refine w_aload_n dX12_moves_48 rfl ?_
            refine w_iload_n dX12_moves_49 rfl ?_
            refine w_iload_n dX12_moves_50 rfl ?_
            refine w_callV (d := d + 6) (S := []) [aI x, aI y] dX12_moves_51 ml_X12_291 ok_X12_playBy vi_X12_playBy rfl rfl (by decide) rfl (Nat.le_of_ble_eq_true rfl) ?_
            refine c_w_playBy (d := d) x y J R K hsh (by omega) (by omega) ?_
            intro v6 g6 hv6 sg6
            show fwWP mX12_moves (d + 7) 54 [some (aR 12 0), some (aI x), some (aI y), none, none] [aI v6] g6 Q
            have rr6 := scr_36 sg6
            refine w_pop dX12_moves_54 rfl ?_
            refine w_iconst dX12_moves_55 ?_
            refine w_iload_n dX12_moves_56 rfl ?_
            refine w_callS (d := d + 6) (S := []) [aI 0, aI y] dX12_moves_57 ml_X12_279 ok_X12_isWinners st_X12_isWinners rfl (Nat.le_of_ble_eq_true rfl) ?_
            refine c_w_isWinners (d := (d + 6)) 0 y ?_
            intro b7 hb7
            show fwWP mX12_moves (d + 7) 60 [some (aR 12 0), some (aI x), some (aI y), none, none] [aI b7] g6 Q
            refine w_istore_n [some (aR 12 0), some (aI x), some (aI y), some (aI b7), none] dX12_moves_60 rfl (by decide) ?_
            refine w_iconst dX12_moves_61 ?_
            refine w_istore [some (aR 12 0), some (aI x), some (aI y), some (aI b7), some (aI 0)] dX12_moves_62 rfl (by decide) ?_
            have lp64 : ∀ c : Nat, c ≤ (gg 5 0 3).toNat → ∀ (y64  : Int), y64 = (c : Int) → fwWP mX12_moves (d + 7) 64 [some (aR 12 0), some (aI x), some (aI y), some (aI b7), some (aI y64)] [] g6 Q := by
              refine fw_up (fun c hc64 ih64 => ?_)
              intro y64  ey64
              subst ey64
              show fwWP mX12_moves (d + 7) 64 [some (aR 12 0), some (aI x), some (aI y), some (aI b7), some (aI (c : Int))] [] g6 Q
              refine w_iload dX12_moves_64 rfl ?_
              refine w_aload_n dX12_moves_66 rfl ?_
              refine w_getr 36 0 dX12_moves_67 fl_X12_9 rfl (by decide) ?_
              refine w_bipush dX12_moves_70 rfl ?_
              refine w_ialdE (v := gg 5 0 3) dX12_moves_72 rfl (by decide) (by omega) (by omega) (by rw [rr6]; exact R.2.2.2.2.2.2.1) ?_
              refine w_icmp_ge 122 dX12_moves_73 (by decide) (by omega) (by omega) (fun c73 => ?_) (fun c73 => ?_)
              · refine w_iconst dX12_moves_122 ?_
                exact w_iret dX12_moves_123 rfl (k _ _ (sg6))
              · have hf8 := shl_8 (x := (c : Int)) (by omega)
                have hf7 : fwShl 1 (c : Int) < 256 := shl_c8 (by omega)
                refine w_iload_n dX12_moves_76 rfl ?_
                refine w_ifF_eq 96 dX12_moves_77 (by decide) ?_ ?_
                · refine w_aload_n dX12_moves_96 rfl ?_
                  refine w_getr 43 0 dX12_moves_97 fl_X12_38 rfl (by decide) ?_
                  refine w_iconst dX12_moves_100 ?_
                  refine w_iconst dX12_moves_101 ?_
                  refine w_iload dX12_moves_102 rfl ?_
                  refine w_ishl dX12_moves_104 ?_
                  refine w_callS (d := d + 6) (S := [aR 43 0]) [aI 0, aI (fwShl 1 (c : Int))] dX12_moves_105 ml_X12_282 ok_X12_pair st_X12_pair rfl (Nat.le_of_ble_eq_true rfl) ?_
                  refine c_X12_pair (d := (d + 6)) 0 (fwShl 1 (c : Int)) ?_
                  show fwWP mX12_moves (d + 7) 108 [some (aR 12 0), some (aI x), some (aI y), some (aI b7), some (aI (c : Int))] [aI (256 * 0 + (fwShl 1 (c : Int))), aR 43 0] g6 Q
                  refine w_zald dX12_moves_108 rfl (by decide) (by omega) (by omega) ?_
                  refine w_iload_n dX12_moves_109 rfl ?_
                  refine w_icmpF_ne 116 dX12_moves_110 (by decide) ?_ ?_
                  · refine w_iinc [some (aR 12 0), some (aI x), some (aI y), some (aI b7), some (aI ((c : Int) + 1))] dX12_moves_116 rfl rfl (by decide) ?_
                    refine w_goto 64 dX12_moves_119 (by decide) ?_
                    refine ih64 (by omega) _ ?_
                    · exact (by omega)
                  · refine w_iload dX12_moves_113 rfl ?_
                    exact w_iret dX12_moves_115 rfl (k _ _ (sg6))
                · refine w_aload_n dX12_moves_80 rfl ?_
                  refine w_getr 43 0 dX12_moves_81 fl_X12_38 rfl (by decide) ?_
                  refine w_iconst dX12_moves_84 ?_
                  refine w_iload dX12_moves_85 rfl ?_
                  refine w_ishl dX12_moves_87 ?_
                  refine w_iconst dX12_moves_88 ?_
                  refine w_callS (d := d + 6) (S := [aR 43 0]) [aI (fwShl 1 (c : Int)), aI 0] dX12_moves_89 ml_X12_282 ok_X12_pair st_X12_pair rfl (Nat.le_of_ble_eq_true rfl) ?_
                  refine c_X12_pair (d := (d + 6)) (fwShl 1 (c : Int)) 0 ?_
                  show fwWP mX12_moves (d + 7) 92 [some (aR 12 0), some (aI x), some (aI y), some (aI b7), some (aI (c : Int))] [aI (256 * (fwShl 1 (c : Int)) + 0), aR 43 0] g6 Q
                  refine w_zald dX12_moves_92 rfl (by decide) (by omega) (by omega) ?_
                  refine w_goto 109 dX12_moves_93 (by decide) ?_
                  refine w_iload_n dX12_moves_109 rfl ?_
                  refine w_icmpF_ne 116 dX12_moves_110 (by decide) ?_ ?_
                  · refine w_iinc [some (aR 12 0), some (aI x), some (aI y), some (aI b7), some (aI ((c : Int) + 1))] dX12_moves_116 rfl rfl (by decide) ?_
                    refine w_goto 64 dX12_moves_119 (by decide) ?_
                    refine ih64 (by omega) _ ?_
                    · exact (by omega)
                  · refine w_iload dX12_moves_113 rfl ?_
                    exact w_iret dX12_moves_115 rfl (k _ _ (sg6))
            refine lp64 0 (Nat.zero_le _) _ ?_
            · exact (by omega)
          · refine w_iconst dX12_moves_46 ?_
            exact w_iret dX12_moves_47 rfl (k _ _ (scr_rf hsh))
      · refine w_bipush dX12_moves_29 rfl ?_
        exact w_iret dX12_moves_31 rfl (k _ _ (scr_rf hsh))

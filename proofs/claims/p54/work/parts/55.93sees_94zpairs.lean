section
theorem c_bits21 {d : Nat} {h : fwH} {Q : Option fwV → fwH → Prop} (x : Int) (hx : 0 ≤ x ∧ x < 2097152) (k : Q (some (aI (fwPop x))) h) : fwCt mX12_bits d [aI x] h Q := by
  refine c_X12_bits x ?_
  rw [mBt_pop21 hx]
  exact k
theorem mDk_n0 {h : fwH} {p : Int} {x k s : Nat} (b : ¬ fwAnd (fwShr p k) 1 = 1) : mDk h p x (k + 1) s = mDk h p x k s := by
  rw [mDk, if_neg b]
theorem mDk_st {h : fwH} {p : Int} {x k s : Nat} {hr : Int} (hn : h 4 0 1 ≤ 10) (hM : ∀ c : Nat, c < 10 → 0 ≤ h 17 0 c ∧ h 17 0 c ≤ 900) (hk : k ≤ 50) (hs : 1 ≤ s ∧ s ≤ 18) (hhr : hr = if (s : Int) ≤ 9 then (s : Int) else 9 - (s : Int)) (b : fwAnd (fwShr p k) 1 = 1) : mDk h p x (k + 1) s = mDk h p x k s + (if mShadeB (h 4 0 1) (mOH h k) (x : Int) hr = true then 1 else 0) := by
  have r1 := mSh_rng (n := h 4 0 1) (H := mOH h k) (x := (x : Int)) (st := -1) hn (mOH_rng hM hk hn)
  have r2 := mSh_rng (n := h 4 0 1) (H := mOH h k) (x := (x : Int)) (st := 1) hn (mOH_rng hM hk hn)
  rw [mDk, if_pos b]
  unfold mAdd mShadeB
  by_cases c : (s : Int) ≤ 9
  · rw [if_pos c] at hhr
    rw [if_neg (show ¬ (9 < s ∧ s ≤ 9 + (mSh (h 4 0 1) (mOH h k) (x : Int) 1).toNat) by omega), if_pos (show 0 < hr by omega)]
    by_cases e : hr ≤ mSh (h 4 0 1) (mOH h k) (x : Int) (-1)
    · rw [if_pos (by omega), decide_eq_true e, if_pos rfl]
    · rw [if_neg (by omega), decide_eq_false e, if_neg (by decide)]
      omega
  · rw [if_neg c] at hhr
    rw [if_neg (show ¬ (0 < s ∧ s ≤ 0 + (mSh (h 4 0 1) (mOH h k) (x : Int) (-1)).toNat) by omega), if_neg (show ¬ 0 < hr by omega)]
    by_cases e : -hr ≤ mSh (h 4 0 1) (mOH h k) (x : Int) 1
    · rw [if_pos (by omega), decide_eq_true e, if_pos rfl]
    · rw [if_neg (by omega), decide_eq_false e, if_neg (by decide)]
      omega
theorem mAsk_y {D : Nat → Int} {a : Int} {j : Nat} {v : Int} (e : v = max (D (j + 1)) (a - D (j + 1))) (c : v < (mAsk D a j).2) : mAsk D a (j + 1) = ((j : Int) + 1, v) := by
  rw [mAsk, if_pos (by rw [← e]; exact c), e]
theorem mAsk_n {D : Nat → Int} {a : Int} {j : Nat} {v : Int} (e : v = max (D (j + 1)) (a - D (j + 1))) (c : ¬ v < (mAsk D a j).2) : mAsk D a (j + 1) = mAsk D a j := by
  rw [mAsk, if_neg (by rw [← e]; exact c)]
set_option maxRecDepth 100000 in
set_option maxHeartbeats 4000000 in
theorem c_s_askOf {d : Nat} {h gg : fwH} {Q : Option fwV → fwH → Prop} (s x w21 n18 : Nat) (hw21 : w21 = 21) (hn18 : n18 = 18) (J : cOk gg) (R : jF gg h) (S : jS gg h) (hs : sOk gg) (hSl : oSl gg s) (hH : hiR (gg 4 0 1) (h 42 0) (gg 17 0)) (hx : (x : Int) < gg 4 0 1) (k : ∀ A r, hiR (gg 4 0 1) A (gg 17 0) → (r 5 = h 12 0 5 ∧ r 12 = h 12 0 12 ∧ r 13 = h 12 0 13) → r 21 = (mAsk (mDk gg (mPos gg s w21) x w21) (fwPop (mPos gg s w21)) n18).2 → Q (some (aI (mAsk (mDk gg (mPos gg s w21) x w21) (fwPop (mPos gg s w21)) n18).1)) (fwUc (fwUc h 42 0 A) 12 0 r)) : fwCt mX12_askOf (d + 5) [aR 12 0, aI (s : Int), aI (x : Int)] h Q := by
  refine fwCt_of [some (aR 12 0), some (aI (s : Int)), some (aI (x : Int)), none, none, none, none, none] rfl rfl rfl ?_
  obtain ⟨hs4, hs5, hs6, hs7⟩ := id hSl
  obtain ⟨hl, hP, hG, hM0, htd, hut, hlw, hhc, ha, hs9, hT, hsc⟩ := id J
  have hn10 : gg 4 0 1 ≤ 10 := hG.1.2
  have hp21 : 0 ≤ (mPos gg s w21) ∧ (mPos gg s w21) < 2097152 := by subst hw21; exact mBits_21 _
  refine w_aload_n dX12_askOf_0 rfl ?_
  refine w_iload_n dX12_askOf_1 rfl ?_
  refine w_iconst dX12_askOf_2 ?_
  refine w_callV (d := d + 4) (S := []) [aI (s : Int), aI (-1)] dX12_askOf_3 ml_X12_371 ok_X12_oldBy vi_X12_oldBy rfl rfl (by decide) rfl (Nat.le_of_ble_eq_true rfl) ?_
  refine c_s_oldN (d := d) s w21 hw21 J R S hs hSl hH ?_
  intro A3_1 hA3_1
  show fwWP mX12_askOf (d + 5) 6 [some (aR 12 0), some (aI (s : Int)), some (aI (x : Int)), none, none, none, none, none] [aI (mPos gg s w21)] (fwUc h 42 0 A3_1) Q
  refine w_istore_n [some (aR 12 0), some (aI (s : Int)), some (aI (x : Int)), some (aI (mPos gg s w21)), none, none, none, none] dX12_askOf_6 rfl (by decide) ?_
  refine w_aload_n dX12_askOf_7 rfl ?_
  refine w_iload_n dX12_askOf_8 rfl ?_
  refine w_callS (d := d + 4) (S := [aR 12 0]) [aI (mPos gg s w21)] dX12_askOf_9 ml_X12_229 ok_X12_bits st_X12_bits rfl (Nat.le_of_ble_eq_true rfl) ?_
  refine c_bits21 (d := (d + 4)) (mPos gg s w21) hp21 ?_
  show fwWP mX12_askOf (d + 5) 12 [some (aR 12 0), some (aI (s : Int)), some (aI (x : Int)), some (aI (mPos gg s w21)), none, none, none, none] [aI (fwPop (mPos gg s w21)), aR 12 0] (fwUc h 42 0 A3_1) Q
  have hbb2 := fwPop_rng (mPos gg s w21)
  refine w_puti dX12_askOf_12 fl_X12_374 fp_12_21 rfl (by decide) ?_
  have e3 : fwUp (fwUc h 42 0 A3_1) 12 0 21 (fwPop (mPos gg s w21)) = (fwUc (fwUc h 42 0 A3_1) 12 0 (fwFu (h 12 0) 21 (fwPop (mPos gg s w21)))) := fwUp_fu _ _ _ _ _
  rw [e3]
  refine w_iconst dX12_askOf_15 ?_
  refine w_istore [some (aR 12 0), some (aI (s : Int)), some (aI (x : Int)), some (aI (mPos gg s w21)), some (aI 0), none, none, none] dX12_askOf_16 rfl (by decide) ?_
  refine w_iconst dX12_askOf_18 ?_
  refine w_istore [some (aR 12 0), some (aI (s : Int)), some (aI (x : Int)), some (aI (mPos gg s w21)), some (aI 0), some (aI 1), none, none] dX12_askOf_19 rfl (by decide) ?_
  have lp21 : ∀ c : Nat, c ≤ n18 → ∀ (be y21 : Int) (A r : Nat → Int), y21 = 1 + (c : Int) → be = (mAsk (mDk gg (mPos gg s w21) x w21) (fwPop (mPos gg s w21)) c).1 → r 21 = (mAsk (mDk gg (mPos gg s w21) x w21) (fwPop (mPos gg s w21)) c).2 → hiR (gg 4 0 1) A (gg 17 0) → (r 5 = h 12 0 5 ∧ r 12 = h 12 0 12 ∧ r 13 = h 12 0 13) → fwWP mX12_askOf (d + 5) 21 [some (aR 12 0), some (aI (s : Int)), some (aI (x : Int)), some (aI (mPos gg s w21)), some (aI be), some (aI y21), none, none] [] (fwUc (fwUc h 42 0 A) 12 0 r) Q := by
    refine fw_up (fun c hc21 ih21 => ?_)
    intro be y21 A r ey21 ebe er21 hA21 hr21
    subst ey21
    subst ebe
    have hak := mAsk_rng (D := (mDk gg (mPos gg s w21) x w21)) (a := (fwPop (mPos gg s w21))) (fun s9 => by have := mDk_rng gg (mPos gg s w21) x s9 w21; omega) (fwPop_rng _) c
    show fwWP mX12_askOf (d + 5) 21 [some (aR 12 0), some (aI (s : Int)), some (aI (x : Int)), some (aI (mPos gg s w21)), some (aI ((mAsk (mDk gg (mPos gg s w21) x w21) (fwPop (mPos gg s w21)) c).1)), some (aI (1 + (c : Int))), none, none] [] (fwUc (fwUc h 42 0 A) 12 0 r) Q
    refine w_iload dX12_askOf_21 rfl ?_
    refine w_bipush dX12_askOf_23 rfl ?_
    refine w_icmp_gt 136 dX12_askOf_25 (by decide) (by omega) (by omega) (fun c25 => ?_) (fun c25 => ?_)
    · refine w_iload dX12_askOf_136 rfl ?_
      have ec9 : n18 = c := by omega
      subst ec9
      exact w_iret dX12_askOf_138 rfl (k _ _ hA21 hr21 er21)
    · refine w_iconst dX12_askOf_28 ?_
      refine w_istore [some (aR 12 0), some (aI (s : Int)), some (aI (x : Int)), some (aI (mPos gg s w21)), some (aI ((mAsk (mDk gg (mPos gg s w21) x w21) (fwPop (mPos gg s w21)) c).1)), some (aI (1 + (c : Int))), some (aI 0), none] dX12_askOf_29 rfl (by decide) ?_
      refine w_iconst dX12_askOf_31 ?_
      refine w_istore [some (aR 12 0), some (aI (s : Int)), some (aI (x : Int)), some (aI (mPos gg s w21)), some (aI ((mAsk (mDk gg (mPos gg s w21) x w21) (fwPop (mPos gg s w21)) c).1)), some (aI (1 + (c : Int))), some (aI 0), some (aI 0)] dX12_askOf_32 rfl (by decide) ?_
      have lp34 : ∀ c2 : Nat, c2 ≤ w21 → ∀ (dk y34 : Int) (A2 : Nat → Int), y34 = (c2 : Int) → dk = mDk gg (mPos gg s w21) x c2 (c + 1) → hiR (gg 4 0 1) A2 (gg 17 0) → fwWP mX12_askOf (d + 5) 34 [some (aR 12 0), some (aI (s : Int)), some (aI (x : Int)), some (aI (mPos gg s w21)), some (aI ((mAsk (mDk gg (mPos gg s w21) x w21) (fwPop (mPos gg s w21)) c).1)), some (aI (1 + (c : Int))), some (aI dk), some (aI y34)] [] (fwUc (fwUc h 42 0 A2) 12 0 r) Q := by
        refine fw_up (fun c2 hc34 ih34 => ?_)
        intro dk y34 A2 ey34 edk hA34
        subst ey34
        subst edk
        have hdk := mDk_rng gg (mPos gg s w21) x (c + 1) c2
        show fwWP mX12_askOf (d + 5) 34 [some (aR 12 0), some (aI (s : Int)), some (aI (x : Int)), some (aI (mPos gg s w21)), some (aI ((mAsk (mDk gg (mPos gg s w21) x w21) (fwPop (mPos gg s w21)) c).1)), some (aI (1 + (c : Int))), some (aI (mDk gg (mPos gg s w21) x c2 (c + 1))), some (aI (c2 : Int))] [] (fwUc (fwUc h 42 0 A2) 12 0 r) Q
        refine w_iload dX12_askOf_34 rfl ?_
        refine w_bipush dX12_askOf_36 rfl ?_
        refine w_icmp_gt 94 dX12_askOf_38 (by decide) (by omega) (by omega) (fun c38 => ?_) (fun c38 => ?_)
        · have ec34 : w21 = c2 := by omega
          subst ec34
          refine w_iload dX12_askOf_94 rfl ?_
          refine w_iload_n dX12_askOf_96 rfl ?_
          refine w_callS (d := d + 4) (S := [aI (mDk gg (mPos gg s w21) x w21 (c + 1))]) [aI (mPos gg s w21)] dX12_askOf_97 ml_X12_229 ok_X12_bits st_X12_bits rfl (Nat.le_of_ble_eq_true rfl) ?_
          refine c_bits21 (d := (d + 4)) (mPos gg s w21) hp21 ?_
          show fwWP mX12_askOf (d + 5) 100 [some (aR 12 0), some (aI (s : Int)), some (aI (x : Int)), some (aI (mPos gg s w21)), some (aI ((mAsk (mDk gg (mPos gg s w21) x w21) (fwPop (mPos gg s w21)) c).1)), some (aI (1 + (c : Int))), some (aI (mDk gg (mPos gg s w21) x w21 (c + 1))), some (aI ((w21 : Nat) : Int))] [aI (fwPop (mPos gg s w21)), aI (mDk gg (mPos gg s w21) x w21 (c + 1))] (fwUc (fwUc h 42 0 A2) 12 0 r) Q
          have hbb6 := fwPop_rng (mPos gg s w21)
          refine w_iload dX12_askOf_100 rfl ?_
          refine w_isub dX12_askOf_102 ?_
          refine w_max (d := d + 4) (S := []) dX12_askOf_103 ml_X12_317 (by omega) (by omega) (Nat.le_of_ble_eq_true rfl) ?_
          refine w_istore [some (aR 12 0), some (aI (s : Int)), some (aI (x : Int)), some (aI (mPos gg s w21)), some (aI ((mAsk (mDk gg (mPos gg s w21) x w21) (fwPop (mPos gg s w21)) c).1)), some (aI (1 + (c : Int))), some (aI (mDk gg (mPos gg s w21) x w21 (c + 1))), some (aI (max (mDk gg (mPos gg s w21) x w21 (c + 1)) ((fwPop (mPos gg s w21)) - (mDk gg (mPos gg s w21) x w21 (c + 1)))))] dX12_askOf_106 rfl (by decide) ?_
          refine w_iload dX12_askOf_108 rfl ?_
          refine w_aload_n dX12_askOf_110 rfl ?_
          refine w_getiE (v := (mAsk (mDk gg (mPos gg s w21) x w21) (fwPop (mPos gg s w21)) c).2) dX12_askOf_111 fl_X12_374 rfl (by decide) er21 ?_
          refine w_icmp_lt 120 dX12_askOf_114 (by decide) (by omega) (by omega) (fun c114 => ?_) (fun c114 => ?_)
          · refine w_aload_n dX12_askOf_120 rfl ?_
            refine w_iload dX12_askOf_121 rfl ?_
            refine w_puti dX12_askOf_123 fl_X12_374 fp_12_21 rfl (by decide) ?_
            rw [fwUp_uc]
            refine w_iload dX12_askOf_126 rfl ?_
            refine w_istore [some (aR 12 0), some (aI (s : Int)), some (aI (x : Int)), some (aI (mPos gg s w21)), some (aI (1 + (c : Int))), some (aI (1 + (c : Int))), some (aI (mDk gg (mPos gg s w21) x w21 (c + 1))), some (aI (max (mDk gg (mPos gg s w21) x w21 (c + 1)) ((fwPop (mPos gg s w21)) - (mDk gg (mPos gg s w21) x w21 (c + 1)))))] dX12_askOf_128 rfl (by decide) ?_
            refine w_iinc [some (aR 12 0), some (aI (s : Int)), some (aI (x : Int)), some (aI (mPos gg s w21)), some (aI (1 + (c : Int))), some (aI ((1 + (c : Int)) + 1)), some (aI (mDk gg (mPos gg s w21) x w21 (c + 1))), some (aI (max (mDk gg (mPos gg s w21) x w21 (c + 1)) ((fwPop (mPos gg s w21)) - (mDk gg (mPos gg s w21) x w21 (c + 1)))))] dX12_askOf_130 rfl rfl (by decide) ?_
            refine w_goto 21 dX12_askOf_133 (by decide) ?_
            refine w_drop [6, 7] [some (aR 12 0), some (aI (s : Int)), some (aI (x : Int)), some (aI (mPos gg s w21)), some (aI (1 + (c : Int))), some (aI ((1 + (c : Int)) + 1)), none, none] rfl ?_
            exact ih21 (by omega) _ _ _ _ (by omega) (by rw [mAsk_y (v := max (mDk gg (mPos gg s w21) x w21 (c + 1)) (fwPop (mPos gg s w21) - mDk gg (mPos gg s w21) x w21 (c + 1))) rfl (by omega)]; omega) (by rw [mAsk_y (v := max (mDk gg (mPos gg s w21) x w21 (c + 1)) (fwPop (mPos gg s w21) - mDk gg (mPos gg s w21) x w21 (c + 1))) rfl (by omega)]; exact if_pos rfl) hA34 hr21
          · refine w_goto 130 dX12_askOf_117 (by decide) ?_
            refine w_iinc [some (aR 12 0), some (aI (s : Int)), some (aI (x : Int)), some (aI (mPos gg s w21)), some (aI ((mAsk (mDk gg (mPos gg s w21) x w21) (fwPop (mPos gg s w21)) c).1)), some (aI ((1 + (c : Int)) + 1)), some (aI (mDk gg (mPos gg s w21) x w21 (c + 1))), some (aI (max (mDk gg (mPos gg s w21) x w21 (c + 1)) ((fwPop (mPos gg s w21)) - (mDk gg (mPos gg s w21) x w21 (c + 1)))))] dX12_askOf_130 rfl rfl (by decide) ?_
            refine w_goto 21 dX12_askOf_133 (by decide) ?_
            refine w_drop [6, 7] [some (aR 12 0), some (aI (s : Int)), some (aI (x : Int)), some (aI (mPos gg s w21)), some (aI ((mAsk (mDk gg (mPos gg s w21) x w21) (fwPop (mPos gg s w21)) c).1)), some (aI ((1 + (c : Int)) + 1)), none, none] rfl ?_
            exact ih21 (by omega) _ _ _ _ (by omega) (by rw [mAsk_n (v := max (mDk gg (mPos gg s w21) x w21 (c + 1)) (fwPop (mPos gg s w21) - mDk gg (mPos gg s w21) x w21 (c + 1))) rfl (by omega)]) (by rw [mAsk_n (v := max (mDk gg (mPos gg s w21) x w21 (c + 1)) (fwPop (mPos gg s w21) - mDk gg (mPos gg s w21) x w21 (c + 1))) rfl (by omega)]; exact er21) hA34 hr21
        · refine w_iload dX12_askOf_41 rfl ?_
          refine w_iload_n dX12_askOf_43 rfl ?_
          refine w_iload dX12_askOf_44 rfl ?_
          refine w_callS (d := d + 4) (S := [aI (mDk gg (mPos gg s w21) x c2 (c + 1))]) [aI (mPos gg s w21), aI (c2 : Int)] dX12_askOf_46 ml_X12_257 ok_X12_bit st_X12_bit rfl (Nat.le_of_ble_eq_true rfl) ?_
          refine c_X12_bit (d := (d + 4)) (mPos gg s w21) (c2 : Int) ?_
          show fwWP mX12_askOf (d + 5) 49 [some (aR 12 0), some (aI (s : Int)), some (aI (x : Int)), some (aI (mPos gg s w21)), some (aI ((mAsk (mDk gg (mPos gg s w21) x w21) (fwPop (mPos gg s w21)) c).1)), some (aI (1 + (c : Int))), some (aI (mDk gg (mPos gg s w21) x c2 (c + 1))), some (aI (c2 : Int))] [aI (fwAnd (fwShr (mPos gg s w21) (c2 : Int)) 1), aI (mDk gg (mPos gg s w21) x c2 (c + 1))] (fwUc (fwUc h 42 0 A2) 12 0 r) Q
          have hbt9 := bit_01 (mPos gg s w21) (c2 : Int)
          refine w_iconst dX12_askOf_49 ?_
          refine w_icmp_ne 84 dX12_askOf_50 (by decide) (by omega) (by omega) (fun c50 => ?_) (fun c50 => ?_)
          · refine w_iconst dX12_askOf_84 ?_
            refine w_iadd dX12_askOf_85 ?_
            refine w_istore [some (aR 12 0), some (aI (s : Int)), some (aI (x : Int)), some (aI (mPos gg s w21)), some (aI ((mAsk (mDk gg (mPos gg s w21) x w21) (fwPop (mPos gg s w21)) c).1)), some (aI (1 + (c : Int))), some (aI ((mDk gg (mPos gg s w21) x c2 (c + 1)) + 0)), some (aI (c2 : Int))] dX12_askOf_86 rfl (by decide) ?_
            refine w_iinc [some (aR 12 0), some (aI (s : Int)), some (aI (x : Int)), some (aI (mPos gg s w21)), some (aI ((mAsk (mDk gg (mPos gg s w21) x w21) (fwPop (mPos gg s w21)) c).1)), some (aI (1 + (c : Int))), some (aI ((mDk gg (mPos gg s w21) x c2 (c + 1)) + 0)), some (aI ((c2 : Int) + 1))] dX12_askOf_88 rfl rfl (by decide) ?_
            refine w_goto 34 dX12_askOf_91 (by decide) ?_
            exact ih34 (by omega) _ _ _ (by omega) (by rw [mDk_n0 c50]; omega) hA34
          · refine w_aload_n dX12_askOf_53 rfl ?_
            refine w_iload dX12_askOf_54 rfl ?_
            refine w_iload_n dX12_askOf_56 rfl ?_
            refine w_iload dX12_askOf_57 rfl ?_
            refine w_bipush dX12_askOf_59 rfl ?_
            refine w_icmp_gt 69 dX12_askOf_61 (by decide) (by omega) (by omega) (fun c61 => ?_) (fun c61 => ?_)
            · refine w_bipush dX12_askOf_69 rfl ?_
              refine w_iload dX12_askOf_71 rfl ?_
              refine w_isub dX12_askOf_73 ?_
              refine w_callV (d := d + 4) (S := [aI (mDk gg (mPos gg s w21) x c2 (c + 1))]) [aI (c2 : Int), aI (x : Int), aI (9 - (1 + (c : Int)))] dX12_askOf_74 ml_X12_364 ok_X12_wasDark vi_X12_wasDark rfl rfl (by decide) rfl (Nat.le_of_ble_eq_true rfl) ?_
              refine c_X12_wasDark (d := (d + 1)) c2 (x : Int) (9 - (1 + (c : Int))) J R hA34 (by omega) (by omega) (by omega) ?_
              intro A74_12 hA74_12; rw [W12_42]
              show fwWP mX12_askOf (d + 5) 77 [some (aR 12 0), some (aI (s : Int)), some (aI (x : Int)), some (aI (mPos gg s w21)), some (aI ((mAsk (mDk gg (mPos gg s w21) x w21) (fwPop (mPos gg s w21)) c).1)), some (aI (1 + (c : Int))), some (aI (mDk gg (mPos gg s w21) x c2 (c + 1))), some (aI (c2 : Int))] [aI (fwB (mShadeB (gg 4 0 1) (mOH gg c2) (x : Int) (9 - (1 + (c : Int))) = true)), aI (mDk gg (mPos gg s w21) x c2 (c + 1))] (fwUc (fwUc h 42 0 A74_12) 12 0 r) Q
              refine w_ifB_eq 84 dX12_askOf_77 (by decide) (fun c77 => ?_) (fun c77 => ?_)
              · refine w_iconst dX12_askOf_84 ?_
                refine w_iadd dX12_askOf_85 ?_
                refine w_istore [some (aR 12 0), some (aI (s : Int)), some (aI (x : Int)), some (aI (mPos gg s w21)), some (aI ((mAsk (mDk gg (mPos gg s w21) x w21) (fwPop (mPos gg s w21)) c).1)), some (aI (1 + (c : Int))), some (aI ((mDk gg (mPos gg s w21) x c2 (c + 1)) + 0)), some (aI (c2 : Int))] dX12_askOf_86 rfl (by decide) ?_
                refine w_iinc [some (aR 12 0), some (aI (s : Int)), some (aI (x : Int)), some (aI (mPos gg s w21)), some (aI ((mAsk (mDk gg (mPos gg s w21) x w21) (fwPop (mPos gg s w21)) c).1)), some (aI (1 + (c : Int))), some (aI ((mDk gg (mPos gg s w21) x c2 (c + 1)) + 0)), some (aI ((c2 : Int) + 1))] dX12_askOf_88 rfl rfl (by decide) ?_
                refine w_goto 34 dX12_askOf_91 (by decide) ?_
                exact ih34 (by omega) _ _ _ (by omega) (by rw [mDk_st (hr := 9 - (1 + (c : Int))) hn10 (fun q hq => by have := hM0 q hq; omega) (by omega) (by omega) (by rw [if_neg (by omega)]; omega) (by omega)]; first | (rw [if_pos c77]; done) | (rw [if_neg c77]; done)) hA74_12
              · refine w_iconst dX12_askOf_80 ?_
                refine w_goto 85 dX12_askOf_81 (by decide) ?_
                refine w_iadd dX12_askOf_85 ?_
                refine w_istore [some (aR 12 0), some (aI (s : Int)), some (aI (x : Int)), some (aI (mPos gg s w21)), some (aI ((mAsk (mDk gg (mPos gg s w21) x w21) (fwPop (mPos gg s w21)) c).1)), some (aI (1 + (c : Int))), some (aI ((mDk gg (mPos gg s w21) x c2 (c + 1)) + 1)), some (aI (c2 : Int))] dX12_askOf_86 rfl (by decide) ?_
                refine w_iinc [some (aR 12 0), some (aI (s : Int)), some (aI (x : Int)), some (aI (mPos gg s w21)), some (aI ((mAsk (mDk gg (mPos gg s w21) x w21) (fwPop (mPos gg s w21)) c).1)), some (aI (1 + (c : Int))), some (aI ((mDk gg (mPos gg s w21) x c2 (c + 1)) + 1)), some (aI ((c2 : Int) + 1))] dX12_askOf_88 rfl rfl (by decide) ?_
                refine w_goto 34 dX12_askOf_91 (by decide) ?_
                exact ih34 (by omega) _ _ _ (by omega) (by rw [mDk_st (hr := 9 - (1 + (c : Int))) hn10 (fun q hq => by have := hM0 q hq; omega) (by omega) (by omega) (by rw [if_neg (by omega)]; omega) (by omega)]; first | (rw [if_pos c77]; done) | (rw [if_neg c77]; done)) hA74_12
            · refine w_iload dX12_askOf_64 rfl ?_
              refine w_goto 74 dX12_askOf_66 (by decide) ?_
              refine w_callV (d := d + 4) (S := [aI (mDk gg (mPos gg s w21) x c2 (c + 1))]) [aI (c2 : Int), aI (x : Int), aI (1 + (c : Int))] dX12_askOf_74 ml_X12_364 ok_X12_wasDark vi_X12_wasDark rfl rfl (by decide) rfl (Nat.le_of_ble_eq_true rfl) ?_
              refine c_X12_wasDark (d := (d + 1)) c2 (x : Int) (1 + (c : Int)) J R hA34 (by omega) (by omega) (by omega) ?_
              intro A74_14 hA74_14; rw [W12_42]
              show fwWP mX12_askOf (d + 5) 77 [some (aR 12 0), some (aI (s : Int)), some (aI (x : Int)), some (aI (mPos gg s w21)), some (aI ((mAsk (mDk gg (mPos gg s w21) x w21) (fwPop (mPos gg s w21)) c).1)), some (aI (1 + (c : Int))), some (aI (mDk gg (mPos gg s w21) x c2 (c + 1))), some (aI (c2 : Int))] [aI (fwB (mShadeB (gg 4 0 1) (mOH gg c2) (x : Int) (1 + (c : Int)) = true)), aI (mDk gg (mPos gg s w21) x c2 (c + 1))] (fwUc (fwUc h 42 0 A74_14) 12 0 r) Q
              refine w_ifB_eq 84 dX12_askOf_77 (by decide) (fun c77 => ?_) (fun c77 => ?_)
              · refine w_iconst dX12_askOf_84 ?_
                refine w_iadd dX12_askOf_85 ?_
                refine w_istore [some (aR 12 0), some (aI (s : Int)), some (aI (x : Int)), some (aI (mPos gg s w21)), some (aI ((mAsk (mDk gg (mPos gg s w21) x w21) (fwPop (mPos gg s w21)) c).1)), some (aI (1 + (c : Int))), some (aI ((mDk gg (mPos gg s w21) x c2 (c + 1)) + 0)), some (aI (c2 : Int))] dX12_askOf_86 rfl (by decide) ?_
                refine w_iinc [some (aR 12 0), some (aI (s : Int)), some (aI (x : Int)), some (aI (mPos gg s w21)), some (aI ((mAsk (mDk gg (mPos gg s w21) x w21) (fwPop (mPos gg s w21)) c).1)), some (aI (1 + (c : Int))), some (aI ((mDk gg (mPos gg s w21) x c2 (c + 1)) + 0)), some (aI ((c2 : Int) + 1))] dX12_askOf_88 rfl rfl (by decide) ?_
                refine w_goto 34 dX12_askOf_91 (by decide) ?_
                exact ih34 (by omega) _ _ _ (by omega) (by rw [mDk_st (hr := 1 + (c : Int)) hn10 (fun q hq => by have := hM0 q hq; omega) (by omega) (by omega) (by rw [if_pos (by omega)]; omega) (by omega)]; first | (rw [if_pos c77]; done) | (rw [if_neg c77]; done)) hA74_14
              · refine w_iconst dX12_askOf_80 ?_
                refine w_goto 85 dX12_askOf_81 (by decide) ?_
                refine w_iadd dX12_askOf_85 ?_
                refine w_istore [some (aR 12 0), some (aI (s : Int)), some (aI (x : Int)), some (aI (mPos gg s w21)), some (aI ((mAsk (mDk gg (mPos gg s w21) x w21) (fwPop (mPos gg s w21)) c).1)), some (aI (1 + (c : Int))), some (aI ((mDk gg (mPos gg s w21) x c2 (c + 1)) + 1)), some (aI (c2 : Int))] dX12_askOf_86 rfl (by decide) ?_
                refine w_iinc [some (aR 12 0), some (aI (s : Int)), some (aI (x : Int)), some (aI (mPos gg s w21)), some (aI ((mAsk (mDk gg (mPos gg s w21) x w21) (fwPop (mPos gg s w21)) c).1)), some (aI (1 + (c : Int))), some (aI ((mDk gg (mPos gg s w21) x c2 (c + 1)) + 1)), some (aI ((c2 : Int) + 1))] dX12_askOf_88 rfl rfl (by decide) ?_
                refine w_goto 34 dX12_askOf_91 (by decide) ?_
                exact ih34 (by omega) _ _ _ (by omega) (by rw [mDk_st (hr := 1 + (c : Int)) hn10 (fun q hq => by have := hM0 q hq; omega) (by omega) (by omega) (by rw [if_pos (by omega)]; omega) (by omega)]; first | (rw [if_pos c77]; done) | (rw [if_neg c77]; done)) hA74_14
      exact lp34 0 (by omega) _ _ _ rfl rfl hA21
  exact lp21 0 (by omega) _ _ _ _ (by omega) rfl rfl hA3_1 ⟨rfl, rfl, rfl⟩
set_option maxRecDepth 100000 in
set_option maxHeartbeats 4000000 in
theorem c_X12_old {d : Nat} {h gg : fwH} {Q : Option fwV → fwH → Prop} (x : Int) (J : cOk gg) (R : jF gg h) (K : jA gg h) (hsh : sc h) (S : jS gg h) (hx : -2147483648 ≤ x ∧ x < 2147483648) (k : ∀ g, scr h g → Q (some (aI (an_old gg x))) g) : fwCt mX12_old (d + 7) [aR 12 0, aI x] h Q := by
  refine fwCt_of [some (aR 12 0), some (aI x), none] rfl rfl rfl ?_
  obtain ⟨hl, hP, hG, hM0, htd, hut, hlw, hhc, ha, hs, hT, hsc⟩ := id J
  have hb17 : hB (gg 17 0) := fun c hc => by have := hM0 c hc; omega
  obtain ⟨⟨g1, g2⟩, ⟨g3, g4⟩, ⟨g5, g6⟩, g7, -⟩ := id hG
  have h17_99 : ∀ c : Nat, (c : Int) < gg 4 0 1 → gg 17 0 c ≤ 99 := fun c hc => (hM0 c (by omega)).2
  have hpz := hP.1
  have hrs1 := R.2.2.2.2.2.2.2.2.2.2.2
  obtain ⟨w21, hw21⟩ : ∃ w : Nat, w = 21 := ⟨21, rfl⟩
  obtain ⟨n18, hn18⟩ : ∃ w : Nat, w = 18 := ⟨18, rfl⟩
  refine w_aload_n dX12_old_0 rfl ?_
  refine w_iload_n dX12_old_1 rfl ?_
  refine w_callV (d := d + 6) (S := []) [aI x] dX12_old_2 ml_X12_368 ok_X12_asksOld vi_X12_asksOld rfl rfl (by decide) rfl (Nat.le_of_ble_eq_true rfl) ?_
  refine c_X12_asksOld (d := d) x J R K S (by omega) ⟨fun hld => ?_, fun hld => ?_⟩
  · have hrn := mLdR_n gg x
    show fwWP mX12_old (d + 7) 5 [some (aR 12 0), some (aI x), none] [aI (mLdR gg x)] h Q
    refine w_istore_n [some (aR 12 0), some (aI x), some (aI (mLdR gg x))] dX12_old_5 rfl (by decide) ?_
    refine w_iload_n dX12_old_6 rfl ?_
    refine w_if_ge 14 dX12_old_7 (by decide) (by omega) (fun c7 => ?_) (fun c7 => ?_)
    · (exfalso; omega)
    · refine w_iload_n dX12_old_10 rfl ?_
      refine w_goto 20 dX12_old_11 (by decide) ?_
      exact w_iretE dX12_old_20 rfl (by unfold an_old; rw [if_neg hld]) (k _ (scr_rf hsh))
  · intro A9 hA9
    show fwWP mX12_old (d + 7) 5 [some (aR 12 0), some (aI x), none] [aI 0] (fwUc h 42 0 A9) Q
    obtain ⟨s, rfl⟩ : ∃ s : Nat, x = (s : Int) := ⟨x.toNat, by omega⟩
    have hs35 := (hs s (by omega)).1
    have hz1 : gg 35 0 s ≠ -1 := hld.2.2.1
    have hz2 : gg 35 0 s % 3 = 0 := hld.2.2.2.1
    have hal : mAll (mSiP (gg 33 s) (gg 4 0 1)) (gg 35 0 s / 3).toNat = true := hld.2.2.2.2
    have hSl : oSl gg s := ⟨by omega, by omega, hz2, hal⟩
    refine w_istore_n [some (aR 12 0), some (aI (s : Int)), some (aI 0)] dX12_old_5 rfl (by decide) ?_
    refine w_iload_n dX12_old_6 rfl ?_
    refine w_if_ge 14 dX12_old_7 (by decide) (by omega) (fun c7 => ?_) (fun c7 => ?_)
    · refine w_aload_n dX12_old_14 rfl ?_
      refine w_iload_n dX12_old_15 rfl ?_
      refine w_iconst dX12_old_16 ?_
      refine w_callV (d := d + 6) (S := []) [aI (s : Int), aI (-1)] dX12_old_17 ml_X12_371 ok_X12_oldBy vi_X12_oldBy rfl rfl (by decide) rfl (Nat.le_of_ble_eq_true rfl) ?_
      refine c_s_oldN (d := (d + 2)) s w21 hw21 J R S hs hSl hA9 ?_
      intro A17_3 hA17_3; rw [fwUc_uc]
      show fwWP mX12_old (d + 7) 20 [some (aR 12 0), some (aI (s : Int)), some (aI 0)] [aI (mPos gg s w21)] (fwUc h 42 0 A17_3) Q
      exact w_iretE dX12_old_20 rfl (by unfold an_old; rw [if_pos hld, Int.toNat_natCast, hw21]) (k _ (scr_uc (scr_rf hsh) rfl (by decide) (by decide) (by decide)))
    · (exfalso; omega)
set_option maxRecDepth 100000 in
set_option maxHeartbeats 4000000 in
theorem c_X12_ask {d : Nat} {h gg : fwH} {Q : Option fwV → fwH → Prop} (x : Int) (y : Int) (J : cOk gg) (R : jF gg h) (K : jA gg h) (hsh : sc h) (S : jS gg h) (hx : -2147483648 ≤ x ∧ x < 2147483648) (hy : -2147483648 ≤ y ∧ y < 2147483648) (k : ∀ g, scr h g → Q (some (aI (an_ask gg x y))) g) : fwCt mX12_ask (d + 7) [aR 12 0, aI x, aI y] h Q := by
  refine fwCt_of [some (aR 12 0), some (aI x), some (aI y), none] rfl rfl rfl ?_
  obtain ⟨hl, hP, hG, hM0, htd, hut, hlw, hhc, ha, hs, hT, hsc⟩ := id J
  have hb17 : hB (gg 17 0) := fun c hc => by have := hM0 c hc; omega
  obtain ⟨⟨g1, g2⟩, ⟨g3, g4⟩, ⟨g5, g6⟩, g7, -⟩ := id hG
  have h17_99 : ∀ c : Nat, (c : Int) < gg 4 0 1 → gg 17 0 c ≤ 99 := fun c hc => (hM0 c (by omega)).2
  have hpz := hP.1
  have hrs1 := R.2.2.2.2.2.2.2.2.2.2.2
  obtain ⟨w21, hw21⟩ : ∃ w : Nat, w = 21 := ⟨21, rfl⟩
  obtain ⟨n18, hn18⟩ : ∃ w : Nat, w = 18 := ⟨18, rfl⟩
  refine w_aload_n dX12_ask_0 rfl ?_
  refine w_iload_n dX12_ask_1 rfl ?_
  refine w_callV (d := d + 6) (S := []) [aI x] dX12_ask_2 ml_X12_368 ok_X12_asksOld vi_X12_asksOld rfl rfl (by decide) rfl (Nat.le_of_ble_eq_true rfl) ?_
  refine c_X12_asksOld (d := d) x J R K S (by omega) ⟨fun hld => ?_, fun hld => ?_⟩
  · have hrn := mLdR_n gg x
    show fwWP mX12_ask (d + 7) 5 [some (aR 12 0), some (aI x), some (aI y), none] [aI (mLdR gg x)] h Q
    refine w_istore_n [some (aR 12 0), some (aI x), some (aI y), some (aI (mLdR gg x))] dX12_ask_5 rfl (by decide) ?_
    refine w_iload_n dX12_ask_6 rfl ?_
    refine w_bipush dX12_ask_7 rfl ?_
    refine w_icmp_ne 26 dX12_ask_9 (by decide) (by omega) (by omega) (fun c9 => ?_) (fun c9 => ?_)
    · refine w_iload_n dX12_ask_26 rfl ?_
      refine w_if_ge 34 dX12_ask_27 (by decide) (by omega) (fun c27 => ?_) (fun c27 => ?_)
      · (exfalso; omega)
      · refine w_iload_n dX12_ask_30 rfl ?_
        refine w_goto 54 dX12_ask_31 (by decide) ?_
        exact w_iretE dX12_ask_54 rfl (by unfold an_ask; by_cases q9 : 0 ≤ y ∧ y < gg 4 0 1; (rw [if_pos q9, if_neg hld]); (rw [if_neg q9]; omega)) (k _ (scr_rf hsh))
    · refine w_aload_n dX12_ask_12 rfl ?_
      refine w_iload_n dX12_ask_13 rfl ?_
      refine w_i2l dX12_ask_14 (by omega) ?_
      refine w_callV (d := d + 6) (S := []) [aJ y] dX12_ask_15 ml_X12_203 ok_X12_isCell vi_X12_isCell rfl rfl (by decide) rfl (Nat.le_of_ble_eq_true rfl) ?_
      refine c_X12_isCell (d := (d + 5)) y J R (by omega) ?_
      show fwWP mX12_ask (d + 7) 18 [some (aR 12 0), some (aI x), some (aI y), some (aI (mLdR gg x))] [aI (fwB (0 ≤ y ∧ y ≤ gg 4 0 1 - 1))] h Q
      refine w_ifB_ne 26 dX12_ask_18 (by decide) (fun c18 => ?_) (fun c18 => ?_)
      · refine w_iload_n dX12_ask_26 rfl ?_
        refine w_if_ge 34 dX12_ask_27 (by decide) (by omega) (fun c27 => ?_) (fun c27 => ?_)
        · (exfalso; omega)
        · refine w_iload_n dX12_ask_30 rfl ?_
          refine w_goto 54 dX12_ask_31 (by decide) ?_
          exact w_iretE dX12_ask_54 rfl (by unfold an_ask; by_cases q9 : 0 ≤ y ∧ y < gg 4 0 1; (rw [if_pos q9, if_neg hld]); (rw [if_neg q9]; omega)) (k _ (scr_rf hsh))
      · refine w_bipush dX12_ask_21 rfl ?_
        refine w_goto 54 dX12_ask_23 (by decide) ?_
        exact w_iretE dX12_ask_54 rfl (by unfold an_ask; rw [if_neg (by omega)]) (k _ (scr_rf hsh))
  · intro A9 hA9
    show fwWP mX12_ask (d + 7) 5 [some (aR 12 0), some (aI x), some (aI y), none] [aI 0] (fwUc h 42 0 A9) Q
    obtain ⟨s, rfl⟩ : ∃ s : Nat, x = (s : Int) := ⟨x.toNat, by omega⟩
    have hs35 := (hs s (by omega)).1
    have hz1 : gg 35 0 s ≠ -1 := hld.2.2.1
    have hz2 : gg 35 0 s % 3 = 0 := hld.2.2.2.1
    have hal : mAll (mSiP (gg 33 s) (gg 4 0 1)) (gg 35 0 s / 3).toNat = true := hld.2.2.2.2
    have hSl : oSl gg s := ⟨by omega, by omega, hz2, hal⟩
    refine w_istore_n [some (aR 12 0), some (aI (s : Int)), some (aI y), some (aI 0)] dX12_ask_5 rfl (by decide) ?_
    refine w_iload_n dX12_ask_6 rfl ?_
    refine w_bipush dX12_ask_7 rfl ?_
    refine w_icmp_ne 26 dX12_ask_9 (by decide) (by omega) (by omega) (fun c9 => ?_) (fun c9 => ?_)
    · refine w_iload_n dX12_ask_26 rfl ?_
      refine w_if_ge 34 dX12_ask_27 (by decide) (by omega) (fun c27 => ?_) (fun c27 => ?_)
      · refine w_aload_n dX12_ask_34 rfl ?_
        refine w_iload_n dX12_ask_35 rfl ?_
        refine w_i2l dX12_ask_36 (by omega) ?_
        refine w_callV (d := d + 6) (S := []) [aJ y] dX12_ask_37 ml_X12_203 ok_X12_isCell vi_X12_isCell rfl rfl (by decide) rfl (Nat.le_of_ble_eq_true rfl) ?_
        refine c_X12_isCell (d := (d + 5)) y J R (by omega) ?_
        show fwWP mX12_ask (d + 7) 40 [some (aR 12 0), some (aI (s : Int)), some (aI y), some (aI 0)] [aI (fwB (0 ≤ y ∧ y ≤ gg 4 0 1 - 1))] (fwUc h 42 0 A9) Q
        refine w_ifB_eq 52 dX12_ask_40 (by decide) (fun c40 => ?_) (fun c40 => ?_)
        · refine w_bipush dX12_ask_52 rfl ?_
          exact w_iretE dX12_ask_54 rfl (by unfold an_ask; rw [if_neg (by omega)]) (k _ (scr_uc (scr_rf hsh) rfl (by decide) (by decide) (by decide)))
        · obtain ⟨t, rfl⟩ : ∃ t : Nat, y = (t : Int) := ⟨y.toNat, by omega⟩
          refine w_aload_n dX12_ask_43 rfl ?_
          refine w_iload_n dX12_ask_44 rfl ?_
          refine w_iload_n dX12_ask_45 rfl ?_
          refine w_callV (d := d + 6) (S := []) [aI (s : Int), aI (t : Int)] dX12_ask_46 ml_X12_377 ok_X12_askOf vi_X12_askOf rfl rfl (by decide) rfl (Nat.le_of_ble_eq_true rfl) ?_
          refine c_s_askOf (d := (d + 1)) s t w21 n18 hw21 hn18 J R S hs hSl hA9 (by omega) ?_
          intro A8 r8 hA8 hr8 er8; rw [fwUc_uc]
          show fwWP mX12_ask (d + 7) 49 [some (aR 12 0), some (aI (s : Int)), some (aI (t : Int)), some (aI 0)] [aI ((mAsk (mDk gg (mPos gg s w21) t w21) (fwPop (mPos gg s w21)) n18).1)] (fwUc (fwUc h 42 0 A8) 12 0 r8) Q
          refine w_goto 54 dX12_ask_49 (by decide) ?_
          exact w_iretE dX12_ask_54 rfl (by unfold an_ask; rw [if_pos (by omega), if_pos hld, Int.toNat_natCast, Int.toNat_natCast, hw21, hn18]; rfl) (k _ (scr_12 (scr_uc (scr_rf hsh) rfl (by decide) (by decide) (by decide)) hr8.1 hr8.2.1 hr8.2.2))
      · (exfalso; omega)
    · refine w_aload_n dX12_ask_12 rfl ?_
      refine w_iload_n dX12_ask_13 rfl ?_
      refine w_i2l dX12_ask_14 (by omega) ?_
      refine w_callV (d := d + 6) (S := []) [aJ y] dX12_ask_15 ml_X12_203 ok_X12_isCell vi_X12_isCell rfl rfl (by decide) rfl (Nat.le_of_ble_eq_true rfl) ?_
      refine c_X12_isCell (d := (d + 5)) y J R (by omega) ?_
      show fwWP mX12_ask (d + 7) 18 [some (aR 12 0), some (aI (s : Int)), some (aI y), some (aI 0)] [aI (fwB (0 ≤ y ∧ y ≤ gg 4 0 1 - 1))] (fwUc h 42 0 A9) Q
      refine w_ifB_ne 26 dX12_ask_18 (by decide) (fun c18 => ?_) (fun c18 => ?_)
      · refine w_iload_n dX12_ask_26 rfl ?_
        refine w_if_ge 34 dX12_ask_27 (by decide) (by omega) (fun c27 => ?_) (fun c27 => ?_)
        · refine w_aload_n dX12_ask_34 rfl ?_
          refine w_iload_n dX12_ask_35 rfl ?_
          refine w_i2l dX12_ask_36 (by omega) ?_
          refine w_callV (d := d + 6) (S := []) [aJ y] dX12_ask_37 ml_X12_203 ok_X12_isCell vi_X12_isCell rfl rfl (by decide) rfl (Nat.le_of_ble_eq_true rfl) ?_
          refine c_X12_isCell (d := (d + 5)) y J R (by omega) ?_
          show fwWP mX12_ask (d + 7) 40 [some (aR 12 0), some (aI (s : Int)), some (aI y), some (aI 0)] [aI (fwB (0 ≤ y ∧ y ≤ gg 4 0 1 - 1))] (fwUc h 42 0 A9) Q
          refine w_ifB_eq 52 dX12_ask_40 (by decide) (fun c40 => ?_) (fun c40 => ?_)
          · refine w_bipush dX12_ask_52 rfl ?_
            exact w_iretE dX12_ask_54 rfl (by unfold an_ask; rw [if_neg (by omega)]) (k _ (scr_uc (scr_rf hsh) rfl (by decide) (by decide) (by decide)))
          · obtain ⟨t, rfl⟩ : ∃ t : Nat, y = (t : Int) := ⟨y.toNat, by omega⟩
            refine w_aload_n dX12_ask_43 rfl ?_
            refine w_iload_n dX12_ask_44 rfl ?_
            refine w_iload_n dX12_ask_45 rfl ?_
            refine w_callV (d := d + 6) (S := []) [aI (s : Int), aI (t : Int)] dX12_ask_46 ml_X12_377 ok_X12_askOf vi_X12_askOf rfl rfl (by decide) rfl (Nat.le_of_ble_eq_true rfl) ?_
            refine c_s_askOf (d := (d + 1)) s t w21 n18 hw21 hn18 J R S hs hSl hA9 (by omega) ?_
            intro A12 r12 hA12 hr12 er12; rw [fwUc_uc]
            show fwWP mX12_ask (d + 7) 49 [some (aR 12 0), some (aI (s : Int)), some (aI (t : Int)), some (aI 0)] [aI ((mAsk (mDk gg (mPos gg s w21) t w21) (fwPop (mPos gg s w21)) n18).1)] (fwUc (fwUc h 42 0 A12) 12 0 r12) Q
            refine w_goto 54 dX12_ask_49 (by decide) ?_
            exact w_iretE dX12_ask_54 rfl (by unfold an_ask; rw [if_pos (by omega), if_pos hld, Int.toNat_natCast, Int.toNat_natCast, hw21, hn18]; rfl) (k _ (scr_12 (scr_uc (scr_rf hsh) rfl (by decide) (by decide) (by decide)) hr12.1 hr12.2.1 hr12.2.2))
        · (exfalso; omega)
      · refine w_bipush dX12_ask_21 rfl ?_
        refine w_goto 54 dX12_ask_23 (by decide) ?_
        exact w_iretE dX12_ask_54 rfl (by unfold an_ask; rw [if_neg (by omega)]) (k _ (scr_uc (scr_rf hsh) rfl (by decide) (by decide) (by decide)))
set_option maxRecDepth 100000 in
set_option maxHeartbeats 4000000 in
theorem c_X12_leaves {d : Nat} {h gg : fwH} {Q : Option fwV → fwH → Prop} (x : Int) (y : Int) (J : cOk gg) (R : jF gg h) (K : jA gg h) (hsh : sc h) (S : jS gg h) (hx : -2147483648 ≤ x ∧ x < 2147483648) (hy : -2147483648 ≤ y ∧ y < 2147483648) (k : ∀ g, scr h g → Q (some (aI (an_leaves gg x y))) g) : fwCt mX12_leaves (d + 7) [aR 12 0, aI x, aI y] h Q := by
  refine fwCt_of [some (aR 12 0), some (aI x), some (aI y), none] rfl rfl rfl ?_
  obtain ⟨hl, hP, hG, hM0, htd, hut, hlw, hhc, ha, hs, hT, hsc⟩ := id J
  have hb17 : hB (gg 17 0) := fun c hc => by have := hM0 c hc; omega
  obtain ⟨⟨g1, g2⟩, ⟨g3, g4⟩, ⟨g5, g6⟩, g7, -⟩ := id hG
  have h17_99 : ∀ c : Nat, (c : Int) < gg 4 0 1 → gg 17 0 c ≤ 99 := fun c hc => (hM0 c (by omega)).2
  have hpz := hP.1
  have hrs1 := R.2.2.2.2.2.2.2.2.2.2.2
  obtain ⟨w21, hw21⟩ : ∃ w : Nat, w = 21 := ⟨21, rfl⟩
  obtain ⟨n18, hn18⟩ : ∃ w : Nat, w = 18 := ⟨18, rfl⟩
  refine w_aload_n dX12_leaves_0 rfl ?_
  refine w_iload_n dX12_leaves_1 rfl ?_
  refine w_callV (d := d + 6) (S := []) [aI x] dX12_leaves_2 ml_X12_368 ok_X12_asksOld vi_X12_asksOld rfl rfl (by decide) rfl (Nat.le_of_ble_eq_true rfl) ?_
  refine c_X12_asksOld (d := d) x J R K S (by omega) ⟨fun hld => ?_, fun hld => ?_⟩
  · have hrn := mLdR_n gg x
    show fwWP mX12_leaves (d + 7) 5 [some (aR 12 0), some (aI x), some (aI y), none] [aI (mLdR gg x)] h Q
    refine w_istore_n [some (aR 12 0), some (aI x), some (aI y), some (aI (mLdR gg x))] dX12_leaves_5 rfl (by decide) ?_
    refine w_iload_n dX12_leaves_6 rfl ?_
    refine w_if_lt 19 dX12_leaves_7 (by decide) (by omega) (fun c7 => ?_) (fun c7 => ?_)
    · refine w_iload_n dX12_leaves_19 rfl ?_
      refine w_bipush dX12_leaves_20 rfl ?_
      refine w_icmp_ne 39 dX12_leaves_22 (by decide) (by omega) (by omega) (fun c22 => ?_) (fun c22 => ?_)
      · refine w_bipush dX12_leaves_39 rfl ?_
        exact w_iretE dX12_leaves_41 rfl (by unfold an_leaves; by_cases q9 : 0 ≤ y ∧ y < gg 4 0 1; (first | (rw [if_pos q9, if_neg hld]; omega) | (exfalso; omega)); (rw [if_neg q9]; first | done | omega)) (k _ (scr_rf hsh))
      · refine w_aload_n dX12_leaves_25 rfl ?_
        refine w_iload_n dX12_leaves_26 rfl ?_
        refine w_i2l dX12_leaves_27 (by omega) ?_
        refine w_callV (d := d + 6) (S := []) [aJ y] dX12_leaves_28 ml_X12_203 ok_X12_isCell vi_X12_isCell rfl rfl (by decide) rfl (Nat.le_of_ble_eq_true rfl) ?_
        refine c_X12_isCell (d := (d + 5)) y J R (by omega) ?_
        show fwWP mX12_leaves (d + 7) 31 [some (aR 12 0), some (aI x), some (aI y), some (aI (mLdR gg x))] [aI (fwB (0 ≤ y ∧ y ≤ gg 4 0 1 - 1))] h Q
        refine w_ifB_eq 39 dX12_leaves_31 (by decide) (fun c31 => ?_) (fun c31 => ?_)
        · refine w_bipush dX12_leaves_39 rfl ?_
          exact w_iretE dX12_leaves_41 rfl (by unfold an_leaves; by_cases q9 : 0 ≤ y ∧ y < gg 4 0 1; (first | (rw [if_pos q9, if_neg hld]; omega) | (exfalso; omega)); (rw [if_neg q9]; first | done | omega)) (k _ (scr_rf hsh))
        · refine w_bipush dX12_leaves_34 rfl ?_
          refine w_goto 41 dX12_leaves_36 (by decide) ?_
          exact w_iretE dX12_leaves_41 rfl (by unfold an_leaves; by_cases q9 : 0 ≤ y ∧ y < gg 4 0 1; (first | (rw [if_pos q9, if_neg hld]; omega) | (exfalso; omega)); (rw [if_neg q9]; first | done | omega)) (k _ (scr_rf hsh))
    · (exfalso; omega)
  · intro A9 hA9
    show fwWP mX12_leaves (d + 7) 5 [some (aR 12 0), some (aI x), some (aI y), none] [aI 0] (fwUc h 42 0 A9) Q
    obtain ⟨s, rfl⟩ : ∃ s : Nat, x = (s : Int) := ⟨x.toNat, by omega⟩
    have hs35 := (hs s (by omega)).1
    have hz1 : gg 35 0 s ≠ -1 := hld.2.2.1
    have hz2 : gg 35 0 s % 3 = 0 := hld.2.2.2.1
    have hal : mAll (mSiP (gg 33 s) (gg 4 0 1)) (gg 35 0 s / 3).toNat = true := hld.2.2.2.2
    have hSl : oSl gg s := ⟨by omega, by omega, hz2, hal⟩
    refine w_istore_n [some (aR 12 0), some (aI (s : Int)), some (aI y), some (aI 0)] dX12_leaves_5 rfl (by decide) ?_
    refine w_iload_n dX12_leaves_6 rfl ?_
    refine w_if_lt 19 dX12_leaves_7 (by decide) (by omega) (fun c7 => ?_) (fun c7 => ?_)
    · (exfalso; omega)
    · refine w_aload_n dX12_leaves_10 rfl ?_
      refine w_iload_n dX12_leaves_11 rfl ?_
      refine w_i2l dX12_leaves_12 (by omega) ?_
      refine w_callV (d := d + 6) (S := []) [aJ y] dX12_leaves_13 ml_X12_203 ok_X12_isCell vi_X12_isCell rfl rfl (by decide) rfl (Nat.le_of_ble_eq_true rfl) ?_
      refine c_X12_isCell (d := (d + 5)) y J R (by omega) ?_
      show fwWP mX12_leaves (d + 7) 16 [some (aR 12 0), some (aI (s : Int)), some (aI y), some (aI 0)] [aI (fwB (0 ≤ y ∧ y ≤ gg 4 0 1 - 1))] (fwUc h 42 0 A9) Q
      refine w_ifB_ne 42 dX12_leaves_16 (by decide) (fun c16 => ?_) (fun c16 => ?_)
      · obtain ⟨t, rfl⟩ : ∃ t : Nat, y = (t : Int) := ⟨y.toNat, by omega⟩
        refine w_aload_n dX12_leaves_42 rfl ?_
        refine w_iload_n dX12_leaves_43 rfl ?_
        refine w_iload_n dX12_leaves_44 rfl ?_
        refine w_callV (d := d + 6) (S := []) [aI (s : Int), aI (t : Int)] dX12_leaves_45 ml_X12_377 ok_X12_askOf vi_X12_askOf rfl rfl (by decide) rfl (Nat.le_of_ble_eq_true rfl) ?_
        refine c_s_askOf (d := (d + 1)) s t w21 n18 hw21 hn18 J R S hs hSl hA9 (by omega) ?_
        intro A6 r6 hA6 hr6 er6; rw [fwUc_uc]
        show fwWP mX12_leaves (d + 7) 48 [some (aR 12 0), some (aI (s : Int)), some (aI (t : Int)), some (aI 0)] [aI ((mAsk (mDk gg (mPos gg s w21) t w21) (fwPop (mPos gg s w21)) n18).1)] (fwUc (fwUc h 42 0 A6) 12 0 r6) Q
        refine w_pop dX12_leaves_48 rfl ?_
        refine w_aload_n dX12_leaves_49 rfl ?_
        refine w_getiE (v := r6 21) dX12_leaves_50 fl_X12_374 rfl (by decide) rfl ?_
        exact w_iretE dX12_leaves_53 rfl (by rw [er6]; unfold an_leaves; rw [if_pos (by omega), if_pos hld, Int.toNat_natCast, Int.toNat_natCast, hw21, hn18]; rfl) (k _ (scr_12 (scr_uc (scr_rf hsh) rfl (by decide) (by decide) (by decide)) hr6.1 hr6.2.1 hr6.2.2))
      · refine w_iload_n dX12_leaves_19 rfl ?_
        refine w_bipush dX12_leaves_20 rfl ?_
        refine w_icmp_ne 39 dX12_leaves_22 (by decide) (by omega) (by omega) (fun c22 => ?_) (fun c22 => ?_)
        · refine w_bipush dX12_leaves_39 rfl ?_
          exact w_iretE dX12_leaves_41 rfl (by unfold an_leaves; by_cases q9 : 0 ≤ y ∧ y < gg 4 0 1; (first | (rw [if_pos q9, if_neg hld]; omega) | (exfalso; omega)); (rw [if_neg q9]; first | done | omega)) (k _ (scr_uc (scr_rf hsh) rfl (by decide) (by decide) (by decide)))
        · refine w_aload_n dX12_leaves_25 rfl ?_
          refine w_iload_n dX12_leaves_26 rfl ?_
          refine w_i2l dX12_leaves_27 (by omega) ?_
          refine w_callV (d := d + 6) (S := []) [aJ y] dX12_leaves_28 ml_X12_203 ok_X12_isCell vi_X12_isCell rfl rfl (by decide) rfl (Nat.le_of_ble_eq_true rfl) ?_
          refine c_X12_isCell (d := (d + 5)) y J R (by omega) ?_
          show fwWP mX12_leaves (d + 7) 31 [some (aR 12 0), some (aI (s : Int)), some (aI y), some (aI 0)] [aI (fwB (0 ≤ y ∧ y ≤ gg 4 0 1 - 1))] (fwUc h 42 0 A9) Q
          refine w_ifB_eq 39 dX12_leaves_31 (by decide) (fun c31 => ?_) (fun c31 => ?_)
          · refine w_bipush dX12_leaves_39 rfl ?_
            exact w_iretE dX12_leaves_41 rfl (by unfold an_leaves; by_cases q9 : 0 ≤ y ∧ y < gg 4 0 1; (first | (rw [if_pos q9, if_neg hld]; omega) | (exfalso; omega)); (rw [if_neg q9]; first | done | omega)) (k _ (scr_uc (scr_rf hsh) rfl (by decide) (by decide) (by decide)))
          · refine w_bipush dX12_leaves_34 rfl ?_
            refine w_goto 41 dX12_leaves_36 (by decide) ?_
            exact w_iretE dX12_leaves_41 rfl (by unfold an_leaves; by_cases q9 : 0 ≤ y ∧ y < gg 4 0 1; (first | (rw [if_pos q9, if_neg hld]; omega) | (exfalso; omega)); (rw [if_neg q9]; first | done | omega)) (k _ (scr_uc (scr_rf hsh) rfl (by decide) (by decide) (by decide)))
theorem mMis_1 {p : Nat → Bool} {r : Nat} : ∀ n : Nat, (mMis p n).1 = 1 → (mMis p n).2 = (r : Int) → ∀ j, j < n → j ≠ r → ¬ p j = true := by
  intro n
  induction n with
  | zero => intro _ _ j hj; exact absurd hj (Nat.not_lt_zero _)
  | succ n ih =>
    intro h1 h2 j hj hr
    rw [mMis] at h1 h2
    by_cases c : p n = true
    · rw [if_pos c] at h1 h2
      dsimp only at h1 h2
      exact (mMis_all p n).mp (by omega) j (by omega)
    · rw [if_neg c] at h1 h2
      rcases Nat.lt_succ_iff_lt_or_eq.mp hj with z | z
      · exact ih h1 h2 j z hr
      · rw [z]; exact c
theorem mMis_2 {p : Nat → Bool} {r : Nat} (hp : p r = true) : ∀ n : Nat, r < n → (∀ j, j < n → j ≠ r → ¬ p j = true) → (mMis p n).1 = 1 ∧ (mMis p n).2 = (r : Int) := by
  intro n
  induction n with
  | zero => intro h; exact absurd h (Nat.not_lt_zero _)
  | succ n ih =>
    intro h q
    rw [mMis]
    rcases Nat.lt_succ_iff_lt_or_eq.mp h with z | z
    · rw [if_neg (q n (Nat.lt_succ_self _) (by omega))]
      exact ih z (fun j hj hn => q j (by omega) hn)
    · subst z
      rw [if_pos hp]
      have e := (mMis_all p r).mpr (fun j hj => q j (by omega) (by omega))
      exact ⟨by dsimp only; omega, rfl⟩
theorem oB_3 {gg : fwH} {s k r : Nat} : oB gg s (3 * (r : Int)) k = true ↔ ∀ j, j < (gg 35 0 s / 3).toNat → j ≠ r → ¬ mMiP (gg 4 0 1) (mOH gg k) (gg 33 s) j = true := by
  unfold oB
  rw [mAll_iff]
  constructor
  · intro q j hj hr
    rcases of_decide_eq_true (q j hj) with z | z
    · omega
    · exact z
  · intro q j hj
    by_cases e : j = r
    · exact decide_eq_true (Or.inl (by rw [e]))
    · exact decide_eq_true (Or.inr (q j hj e))
def dB (gg : fwH) (s w r : Nat) : Bool := decide (mBits (oB gg s (3 * (r : Int))) w ≠ 0)
theorem mCnt_c {p q : Nat → Bool} : ∀ n : Nat, (∀ j, j < n → p j = q j) → mCnt p n = mCnt q n := by
  intro n
  induction n with
  | zero => intro _; rfl
  | succ n ih =>
    intro h
    rw [mCnt, mCnt, ih (fun j hj => h j (by omega)), h n (Nat.lt_succ_self _)]
theorem mCnt_all {p : Nat → Bool} : ∀ n : Nat, (∀ j, j < n → p j = true) → mCnt p n = (n : Int) := by
  intro n
  induction n with
  | zero => intro _; rfl
  | succ n ih =>
    intro h
    rw [mCnt, ih (fun j hj => h j (by omega)), if_pos (h n (Nat.lt_succ_self _))]
    omega
theorem mCnt_r (p : Nat → Bool) : ∀ n : Nat, 0 ≤ mCnt p n ∧ mCnt p n ≤ n := by
  intro n
  induction n with
  | zero => simp [mCnt]
  | succ n ih => rw [mCnt]; split <;> omega
theorem mPos_ne {gg : fwH} {s w : Nat} (hw : w ≤ 21) : mPos gg s w ≠ 0 ↔ ∃ k, k < w ∧ (mMs gg s k).1 = 0 := by
  unfold mPos
  rw [mBits_ne hw]
  exact ⟨fun ⟨k, a, b⟩ => ⟨k, a, of_decide_eq_true b⟩, fun ⟨k, a, b⟩ => ⟨k, a, decide_eq_true b⟩⟩
theorem dB_or {gg : fwH} {s w r : Nat} (hw : w ≤ 21) (hr : r < (gg 35 0 s / 3).toNat) : dB gg s w r = true ↔ (mPos gg s w ≠ 0 ∨ ∃ k, k < w ∧ (mMs gg s k).1 = 1 ∧ (mMs gg s k).2 = (r : Int)) := by
  unfold dB
  rw [decide_eq_true_iff, mBits_ne hw, mPos_ne hw]
  constructor
  · intro ⟨k, hk, e⟩
    have z := oB_3.mp e
    by_cases c : mMiP (gg 4 0 1) (mOH gg k) (gg 33 s) r = true
    · exact Or.inr ⟨k, hk, mMis_2 c _ hr z⟩
    · refine Or.inl ⟨k, hk, (mMis_all _ _).mpr (fun j hj => ?_)⟩
      by_cases e9 : j = r
      · rw [e9]; exact c
      · exact z j hj e9
  · intro q
    rcases q with ⟨k, hk, e⟩ | ⟨k, hk, e1, e2⟩
    · exact ⟨k, hk, oB_3.mpr (fun j hj _ => (mMis_all _ _).mp e j hj)⟩
    · exact ⟨k, hk, oB_3.mpr (fun j hj hn => mMis_1 _ e1 e2 j hj hn)⟩
theorem mOm_iff {g : fwH} {r w : Nat} : mAll (mOmB g r) w = false ↔ ∃ k, k < w ∧ g 29 0 k = 1 ∧ g 30 0 k = (r : Int) := by
  constructor
  · intro q
    apply Classical.byContradiction
    intro n
    have : mAll (mOmB g r) w = true := (mAll_iff _ _).mpr (fun k hk => decide_eq_true (fun e => n ⟨k, hk, e⟩))
    rw [this] at q
    cases q
  · intro ⟨k, hk, e⟩
    cases c : mAll (mOmB g r) w with
    | false => rfl
    | true => exact absurd e (of_decide_eq_true ((mAll_iff _ _).mp c k hk))
theorem mDou_w {g : fwH} {p : Int} {m : Int} {w : Nat} (hw : w = 21) (h7 : g 10 0 7 = p) (h6 : g 10 0 6 = m) : mDou g = if p ≠ 0 then m else mCnt (fun r => decide (mAll (mOmB g r) w = false)) m.toNat := by
  subst hw
  subst h7
  subst h6
  rfl
theorem mDb_dB {gg : fwH} {s w v : Nat} (hw : w = 21) (hv : v = 21) (h0 : 0 ≤ gg 35 0 s) : mDb gg s v = mCnt (dB gg s w) (gg 35 0 s / 3).toNat := by
  have e := mDou_w (g := ldH gg s v) (p := mPos gg s w) (m := gg 35 0 s / 3) hw (by rw [hw, ← hv]; rfl) rfl
  unfold mDb
  rw [e]
  by_cases c : mPos gg s w ≠ 0
  · rw [if_pos c, mCnt_all _ (fun j hj => (dB_or (by omega) hj).mpr (Or.inl c))]
    omega
  · rw [if_neg c]
    refine mCnt_c _ (fun j hj => ?_)
    rw [Bool.eq_iff_iff, decide_eq_true_iff, mOm_iff, dB_or (by omega) hj]
    exact ⟨fun ⟨k, a, b⟩ => Or.inr ⟨k, a, b⟩, fun q => by rcases q with q | q; exact absurd q c; exact q⟩
set_option maxRecDepth 100000 in
set_option maxHeartbeats 4000000 in
theorem c_X12_doubts {d : Nat} {h gg : fwH} {Q : Option fwV → fwH → Prop} (x : Int) (J : cOk gg) (R : jF gg h) (K : jA gg h) (hsh : sc h) (S : jS gg h) (hx : -2147483648 ≤ x ∧ x < 2147483648) (k : ∀ g, scr h g → Q (some (aI (an_doubts gg x))) g) : fwCt mX12_doubts (d + 7) [aR 12 0, aI x] h Q := by
  refine fwCt_of [some (aR 12 0), some (aI x), none, none, none] rfl rfl rfl ?_
  obtain ⟨hl, hP, hG, hM0, htd, hut, hlw, hhc, ha, hs, hT, hsc⟩ := id J
  have hb17 : hB (gg 17 0) := fun c hc => by have := hM0 c hc; omega
  obtain ⟨⟨g1, g2⟩, ⟨g3, g4⟩, ⟨g5, g6⟩, g7, -⟩ := id hG
  have h17_99 : ∀ c : Nat, (c : Int) < gg 4 0 1 → gg 17 0 c ≤ 99 := fun c hc => (hM0 c (by omega)).2
  have hpz := hP.1
  have hrs1 := R.2.2.2.2.2.2.2.2.2.2.2
  obtain ⟨w21, hw21⟩ : ∃ w : Nat, w = 21 := ⟨21, rfl⟩
  obtain ⟨n18, hn18⟩ : ∃ w : Nat, w = 18 := ⟨18, rfl⟩
  refine w_aload_n dX12_doubts_0 rfl ?_
  refine w_iload_n dX12_doubts_1 rfl ?_
  refine w_callV (d := d + 6) (S := []) [aI x] dX12_doubts_2 ml_X12_368 ok_X12_asksOld vi_X12_asksOld rfl rfl (by decide) rfl (Nat.le_of_ble_eq_true rfl) ?_
  refine c_X12_asksOld (d := d) x J R K S (by omega) ⟨fun hld => ?_, fun hld => ?_⟩
  · have hrn := mLdR_n gg x
    show fwWP mX12_doubts (d + 7) 5 [some (aR 12 0), some (aI x), none, none, none] [aI (mLdR gg x)] h Q
    refine w_istore_n [some (aR 12 0), some (aI x), some (aI (mLdR gg x)), none, none] dX12_doubts_5 rfl (by decide) ?_
    refine w_iload_n dX12_doubts_6 rfl ?_
    refine w_if_ge 12 dX12_doubts_7 (by decide) (by omega) (fun c7 => ?_) (fun c7 => ?_)
    · (exfalso; omega)
    · refine w_iload_n dX12_doubts_10 rfl ?_
      exact w_iretE dX12_doubts_11 rfl (by unfold an_doubts; rw [if_neg hld]) (k _ (scr_rf hsh))
  · intro A9 hA9
    show fwWP mX12_doubts (d + 7) 5 [some (aR 12 0), some (aI x), none, none, none] [aI 0] (fwUc h 42 0 A9) Q
    obtain ⟨s, rfl⟩ : ∃ s : Nat, x = (s : Int) := ⟨x.toNat, by omega⟩
    have hs35 := (hs s (by omega)).1
    have hz1 : gg 35 0 s ≠ -1 := hld.2.2.1
    have hz2 : gg 35 0 s % 3 = 0 := hld.2.2.2.1
    have hal : mAll (mSiP (gg 33 s) (gg 4 0 1)) (gg 35 0 s / 3).toNat = true := hld.2.2.2.2
    have hSl : oSl gg s := ⟨by omega, by omega, hz2, hal⟩
    refine w_istore_n [some (aR 12 0), some (aI (s : Int)), some (aI 0), none, none] dX12_doubts_5 rfl (by decide) ?_
    refine w_iload_n dX12_doubts_6 rfl ?_
    refine w_if_ge 12 dX12_doubts_7 (by decide) (by omega) (fun c7 => ?_) (fun c7 => ?_)
    · refine w_iconst dX12_doubts_12 ?_
      refine w_istore_n [some (aR 12 0), some (aI (s : Int)), some (aI 0), some (aI 0), none] dX12_doubts_13 rfl (by decide) ?_
      refine w_iconst dX12_doubts_14 ?_
      refine w_istore [some (aR 12 0), some (aI (s : Int)), some (aI 0), some (aI 0), some (aI 0)] dX12_doubts_15 rfl (by decide) ?_
      have lp17 : ∀ c : Nat, c ≤ (gg 35 0 s / 3).toNat → ∀ (nd y17 : Int) (A : Nat → Int), y17 = 3 * (c : Int) → nd = mCnt (dB gg s w21) c → hiR (gg 4 0 1) A (gg 17 0) → fwWP mX12_doubts (d + 7) 17 [some (aR 12 0), some (aI (s : Int)), some (aI 0), some (aI nd), some (aI y17)] [] (fwUc h 42 0 A) Q := by
        refine fw_up (fun c hc17 ih17 => ?_)
        intro nd y17 A ey17 end_ hA17
        subst ey17
        subst end_
        have hmr := mBits_21 (oB gg s (3 * (c : Int)))
        rw [← hw21] at hmr
        show fwWP mX12_doubts (d + 7) 17 [some (aR 12 0), some (aI (s : Int)), some (aI 0), some (aI (mCnt (dB gg s w21) c)), some (aI (3 * (c : Int)))] [] (fwUc h 42 0 A) Q
        refine w_iload dX12_doubts_17 rfl ?_
        refine w_aload_n dX12_doubts_19 rfl ?_
        refine w_getr 46 0 dX12_doubts_20 fl_X12_47 rfl (by decide) ?_
        refine w_iload_n dX12_doubts_23 rfl ?_
        refine w_ialdE (v := gg 35 0 s) dX12_doubts_24 rfl (by decide) (by omega) (by omega) (S s (by omega)).1 ?_
        refine w_icmp_ge 52 dX12_doubts_25 (by decide) (by omega) (by omega) (fun c25 => ?_) (fun c25 => ?_)
        · refine w_iload_n dX12_doubts_52 rfl ?_
          exact w_iretE dX12_doubts_53 rfl (by unfold an_doubts; rw [if_pos hld, Int.toNat_natCast, mDb_dB (w := w21) hw21 rfl (by omega), show (gg 35 0 s / 3).toNat = c by omega]) (k _ (scr_uc (scr_rf hsh) rfl (by decide) (by decide) (by decide)))
        · refine w_iload_n dX12_doubts_28 rfl ?_
          refine w_aload_n dX12_doubts_29 rfl ?_
          refine w_iload_n dX12_doubts_30 rfl ?_
          refine w_iload dX12_doubts_31 rfl ?_
          refine w_callV (d := d + 6) (S := [aI (mCnt (dB gg s w21) c)]) [aI (s : Int), aI (3 * (c : Int))] dX12_doubts_33 ml_X12_371 ok_X12_oldBy vi_X12_oldBy rfl rfl (by decide) rfl (Nat.le_of_ble_eq_true rfl) ?_
          refine c_s_oldE (d := (d + 2)) s w21 (3 * (c : Int)) hw21 J R S hs hSl hA17 (by omega) ?_
          intro A33_4 hA33_4; rw [fwUc_uc]
          show fwWP mX12_doubts (d + 7) 36 [some (aR 12 0), some (aI (s : Int)), some (aI 0), some (aI (mCnt (dB gg s w21) c)), some (aI (3 * (c : Int)))] [aI (mBits (oB gg s (3 * (c : Int))) w21), aI (mCnt (dB gg s w21) c)] (fwUc h 42 0 A33_4) Q
          refine w_if_eq 43 dX12_doubts_36 (by decide) (by omega) (fun c36 => ?_) (fun c36 => ?_)
          · refine w_iconst dX12_doubts_43 ?_
            refine w_iadd dX12_doubts_44 ?_
            refine w_istore_n [some (aR 12 0), some (aI (s : Int)), some (aI 0), some (aI ((mCnt (dB gg s w21) c) + 0)), some (aI (3 * (c : Int)))] dX12_doubts_45 rfl (by decide) ?_
            refine w_iinc [some (aR 12 0), some (aI (s : Int)), some (aI 0), some (aI ((mCnt (dB gg s w21) c) + 0)), some (aI ((3 * (c : Int)) + 3))] dX12_doubts_46 rfl rfl (by decide) ?_
            refine w_goto 17 dX12_doubts_49 (by decide) ?_
            exact ih17 (by omega) _ _ _ (by omega) (by rw [mCnt, if_neg (show ¬ dB gg s w21 c = true from fun q => of_decide_eq_true q c36)]; omega) hA33_4
          · refine w_iconst dX12_doubts_39 ?_
            refine w_goto 44 dX12_doubts_40 (by decide) ?_
            refine w_iadd dX12_doubts_44 ?_
            refine w_istore_n [some (aR 12 0), some (aI (s : Int)), some (aI 0), some (aI ((mCnt (dB gg s w21) c) + 1)), some (aI (3 * (c : Int)))] dX12_doubts_45 rfl (by decide) ?_
            refine w_iinc [some (aR 12 0), some (aI (s : Int)), some (aI 0), some (aI ((mCnt (dB gg s w21) c) + 1)), some (aI ((3 * (c : Int)) + 3))] dX12_doubts_46 rfl rfl (by decide) ?_
            refine w_goto 17 dX12_doubts_49 (by decide) ?_
            exact ih17 (by omega) _ _ _ (by omega) (by rw [mCnt, if_pos (show dB gg s w21 c = true from decide_eq_true c36)]) hA33_4
      exact lp17 0 (by omega) _ _ _ (by omega) rfl hA9
    · (exfalso; omega)
end
section
section PAIRSS
variable {d d2 : Nat} {e : fwH} {Q : Option fwV → fwH → Prop}
theorem prs_old (I : jI e) (x : Int) (hx : -2147483648 ≤ x ∧ x < 2147483648) (k : ∀ v g1, prM mX12_old (d2 + 7) [aI x] v g1 → Q (some (aI v)) g1) : fwCt mX11_old (d + 5) [aR 0 0, aI x] e Q :=
  c_X11_old x I.1 hx (fun g hg => k _ _ (fun Q2 k2 => c_X12_old (gg := e) x I.1 (jF_g I hg) (jA_g I hg) hg.2.2 (jS_g I hg) hx (fun g2 hg2 => k2 _ (jI_scr I (scr_tr hg hg2)))))
theorem prs_ask (I : jI e) (x : Int) (y : Int) (hx : -2147483648 ≤ x ∧ x < 2147483648) (hy : -2147483648 ≤ y ∧ y < 2147483648) (k : ∀ v g1, prM mX12_ask (d2 + 7) [aI x, aI y] v g1 → Q (some (aI v)) g1) : fwCt mX11_ask (d + 5) [aR 0 0, aI x, aI y] e Q :=
  c_X11_ask x y I.1 hx hy (fun g hg => k _ _ (fun Q2 k2 => c_X12_ask (gg := e) x y I.1 (jF_g I hg) (jA_g I hg) hg.2.2 (jS_g I hg) hx hy (fun g2 hg2 => k2 _ (jI_scr I (scr_tr hg hg2)))))
theorem prs_leaves (I : jI e) (x : Int) (y : Int) (hx : -2147483648 ≤ x ∧ x < 2147483648) (hy : -2147483648 ≤ y ∧ y < 2147483648) (k : ∀ v g1, prM mX12_leaves (d2 + 7) [aI x, aI y] v g1 → Q (some (aI v)) g1) : fwCt mX11_leaves (d + 5) [aR 0 0, aI x, aI y] e Q :=
  c_X11_leaves x y I.1 hx hy (fun g hg => k _ _ (fun Q2 k2 => c_X12_leaves (gg := e) x y I.1 (jF_g I hg) (jA_g I hg) hg.2.2 (jS_g I hg) hx hy (fun g2 hg2 => k2 _ (jI_scr I (scr_tr hg hg2)))))
theorem prs_doubts (I : jI e) (x : Int) (hx : -2147483648 ≤ x ∧ x < 2147483648) (k : ∀ v g1, prM mX12_doubts (d2 + 7) [aI x] v g1 → Q (some (aI v)) g1) : fwCt mX11_doubts (d + 5) [aR 0 0, aI x] e Q :=
  c_X11_doubts x I.1 hx (fun g hg => k _ _ (fun Q2 k2 => c_X12_doubts (gg := e) x I.1 (jF_g I hg) (jA_g I hg) hg.2.2 (jS_g I hg) hx (fun g2 hg2 => k2 _ (jI_scr I (scr_tr hg hg2)))))
end PAIRSS
end

set_option maxRecDepth 100000 in
set_option maxHeartbeats 4000000 in
theorem c_w_old {d : Nat} {h gg : fwH} {Q : Option fwV → fwH → Prop} (x : Int) (J : cOk gg) (R : jF gg h) (K : jA gg h) (hsh : sc h) (S : jS gg h) (hx : -2147483648 ≤ x ∧ x < 2147483648) (k : ∀ v g, scr h g → Q (some (aI v)) g) : fwCt mX12_old (d + 7) [aR 12 0, aI x] h Q := by
  refine fwCt_of [some (aR 12 0), some (aI x), none] rfl rfl rfl ?_
  obtain ⟨hl, hP, hG, hM0, htd, hut, hlw, hhc, ha, hs, hT, hsc⟩ := id J
  have hb17 : hB (gg 17 0) := fun c hc => by have := hM0 c hc; omega
  obtain ⟨⟨g1, g2⟩, ⟨g3, g4⟩, ⟨g5, g6⟩, g7, -⟩ := id hG
  have h17_99 : ∀ c : Nat, (c : Int) < gg 4 0 1 → gg 17 0 c ≤ 99 := fun c hc => (hM0 c (by omega)).2
  have hpz := hP.1
  have hrs1 := R.2.2.2.2.2.2.2.2.2.2.2
  refine w_aload_n dX12_old_0 rfl ?_
  refine w_iload_n dX12_old_1 rfl ?_
  refine w_callV (d := d + 6) (S := []) [aI x] dX12_old_2 ml_X12_368 ok_X12_asksOld vi_X12_asksOld rfl rfl (by decide) rfl (Nat.le_of_ble_eq_true rfl) ?_
  refine c_X12_asksOld (d := d) x J R K S (by omega) ⟨fun hld => ?_, fun hld => ?_⟩
  · have hrn := mLdR_n gg x
    show fwWP mX12_old (d + 7) 5 [some (aR 12 0), some (aI x), none] [aI (mLdR gg x)] h Q
    refine w_istore_n [some (aR 12 0), some (aI x), some (aI (mLdR gg x))] dX12_old_5 rfl (by decide) ?_
    refine w_iload_n dX12_old_6 rfl ?_
    refine w_if_ge 14 dX12_old_7 (by decide) (by omega) (fun c7 => ?_) (fun c7 => ?_)
    · (exfalso; omega)
    · refine w_iload_n dX12_old_10 rfl ?_
      refine w_goto 20 dX12_old_11 (by decide) ?_
      exact w_iret dX12_old_20 rfl (k _ _ (scr_rf hsh))
  · intro A9 hA9
    show fwWP mX12_old (d + 7) 5 [some (aR 12 0), some (aI x), none] [aI 0] (fwUc h 42 0 A9) Q
    obtain ⟨s, rfl⟩ : ∃ s : Nat, x = (s : Int) := ⟨x.toNat, by omega⟩
    have hs35 := (hs s (by omega)).1
    have hz1 : gg 35 0 s ≠ -1 := hld.2.2.1
    have hz2 : gg 35 0 s % 3 = 0 := hld.2.2.2.1
    have hal : mAll (mSiP (gg 33 s) (gg 4 0 1)) (gg 35 0 s / 3).toNat = true := hld.2.2.2.2
    have hSl : oSl gg s := ⟨by omega, by omega, hz2, hal⟩
    refine w_istore_n [some (aR 12 0), some (aI (s : Int)), some (aI 0)] dX12_old_5 rfl (by decide) ?_
    refine w_iload_n dX12_old_6 rfl ?_
    refine w_if_ge 14 dX12_old_7 (by decide) (by omega) (fun c7 => ?_) (fun c7 => ?_)
    · refine w_aload_n dX12_old_14 rfl ?_
      refine w_iload_n dX12_old_15 rfl ?_
      refine w_iconst dX12_old_16 ?_
      refine w_callV (d := d + 6) (S := []) [aI (s : Int), aI (-1)] dX12_old_17 ml_X12_371 ok_X12_oldBy vi_X12_oldBy rfl rfl (by decide) rfl (Nat.le_of_ble_eq_true rfl) ?_
      refine c_w_oldBy (d := (d + 2)) s (-1) J R S hs hSl hA9 (by omega) ?_
      intro v3 A17_3 hA17_3; rw [fwUc_uc]
      show fwWP mX12_old (d + 7) 20 [some (aR 12 0), some (aI (s : Int)), some (aI 0)] [aI v3] (fwUc h 42 0 A17_3) Q
      exact w_iret dX12_old_20 rfl (k _ _ (scr_uc (scr_rf hsh) rfl (by decide) (by decide) (by decide)))
    · (exfalso; omega)
set_option maxRecDepth 100000 in
set_option maxHeartbeats 4000000 in
theorem c_w_ask {d : Nat} {h gg : fwH} {Q : Option fwV → fwH → Prop} (x : Int) (y : Int) (J : cOk gg) (R : jF gg h) (K : jA gg h) (hsh : sc h) (S : jS gg h) (hx : -2147483648 ≤ x ∧ x < 2147483648) (hy : -2147483648 ≤ y ∧ y < 2147483648) (k : ∀ v g, scr h g → Q (some (aI v)) g) : fwCt mX12_ask (d + 7) [aR 12 0, aI x, aI y] h Q := by
  refine fwCt_of [some (aR 12 0), some (aI x), some (aI y), none] rfl rfl rfl ?_
  obtain ⟨hl, hP, hG, hM0, htd, hut, hlw, hhc, ha, hs, hT, hsc⟩ := id J
  have hb17 : hB (gg 17 0) := fun c hc => by have := hM0 c hc; omega
  obtain ⟨⟨g1, g2⟩, ⟨g3, g4⟩, ⟨g5, g6⟩, g7, -⟩ := id hG
  have h17_99 : ∀ c : Nat, (c : Int) < gg 4 0 1 → gg 17 0 c ≤ 99 := fun c hc => (hM0 c (by omega)).2
  have hpz := hP.1
  have hrs1 := R.2.2.2.2.2.2.2.2.2.2.2
  refine w_aload_n dX12_ask_0 rfl ?_
  refine w_iload_n dX12_ask_1 rfl ?_
  refine w_callV (d := d + 6) (S := []) [aI x] dX12_ask_2 ml_X12_368 ok_X12_asksOld vi_X12_asksOld rfl rfl (by decide) rfl (Nat.le_of_ble_eq_true rfl) ?_
  refine c_X12_asksOld (d := d) x J R K S (by omega) ⟨fun hld => ?_, fun hld => ?_⟩
  · have hrn := mLdR_n gg x
    show fwWP mX12_ask (d + 7) 5 [some (aR 12 0), some (aI x), some (aI y), none] [aI (mLdR gg x)] h Q
    refine w_istore_n [some (aR 12 0), some (aI x), some (aI y), some (aI (mLdR gg x))] dX12_ask_5 rfl (by decide) ?_
    refine w_iload_n dX12_ask_6 rfl ?_
    refine w_bipush dX12_ask_7 rfl ?_
    refine w_icmp_ne 26 dX12_ask_9 (by decide) (by omega) (by omega) (fun c9 => ?_) (fun c9 => ?_)
    · refine w_iload_n dX12_ask_26 rfl ?_
      refine w_if_ge 34 dX12_ask_27 (by decide) (by omega) (fun c27 => ?_) (fun c27 => ?_)
      · (exfalso; omega)
      · refine w_iload_n dX12_ask_30 rfl ?_
        refine w_goto 54 dX12_ask_31 (by decide) ?_
        exact w_iret dX12_ask_54 rfl (k _ _ (scr_rf hsh))
    · refine w_aload_n dX12_ask_12 rfl ?_
      refine w_iload_n dX12_ask_13 rfl ?_
      refine w_i2l dX12_ask_14 (by omega) ?_
      refine w_callV (d := d + 6) (S := []) [aJ y] dX12_ask_15 ml_X12_203 ok_X12_isCell vi_X12_isCell rfl rfl (by decide) rfl (Nat.le_of_ble_eq_true rfl) ?_
      refine c_X12_isCell (d := (d + 5)) y J R (by omega) ?_
      show fwWP mX12_ask (d + 7) 18 [some (aR 12 0), some (aI x), some (aI y), some (aI (mLdR gg x))] [aI (fwB (0 ≤ y ∧ y ≤ gg 4 0 1 - 1))] h Q
      refine w_ifB_ne 26 dX12_ask_18 (by decide) (fun c18 => ?_) (fun c18 => ?_)
      · refine w_iload_n dX12_ask_26 rfl ?_
        refine w_if_ge 34 dX12_ask_27 (by decide) (by omega) (fun c27 => ?_) (fun c27 => ?_)
        · (exfalso; omega)
        · refine w_iload_n dX12_ask_30 rfl ?_
          refine w_goto 54 dX12_ask_31 (by decide) ?_
          exact w_iret dX12_ask_54 rfl (k _ _ (scr_rf hsh))
      · refine w_bipush dX12_ask_21 rfl ?_
        refine w_goto 54 dX12_ask_23 (by decide) ?_
        exact w_iret dX12_ask_54 rfl (k _ _ (scr_rf hsh))
  · intro A9 hA9
    show fwWP mX12_ask (d + 7) 5 [some (aR 12 0), some (aI x), some (aI y), none] [aI 0] (fwUc h 42 0 A9) Q
    obtain ⟨s, rfl⟩ : ∃ s : Nat, x = (s : Int) := ⟨x.toNat, by omega⟩
    have hs35 := (hs s (by omega)).1
    have hz1 : gg 35 0 s ≠ -1 := hld.2.2.1
    have hz2 : gg 35 0 s % 3 = 0 := hld.2.2.2.1
    have hal : mAll (mSiP (gg 33 s) (gg 4 0 1)) (gg 35 0 s / 3).toNat = true := hld.2.2.2.2
    have hSl : oSl gg s := ⟨by omega, by omega, hz2, hal⟩
    refine w_istore_n [some (aR 12 0), some (aI (s : Int)), some (aI y), some (aI 0)] dX12_ask_5 rfl (by decide) ?_
    refine w_iload_n dX12_ask_6 rfl ?_
    refine w_bipush dX12_ask_7 rfl ?_
    refine w_icmp_ne 26 dX12_ask_9 (by decide) (by omega) (by omega) (fun c9 => ?_) (fun c9 => ?_)
    · refine w_iload_n dX12_ask_26 rfl ?_
      refine w_if_ge 34 dX12_ask_27 (by decide) (by omega) (fun c27 => ?_) (fun c27 => ?_)
      · refine w_aload_n dX12_ask_34 rfl ?_
        refine w_iload_n dX12_ask_35 rfl ?_
        refine w_i2l dX12_ask_36 (by omega) ?_
        refine w_callV (d := d + 6) (S := []) [aJ y] dX12_ask_37 ml_X12_203 ok_X12_isCell vi_X12_isCell rfl rfl (by decide) rfl (Nat.le_of_ble_eq_true rfl) ?_
        refine c_X12_isCell (d := (d + 5)) y J R (by omega) ?_
        show fwWP mX12_ask (d + 7) 40 [some (aR 12 0), some (aI (s : Int)), some (aI y), some (aI 0)] [aI (fwB (0 ≤ y ∧ y ≤ gg 4 0 1 - 1))] (fwUc h 42 0 A9) Q
        refine w_ifB_eq 52 dX12_ask_40 (by decide) (fun c40 => ?_) (fun c40 => ?_)
        · refine w_bipush dX12_ask_52 rfl ?_
          exact w_iret dX12_ask_54 rfl (k _ _ (scr_uc (scr_rf hsh) rfl (by decide) (by decide) (by decide)))
        · refine w_aload_n dX12_ask_43 rfl ?_
          refine w_iload_n dX12_ask_44 rfl ?_
          refine w_iload_n dX12_ask_45 rfl ?_
          refine w_callV (d := d + 6) (S := []) [aI (s : Int), aI y] dX12_ask_46 ml_X12_377 ok_X12_askOf vi_X12_askOf rfl rfl (by decide) rfl (Nat.le_of_ble_eq_true rfl) ?_
          refine c_w_askOf (d := (d + 1)) s y J R S hs hSl hA9 (by omega) ?_
          intro v8 A8 r8 hA8 hr8; rw [fwUc_uc]
          show fwWP mX12_ask (d + 7) 49 [some (aR 12 0), some (aI (s : Int)), some (aI y), some (aI 0)] [aI v8] (fwUc (fwUc h 42 0 A8) 12 0 r8) Q
          refine w_goto 54 dX12_ask_49 (by decide) ?_
          exact w_iret dX12_ask_54 rfl (k _ _ (scr_12 (scr_uc (scr_rf hsh) rfl (by decide) (by decide) (by decide)) hr8.1 hr8.2.1 hr8.2.2))
      · (exfalso; omega)
    · refine w_aload_n dX12_ask_12 rfl ?_
      refine w_iload_n dX12_ask_13 rfl ?_
      refine w_i2l dX12_ask_14 (by omega) ?_
      refine w_callV (d := d + 6) (S := []) [aJ y] dX12_ask_15 ml_X12_203 ok_X12_isCell vi_X12_isCell rfl rfl (by decide) rfl (Nat.le_of_ble_eq_true rfl) ?_
      refine c_X12_isCell (d := (d + 5)) y J R (by omega) ?_
      show fwWP mX12_ask (d + 7) 18 [some (aR 12 0), some (aI (s : Int)), some (aI y), some (aI 0)] [aI (fwB (0 ≤ y ∧ y ≤ gg 4 0 1 - 1))] (fwUc h 42 0 A9) Q
      refine w_ifB_ne 26 dX12_ask_18 (by decide) (fun c18 => ?_) (fun c18 => ?_)
      · refine w_iload_n dX12_ask_26 rfl ?_
        refine w_if_ge 34 dX12_ask_27 (by decide) (by omega) (fun c27 => ?_) (fun c27 => ?_)
        · refine w_aload_n dX12_ask_34 rfl ?_
          refine w_iload_n dX12_ask_35 rfl ?_
          refine w_i2l dX12_ask_36 (by omega) ?_
          refine w_callV (d := d + 6) (S := []) [aJ y] dX12_ask_37 ml_X12_203 ok_X12_isCell vi_X12_isCell rfl rfl (by decide) rfl (Nat.le_of_ble_eq_true rfl) ?_
          refine c_X12_isCell (d := (d + 5)) y J R (by omega) ?_
          show fwWP mX12_ask (d + 7) 40 [some (aR 12 0), some (aI (s : Int)), some (aI y), some (aI 0)] [aI (fwB (0 ≤ y ∧ y ≤ gg 4 0 1 - 1))] (fwUc h 42 0 A9) Q
          refine w_ifB_eq 52 dX12_ask_40 (by decide) (fun c40 => ?_) (fun c40 => ?_)
          · refine w_bipush dX12_ask_52 rfl ?_
            exact w_iret dX12_ask_54 rfl (k _ _ (scr_uc (scr_rf hsh) rfl (by decide) (by decide) (by decide)))
          · refine w_aload_n dX12_ask_43 rfl ?_
            refine w_iload_n dX12_ask_44 rfl ?_
            refine w_iload_n dX12_ask_45 rfl ?_
            refine w_callV (d := d + 6) (S := []) [aI (s : Int), aI y] dX12_ask_46 ml_X12_377 ok_X12_askOf vi_X12_askOf rfl rfl (by decide) rfl (Nat.le_of_ble_eq_true rfl) ?_
            refine c_w_askOf (d := (d + 1)) s y J R S hs hSl hA9 (by omega) ?_
            intro v12 A12 r12 hA12 hr12; rw [fwUc_uc]
            show fwWP mX12_ask (d + 7) 49 [some (aR 12 0), some (aI (s : Int)), some (aI y), some (aI 0)] [aI v12] (fwUc (fwUc h 42 0 A12) 12 0 r12) Q
            refine w_goto 54 dX12_ask_49 (by decide) ?_
            exact w_iret dX12_ask_54 rfl (k _ _ (scr_12 (scr_uc (scr_rf hsh) rfl (by decide) (by decide) (by decide)) hr12.1 hr12.2.1 hr12.2.2))
        · (exfalso; omega)
      · refine w_bipush dX12_ask_21 rfl ?_
        refine w_goto 54 dX12_ask_23 (by decide) ?_
        exact w_iret dX12_ask_54 rfl (k _ _ (scr_uc (scr_rf hsh) rfl (by decide) (by decide) (by decide)))
set_option maxRecDepth 100000 in
set_option maxHeartbeats 4000000 in
theorem c_w_leaves {d : Nat} {h gg : fwH} {Q : Option fwV → fwH → Prop} (x : Int) (y : Int) (J : cOk gg) (R : jF gg h) (K : jA gg h) (hsh : sc h) (S : jS gg h) (hx : -2147483648 ≤ x ∧ x < 2147483648) (hy : -2147483648 ≤ y ∧ y < 2147483648) (k : ∀ v g, scr h g → Q (some (aI v)) g) : fwCt mX12_leaves (d + 7) [aR 12 0, aI x, aI y] h Q := by
  refine fwCt_of [some (aR 12 0), some (aI x), some (aI y), none] rfl rfl rfl ?_
  obtain ⟨hl, hP, hG, hM0, htd, hut, hlw, hhc, ha, hs, hT, hsc⟩ := id J
  have hb17 : hB (gg 17 0) := fun c hc => by have := hM0 c hc; omega
  obtain ⟨⟨g1, g2⟩, ⟨g3, g4⟩, ⟨g5, g6⟩, g7, -⟩ := id hG
  have h17_99 : ∀ c : Nat, (c : Int) < gg 4 0 1 → gg 17 0 c ≤ 99 := fun c hc => (hM0 c (by omega)).2
  have hpz := hP.1
  have hrs1 := R.2.2.2.2.2.2.2.2.2.2.2
  refine w_aload_n dX12_leaves_0 rfl ?_
  refine w_iload_n dX12_leaves_1 rfl ?_
  refine w_callV (d := d + 6) (S := []) [aI x] dX12_leaves_2 ml_X12_368 ok_X12_asksOld vi_X12_asksOld rfl rfl (by decide) rfl (Nat.le_of_ble_eq_true rfl) ?_
  refine c_X12_asksOld (d := d) x J R K S (by omega) ⟨fun hld => ?_, fun hld => ?_⟩
  · have hrn := mLdR_n gg x
    show fwWP mX12_leaves (d + 7) 5 [some (aR 12 0), some (aI x), some (aI y), none] [aI (mLdR gg x)] h Q
    refine w_istore_n [some (aR 12 0), some (aI x), some (aI y), some (aI (mLdR gg x))] dX12_leaves_5 rfl (by decide) ?_
    refine w_iload_n dX12_leaves_6 rfl ?_
    refine w_if_lt 19 dX12_leaves_7 (by decide) (by omega) (fun c7 => ?_) (fun c7 => ?_)
    · refine w_iload_n dX12_leaves_19 rfl ?_
      refine w_bipush dX12_leaves_20 rfl ?_
      refine w_icmp_ne 39 dX12_leaves_22 (by decide) (by omega) (by omega) (fun c22 => ?_) (fun c22 => ?_)
      · refine w_bipush dX12_leaves_39 rfl ?_
        exact w_iret dX12_leaves_41 rfl (k _ _ (scr_rf hsh))
      · refine w_aload_n dX12_leaves_25 rfl ?_
        refine w_iload_n dX12_leaves_26 rfl ?_
        refine w_i2l dX12_leaves_27 (by omega) ?_
        refine w_callV (d := d + 6) (S := []) [aJ y] dX12_leaves_28 ml_X12_203 ok_X12_isCell vi_X12_isCell rfl rfl (by decide) rfl (Nat.le_of_ble_eq_true rfl) ?_
        refine c_X12_isCell (d := (d + 5)) y J R (by omega) ?_
        show fwWP mX12_leaves (d + 7) 31 [some (aR 12 0), some (aI x), some (aI y), some (aI (mLdR gg x))] [aI (fwB (0 ≤ y ∧ y ≤ gg 4 0 1 - 1))] h Q
        refine w_ifB_eq 39 dX12_leaves_31 (by decide) (fun c31 => ?_) (fun c31 => ?_)
        · refine w_bipush dX12_leaves_39 rfl ?_
          exact w_iret dX12_leaves_41 rfl (k _ _ (scr_rf hsh))
        · refine w_bipush dX12_leaves_34 rfl ?_
          refine w_goto 41 dX12_leaves_36 (by decide) ?_
          exact w_iret dX12_leaves_41 rfl (k _ _ (scr_rf hsh))
    · (exfalso; omega)
  · intro A9 hA9
    show fwWP mX12_leaves (d + 7) 5 [some (aR 12 0), some (aI x), some (aI y), none] [aI 0] (fwUc h 42 0 A9) Q
    obtain ⟨s, rfl⟩ : ∃ s : Nat, x = (s : Int) := ⟨x.toNat, by omega⟩
    have hs35 := (hs s (by omega)).1
    have hz1 : gg 35 0 s ≠ -1 := hld.2.2.1
    have hz2 : gg 35 0 s % 3 = 0 := hld.2.2.2.1
    have hal : mAll (mSiP (gg 33 s) (gg 4 0 1)) (gg 35 0 s / 3).toNat = true := hld.2.2.2.2
    have hSl : oSl gg s := ⟨by omega, by omega, hz2, hal⟩
    refine w_istore_n [some (aR 12 0), some (aI (s : Int)), some (aI y), some (aI 0)] dX12_leaves_5 rfl (by decide) ?_
    refine w_iload_n dX12_leaves_6 rfl ?_
    refine w_if_lt 19 dX12_leaves_7 (by decide) (by omega) (fun c7 => ?_) (fun c7 => ?_)
    · (exfalso; omega)
    · refine w_aload_n dX12_leaves_10 rfl ?_
      refine w_iload_n dX12_leaves_11 rfl ?_
      refine w_i2l dX12_leaves_12 (by omega) ?_
      refine w_callV (d := d + 6) (S := []) [aJ y] dX12_leaves_13 ml_X12_203 ok_X12_isCell vi_X12_isCell rfl rfl (by decide) rfl (Nat.le_of_ble_eq_true rfl) ?_
      refine c_X12_isCell (d := (d + 5)) y J R (by omega) ?_
      show fwWP mX12_leaves (d + 7) 16 [some (aR 12 0), some (aI (s : Int)), some (aI y), some (aI 0)] [aI (fwB (0 ≤ y ∧ y ≤ gg 4 0 1 - 1))] (fwUc h 42 0 A9) Q
      refine w_ifB_ne 42 dX12_leaves_16 (by decide) (fun c16 => ?_) (fun c16 => ?_)
      · refine w_aload_n dX12_leaves_42 rfl ?_
        refine w_iload_n dX12_leaves_43 rfl ?_
        refine w_iload_n dX12_leaves_44 rfl ?_
        refine w_callV (d := d + 6) (S := []) [aI (s : Int), aI y] dX12_leaves_45 ml_X12_377 ok_X12_askOf vi_X12_askOf rfl rfl (by decide) rfl (Nat.le_of_ble_eq_true rfl) ?_
        refine c_w_askOf (d := (d + 1)) s y J R S hs hSl hA9 (by omega) ?_
        intro v6 A6 r6 hA6 hr6; rw [fwUc_uc]
        show fwWP mX12_leaves (d + 7) 48 [some (aR 12 0), some (aI (s : Int)), some (aI y), some (aI 0)] [aI v6] (fwUc (fwUc h 42 0 A6) 12 0 r6) Q
        refine w_pop dX12_leaves_48 rfl ?_
        refine w_aload_n dX12_leaves_49 rfl ?_
        refine w_getiE (v := r6 21) dX12_leaves_50 fl_X12_374 rfl (by decide) rfl ?_
        exact w_iret dX12_leaves_53 rfl (k _ _ (scr_12 (scr_uc (scr_rf hsh) rfl (by decide) (by decide) (by decide)) hr6.1 hr6.2.1 hr6.2.2))
      · refine w_iload_n dX12_leaves_19 rfl ?_
        refine w_bipush dX12_leaves_20 rfl ?_
        refine w_icmp_ne 39 dX12_leaves_22 (by decide) (by omega) (by omega) (fun c22 => ?_) (fun c22 => ?_)
        · refine w_bipush dX12_leaves_39 rfl ?_
          exact w_iret dX12_leaves_41 rfl (k _ _ (scr_uc (scr_rf hsh) rfl (by decide) (by decide) (by decide)))
        · refine w_aload_n dX12_leaves_25 rfl ?_
          refine w_iload_n dX12_leaves_26 rfl ?_
          refine w_i2l dX12_leaves_27 (by omega) ?_
          refine w_callV (d := d + 6) (S := []) [aJ y] dX12_leaves_28 ml_X12_203 ok_X12_isCell vi_X12_isCell rfl rfl (by decide) rfl (Nat.le_of_ble_eq_true rfl) ?_
          refine c_X12_isCell (d := (d + 5)) y J R (by omega) ?_
          show fwWP mX12_leaves (d + 7) 31 [some (aR 12 0), some (aI (s : Int)), some (aI y), some (aI 0)] [aI (fwB (0 ≤ y ∧ y ≤ gg 4 0 1 - 1))] (fwUc h 42 0 A9) Q
          refine w_ifB_eq 39 dX12_leaves_31 (by decide) (fun c31 => ?_) (fun c31 => ?_)
          · refine w_bipush dX12_leaves_39 rfl ?_
            exact w_iret dX12_leaves_41 rfl (k _ _ (scr_uc (scr_rf hsh) rfl (by decide) (by decide) (by decide)))
          · refine w_bipush dX12_leaves_34 rfl ?_
            refine w_goto 41 dX12_leaves_36 (by decide) ?_
            exact w_iret dX12_leaves_41 rfl (k _ _ (scr_uc (scr_rf hsh) rfl (by decide) (by decide) (by decide)))
set_option maxRecDepth 100000 in
set_option maxHeartbeats 4000000 in
theorem c_w_doubts {d : Nat} {h gg : fwH} {Q : Option fwV → fwH → Prop} (x : Int) (J : cOk gg) (R : jF gg h) (K : jA gg h) (hsh : sc h) (S : jS gg h) (hx : -2147483648 ≤ x ∧ x < 2147483648) (k : ∀ v g, scr h g → Q (some (aI v)) g) : fwCt mX12_doubts (d + 7) [aR 12 0, aI x] h Q := by
  refine fwCt_of [some (aR 12 0), some (aI x), none, none, none] rfl rfl rfl ?_
  obtain ⟨hl, hP, hG, hM0, htd, hut, hlw, hhc, ha, hs, hT, hsc⟩ := id J
  have hb17 : hB (gg 17 0) := fun c hc => by have := hM0 c hc; omega
  obtain ⟨⟨g1, g2⟩, ⟨g3, g4⟩, ⟨g5, g6⟩, g7, -⟩ := id hG
  have h17_99 : ∀ c : Nat, (c : Int) < gg 4 0 1 → gg 17 0 c ≤ 99 := fun c hc => (hM0 c (by omega)).2
  have hpz := hP.1
  have hrs1 := R.2.2.2.2.2.2.2.2.2.2.2
  refine w_aload_n dX12_doubts_0 rfl ?_
  refine w_iload_n dX12_doubts_1 rfl ?_
  refine w_callV (d := d + 6) (S := []) [aI x] dX12_doubts_2 ml_X12_368 ok_X12_asksOld vi_X12_asksOld rfl rfl (by decide) rfl (Nat.le_of_ble_eq_true rfl) ?_
  refine c_X12_asksOld (d := d) x J R K S (by omega) ⟨fun hld => ?_, fun hld => ?_⟩
  · have hrn := mLdR_n gg x
    show fwWP mX12_doubts (d + 7) 5 [some (aR 12 0), some (aI x), none, none, none] [aI (mLdR gg x)] h Q
    refine w_istore_n [some (aR 12 0), some (aI x), some (aI (mLdR gg x)), none, none] dX12_doubts_5 rfl (by decide) ?_
    refine w_iload_n dX12_doubts_6 rfl ?_
    refine w_if_ge 12 dX12_doubts_7 (by decide) (by omega) (fun c7 => ?_) (fun c7 => ?_)
    · (exfalso; omega)
    · refine w_iload_n dX12_doubts_10 rfl ?_
      exact w_iret dX12_doubts_11 rfl (k _ _ (scr_rf hsh))
  · intro A9 hA9
    show fwWP mX12_doubts (d + 7) 5 [some (aR 12 0), some (aI x), none, none, none] [aI 0] (fwUc h 42 0 A9) Q
    obtain ⟨s, rfl⟩ : ∃ s : Nat, x = (s : Int) := ⟨x.toNat, by omega⟩
    have hs35 := (hs s (by omega)).1
    have hz1 : gg 35 0 s ≠ -1 := hld.2.2.1
    have hz2 : gg 35 0 s % 3 = 0 := hld.2.2.2.1
    have hal : mAll (mSiP (gg 33 s) (gg 4 0 1)) (gg 35 0 s / 3).toNat = true := hld.2.2.2.2
    have hSl : oSl gg s := ⟨by omega, by omega, hz2, hal⟩
    refine w_istore_n [some (aR 12 0), some (aI (s : Int)), some (aI 0), none, none] dX12_doubts_5 rfl (by decide) ?_
    refine w_iload_n dX12_doubts_6 rfl ?_
    refine w_if_ge 12 dX12_doubts_7 (by decide) (by omega) (fun c7 => ?_) (fun c7 => ?_)
    · refine w_iconst dX12_doubts_12 ?_
      refine w_istore_n [some (aR 12 0), some (aI (s : Int)), some (aI 0), some (aI 0), none] dX12_doubts_13 rfl (by decide) ?_
      refine w_iconst dX12_doubts_14 ?_
      refine w_istore [some (aR 12 0), some (aI (s : Int)), some (aI 0), some (aI 0), some (aI 0)] dX12_doubts_15 rfl (by decide) ?_
      have lp17 : ∀ c : Nat, c ≤ (gg 35 0 s / 3).toNat → ∀ (nd y17 : Int) (A : Nat → Int), y17 = 3 * (c : Int) → hiR (gg 4 0 1) A (gg 17 0) → fwWP mX12_doubts (d + 7) 17 [some (aR 12 0), some (aI (s : Int)), some (aI 0), some (aI nd), some (aI y17)] [] (fwUc h 42 0 A) Q := by
        refine fw_up (fun c hc17 ih17 => ?_)
        intro nd y17 A ey17 hA17
        subst ey17
        show fwWP mX12_doubts (d + 7) 17 [some (aR 12 0), some (aI (s : Int)), some (aI 0), some (aI nd), some (aI (3 * (c : Int)))] [] (fwUc h 42 0 A) Q
        refine w_iload dX12_doubts_17 rfl ?_
        refine w_aload_n dX12_doubts_19 rfl ?_
        refine w_getr 46 0 dX12_doubts_20 fl_X12_47 rfl (by decide) ?_
        refine w_iload_n dX12_doubts_23 rfl ?_
        refine w_ialdE (v := gg 35 0 s) dX12_doubts_24 rfl (by decide) (by omega) (by omega) (S s (by omega)).1 ?_
        refine w_icmp_ge 52 dX12_doubts_25 (by decide) (by omega) (by omega) (fun c25 => ?_) (fun c25 => ?_)
        · refine w_iload_n dX12_doubts_52 rfl ?_
          exact w_iret dX12_doubts_53 rfl (k _ _ (scr_uc (scr_rf hsh) rfl (by decide) (by decide) (by decide)))
        · refine w_iload_n dX12_doubts_28 rfl ?_
          refine w_aload_n dX12_doubts_29 rfl ?_
          refine w_iload_n dX12_doubts_30 rfl ?_
          refine w_iload dX12_doubts_31 rfl ?_
          refine w_callV (d := d + 6) (S := [aI nd]) [aI (s : Int), aI (3 * (c : Int))] dX12_doubts_33 ml_X12_371 ok_X12_oldBy vi_X12_oldBy rfl rfl (by decide) rfl (Nat.le_of_ble_eq_true rfl) ?_
          refine c_w_oldBy (d := (d + 2)) s (3 * (c : Int)) J R S hs hSl hA17 (by omega) ?_
          intro v4 A33_4 hA33_4; rw [fwUc_uc]
          show fwWP mX12_doubts (d + 7) 36 [some (aR 12 0), some (aI (s : Int)), some (aI 0), some (aI nd), some (aI (3 * (c : Int)))] [aI v4, aI nd] (fwUc h 42 0 A33_4) Q
          refine w_ifF_eq 43 dX12_doubts_36 (by decide) ?_ ?_
          · refine w_iconst dX12_doubts_43 ?_
            refine w_iadd dX12_doubts_44 ?_
            refine w_istore_n [some (aR 12 0), some (aI (s : Int)), some (aI 0), some (aI (nd + 0)), some (aI (3 * (c : Int)))] dX12_doubts_45 rfl (by decide) ?_
            refine w_iinc [some (aR 12 0), some (aI (s : Int)), some (aI 0), some (aI (nd + 0)), some (aI ((3 * (c : Int)) + 3))] dX12_doubts_46 rfl rfl (by decide) ?_
            refine w_goto 17 dX12_doubts_49 (by decide) ?_
            exact ih17 (by omega) _ _ _ (by omega) hA33_4
          · refine w_iconst dX12_doubts_39 ?_
            refine w_goto 44 dX12_doubts_40 (by decide) ?_
            refine w_iadd dX12_doubts_44 ?_
            refine w_istore_n [some (aR 12 0), some (aI (s : Int)), some (aI 0), some (aI (nd + 1)), some (aI (3 * (c : Int)))] dX12_doubts_45 rfl (by decide) ?_
            refine w_iinc [some (aR 12 0), some (aI (s : Int)), some (aI 0), some (aI (nd + 1)), some (aI ((3 * (c : Int)) + 3))] dX12_doubts_46 rfl rfl (by decide) ?_
            refine w_goto 17 dX12_doubts_49 (by decide) ?_
            exact ih17 (by omega) _ _ _ (by omega) hA33_4
      exact lp17 0 (by omega) _ _ _ (by omega) hA9
    · (exfalso; omega)
set_option maxRecDepth 100000 in
set_option maxHeartbeats 4000000 in
theorem c_w_asksNames0 {d : Nat} {h gg : fwH} {Q : Option fwV → fwH → Prop} (x : Int) (J : cOk gg) (R : jF gg h) (S : jS gg h) (hx : -2147483648 ≤ x ∧ x < 2147483648) (k : Q (some (aI (-2))) h) : fwCt mX12_asksNames (d + 2) [aR 12 0, aI x, aI 0] h Q := by
  refine fwCt_of [some (aR 12 0), some (aI x), some (aI 0), none] rfl rfl rfl ?_
  obtain ⟨hl, hP, hG, -, -, -, hlw, -, ha, hs, -, hsc⟩ := id J
  obtain ⟨⟨g1, g2⟩, ⟨g3, g4⟩, ⟨g5, g6⟩, g7, -⟩ := id hG
  have hpz := hP.1
  refine w_iload_n dX12_asksNames_0 rfl ?_
  refine w_callS (d := d + 1) (S := []) [aI x] dX12_asksNames_1 ml_X12_357 ok_X12_isSlot st_X12_isSlot rfl (Nat.le_of_ble_eq_true rfl) ?_
  refine c_X12_isSlot (d := d) x (by omega) ?_
  show fwWP mX12_asksNames (d + 2) 4 [some (aR 12 0), some (aI x), some (aI 0), none] [aI (fwB (0 ≤ x ∧ x ≤ 3))] h Q
  refine w_ifB_eq 18 dX12_asksNames_4 (by decide) (fun c4 => ?_) (fun c4 => ?_)
  · refine w_bipush dX12_asksNames_18 rfl ?_
    exact w_iret dX12_asksNames_20 rfl k
  · refine w_aload_n dX12_asksNames_7 rfl ?_
    refine w_callV (d := d + 1) (S := []) [] dX12_asksNames_8 ml_X12_73 ok_X12_isMount vi_X12_isMount rfl rfl (by decide) rfl (Nat.le_of_ble_eq_true rfl) ?_
    refine c_X12_isMount (d := (d + 1)) J R ?_
    show fwWP mX12_asksNames (d + 2) 11 [some (aR 12 0), some (aI x), some (aI 0), none] [aI (fwB (0 < gg 3 0 6))] h Q
    refine w_ifB_eq 18 dX12_asksNames_11 (by decide) (fun c11 => ?_) (fun c11 => ?_)
    · refine w_bipush dX12_asksNames_18 rfl ?_
      exact w_iret dX12_asksNames_20 rfl k
    · refine w_iload_n dX12_asksNames_14 rfl ?_
      refine w_if_ne 21 dX12_asksNames_15 (by decide) (by omega) (fun c15 => ?_) (fun c15 => ?_)
      · (exfalso; omega)
      · refine w_bipush dX12_asksNames_18 rfl ?_
        exact w_iret dX12_asksNames_20 rfl k
theorem c_w_askN {d : Nat} {h gg : fwH} {Q : Option fwV → fwH → Prop} {P : Prop} [Decidable P] (x : Int) (J : cOk gg) (R : jF gg h) (S : jS gg h) (hx : -2147483648 ≤ x ∧ x < 2147483648) (k1 : ∀ v : Int, (v = -6 ∨ v = -2) → Q (some (aI v)) h) (k2 : mRl gg x → P → Q (some (aI 0)) h) : fwCt mX12_asksNames (d + 2) [aR 12 0, aI x, aI (fwB P)] h Q := by
  by_cases p : P
  · rw [fwB_t p]
    exact c_X12_asksNames x J R S hx ⟨fun _ => k1 _ (mRlR_n gg x), fun r => k2 r p⟩
  · rw [fwB_f p]
    exact c_w_asksNames0 x J R S hx (k1 _ (Or.inr rfl))
set_option maxRecDepth 100000 in
set_option maxHeartbeats 4000000 in
theorem c_w_struck {d : Nat} {h gg : fwH} {Q : Option fwV → fwH → Prop} (x : Int) (y : Int) (J : cOk gg) (R : jF gg h) (K : jA gg h) (hsh : sc h) (S : jS gg h) (hx : -2147483648 ≤ x ∧ x < 2147483648) (hy : -2147483648 ≤ y ∧ y < 2147483648) (k : ∀ v g, scr h g → Q (some (aI v)) g) : fwCt mX12_struck (d + 3) [aR 12 0, aI x, aI y] h Q := by
  refine fwCt_of [some (aR 12 0), some (aI x), some (aI y), none, none, none] rfl rfl rfl ?_
  obtain ⟨hl, hP, hG, hM0, htd, hut, hlw, hhc, ha, hs, hT, hsc⟩ := id J
  have hb17 : hB (gg 17 0) := fun c hc => by have := hM0 c hc; omega
  obtain ⟨⟨g1, g2⟩, ⟨g3, g4⟩, ⟨g5, g6⟩, g7, -⟩ := id hG
  have h17_99 : ∀ c : Nat, (c : Int) < gg 4 0 1 → gg 17 0 c ≤ 99 := fun c hc => (hM0 c (by omega)).2
  have hpz := hP.1
  have hrs1 := R.2.2.2.2.2.2.2.2.2.2.2
  refine w_aload_n dX12_struck_0 rfl ?_
  refine w_iload_n dX12_struck_1 rfl ?_
  refine w_iload_n dX12_struck_2 rfl ?_
  refine w_i2l dX12_struck_3 (by omega) ?_
  refine w_lconst (z := 0) dX12_struck_4 rfl ?_
  refine w_lconst (z := 1) dX12_struck_5 rfl ?_
  refine w_callS (d := d + 2) (S := [aI x, aR 12 0]) [aJ y, aJ 0, aJ 1] dX12_struck_6 ml_X12_65 ok_X12_in st_X12_in rfl (Nat.le_of_ble_eq_true rfl) ?_
  refine c_X12_in (d := (d + 2)) y 0 1 (by omega) (by omega) (by omega) ?_
  show fwWP mX12_struck (d + 3) 9 [some (aR 12 0), some (aI x), some (aI y), none, none, none] [aI (fwB (0 ≤ y ∧ y ≤ 1)), aI x, aR 12 0] h Q
  refine w_callV (d := d + 2) (S := []) [aI x, aI (fwB (0 ≤ y ∧ y ≤ 1))] dX12_struck_9 ml_X12_380 ok_X12_asksNames vi_X12_asksNames rfl rfl (by decide) rfl (Nat.le_of_ble_eq_true rfl) ?_
  refine c_w_askN (d := d) x J R S (by omega) ?_ ?_
  · intro vn hvn
    show fwWP mX12_struck (d + 3) 12 [some (aR 12 0), some (aI x), some (aI y), none, none, none] [aI vn] h Q
    refine w_istore_n [some (aR 12 0), some (aI x), some (aI y), some (aI vn), none, none] dX12_struck_12 rfl (by decide) ?_
    refine w_iload_n dX12_struck_13 rfl ?_
    refine w_if_ge 19 dX12_struck_14 (by decide) (by omega) (fun c14 => ?_) (fun c14 => ?_)
    · (exfalso; omega)
    · refine w_iload_n dX12_struck_17 rfl ?_
      exact w_iret dX12_struck_18 rfl (k _ _ (scr_rf hsh))
  · intro hrl hwh
    show fwWP mX12_struck (d + 3) 12 [some (aR 12 0), some (aI x), some (aI y), none, none, none] [aI 0] h Q
    obtain ⟨s, rfl⟩ : ∃ s : Nat, x = (s : Int) := ⟨x.toNat, by omega⟩
    have hs35 := (hs s (by omega)).1
    have hz1 : gg 35 0 s ≠ -1 := hrl.2.2.1
    have hz2 : gg 35 0 s % 2 = 0 := hrl.2.2.2.1
    have hal : mAll (mRollP (gg 33 s) (gg 5 0 3)) (gg 35 0 s / 2).toNat = true := hrl.2.2.2.2
    refine w_istore_n [some (aR 12 0), some (aI (s : Int)), some (aI y), some (aI 0), none, none] dX12_struck_12 rfl (by decide) ?_
    refine w_iload_n dX12_struck_13 rfl ?_
    refine w_if_ge 19 dX12_struck_14 (by decide) (by omega) (fun c14 => ?_) (fun c14 => ?_)
    · refine w_iconst dX12_struck_19 ?_
      refine w_istore [some (aR 12 0), some (aI (s : Int)), some (aI y), some (aI 0), some (aI 0), none] dX12_struck_20 rfl (by decide) ?_
      refine w_iconst dX12_struck_22 ?_
      refine w_istore [some (aR 12 0), some (aI (s : Int)), some (aI y), some (aI 0), some (aI 0), some (aI 0)] dX12_struck_23 rfl (by decide) ?_
      have lp25 : ∀ c : Nat, c ≤ (gg 35 0 s / 2).toNat → ∀ (y25 nv : Int), y25 = 2 * (c : Int) → True → fwWP mX12_struck (d + 3) 25 [some (aR 12 0), some (aI (s : Int)), some (aI y), some (aI 0), some (aI nv), some (aI y25)] [] h Q := by
        refine fw_up (fun c hc25 ih25 => ?_)
        intro y25 nv ey25 e_nv
        subst ey25
        show fwWP mX12_struck (d + 3) 25 [some (aR 12 0), some (aI (s : Int)), some (aI y), some (aI 0), some (aI nv), some (aI (2 * (c : Int)))] [] h Q
        refine w_iload dX12_struck_25 rfl ?_
        refine w_aload_n dX12_struck_27 rfl ?_
        refine w_getr 46 0 dX12_struck_28 fl_X12_47 rfl (by decide) ?_
        refine w_iload_n dX12_struck_31 rfl ?_
        refine w_ialdE (v := gg 35 0 s) dX12_struck_32 rfl (by decide) (by omega) (by omega) (S s (by omega)).1 ?_
        refine w_icmp_ge 95 dX12_struck_33 (by decide) (by omega) (by omega) (fun c33 => ?_) (fun c33 => ?_)
        · refine w_iload dX12_struck_95 rfl ?_
          exact w_iret dX12_struck_97 rfl (k _ _ (scr_rf hsh))
        · have hrp := of_decide_eq_true ((mAll_iff _ _).mp hal c (by omega))
          refine w_iload dX12_struck_36 rfl ?_
          refine w_iload_n dX12_struck_38 rfl ?_
          refine w_iconst dX12_struck_39 ?_
          refine w_icmp_ne 61 dX12_struck_40 (by decide) (by omega) (by omega) (fun c40 => ?_) (fun c40 => ?_)
          · refine w_aload_n dX12_struck_61 rfl ?_
            refine w_iload_n dX12_struck_62 rfl ?_
            refine w_iload dX12_struck_63 rfl ?_
            refine w_callV (d := d + 2) (S := [aI nv]) [aI (s : Int), aI (2 * (c : Int))] dX12_struck_65 ml_X12_384 ok_X12_hasName vi_X12_hasName rfl rfl (by decide) rfl (Nat.le_of_ble_eq_true rfl) ?_
            refine c_X12_hasName (d := (d + 1)) s c J R S (by omega) (by omega) (by omega) ?_
            show fwWP mX12_struck (d + 3) 68 [some (aR 12 0), some (aI (s : Int)), some (aI y), some (aI 0), some (aI nv), some (aI (2 * (c : Int)))] [aI (fwB (gg 33 s (2 * c + 1) < gg 18 0 (7 * (gg 33 s (2 * c)).toNat + 1))), aI nv] h Q
            refine w_ifB_eq 85 dX12_struck_68 (by decide) (fun c68 => ?_) (fun c68 => ?_)
            · refine w_iconst dX12_struck_85 ?_
              refine w_iadd dX12_struck_86 ?_
              refine w_istore [some (aR 12 0), some (aI (s : Int)), some (aI y), some (aI 0), some (aI (nv + 0)), some (aI (2 * (c : Int)))] dX12_struck_87 rfl (by decide) ?_
              refine w_iinc [some (aR 12 0), some (aI (s : Int)), some (aI y), some (aI 0), some (aI (nv + 0)), some (aI ((2 * (c : Int)) + 2))] dX12_struck_89 rfl rfl (by decide) ?_
              refine w_goto 25 dX12_struck_92 (by decide) ?_
              refine ih25 (by omega) _ _ ?_ ?_
              · exact (by omega)
              · exact trivial
            · refine w_aload_n dX12_struck_71 rfl ?_
              refine w_iload_n dX12_struck_72 rfl ?_
              refine w_iload dX12_struck_73 rfl ?_
              refine w_callV (d := d + 2) (S := [aI nv]) [aI (s : Int), aI (2 * (c : Int))] dX12_struck_75 ml_X12_387 ok_X12_isThere vi_X12_isThere rfl rfl (by decide) rfl (Nat.le_of_ble_eq_true rfl) ?_
              refine c_X12_isThere (d := (d + 1)) s c S hs (by omega) (by omega) ?_
              show fwWP mX12_struck (d + 3) 78 [some (aR 12 0), some (aI (s : Int)), some (aI y), some (aI 0), some (aI nv), some (aI (2 * (c : Int)))] [aI (fwB (¬ mAll (mNew (gg 33 s) c) c = true)), aI nv] h Q
              refine w_ifB_eq 85 dX12_struck_78 (by decide) (fun c78 => ?_) (fun c78 => ?_)
              · refine w_iconst dX12_struck_85 ?_
                refine w_iadd dX12_struck_86 ?_
                refine w_istore [some (aR 12 0), some (aI (s : Int)), some (aI y), some (aI 0), some (aI (nv + 0)), some (aI (2 * (c : Int)))] dX12_struck_87 rfl (by decide) ?_
                refine w_iinc [some (aR 12 0), some (aI (s : Int)), some (aI y), some (aI 0), some (aI (nv + 0)), some (aI ((2 * (c : Int)) + 2))] dX12_struck_89 rfl rfl (by decide) ?_
                refine w_goto 25 dX12_struck_92 (by decide) ?_
                refine ih25 (by omega) _ _ ?_ ?_
                · exact (by omega)
                · exact trivial
              · refine w_iconst dX12_struck_81 ?_
                refine w_goto 86 dX12_struck_82 (by decide) ?_
                refine w_iadd dX12_struck_86 ?_
                refine w_istore [some (aR 12 0), some (aI (s : Int)), some (aI y), some (aI 0), some (aI (nv + 1)), some (aI (2 * (c : Int)))] dX12_struck_87 rfl (by decide) ?_
                refine w_iinc [some (aR 12 0), some (aI (s : Int)), some (aI y), some (aI 0), some (aI (nv + 1)), some (aI ((2 * (c : Int)) + 2))] dX12_struck_89 rfl rfl (by decide) ?_
                refine w_goto 25 dX12_struck_92 (by decide) ?_
                refine ih25 (by omega) _ _ ?_ ?_
                · exact (by omega)
                · exact trivial
          · refine w_aload_n dX12_struck_43 rfl ?_
            refine w_iload_n dX12_struck_44 rfl ?_
            refine w_iload dX12_struck_45 rfl ?_
            refine w_callV (d := d + 2) (S := [aI nv]) [aI (s : Int), aI (2 * (c : Int))] dX12_struck_47 ml_X12_384 ok_X12_hasName vi_X12_hasName rfl rfl (by decide) rfl (Nat.le_of_ble_eq_true rfl) ?_
            refine c_X12_hasName (d := (d + 1)) s c J R S (by omega) (by omega) (by omega) ?_
            show fwWP mX12_struck (d + 3) 50 [some (aR 12 0), some (aI (s : Int)), some (aI y), some (aI 0), some (aI nv), some (aI (2 * (c : Int)))] [aI (fwB (gg 33 s (2 * c + 1) < gg 18 0 (7 * (gg 33 s (2 * c)).toNat + 1))), aI nv] h Q
            refine w_ifB_eq 57 dX12_struck_50 (by decide) (fun c50 => ?_) (fun c50 => ?_)
            · refine w_iconst dX12_struck_57 ?_
              refine w_goto 86 dX12_struck_58 (by decide) ?_
              refine w_iadd dX12_struck_86 ?_
              refine w_istore [some (aR 12 0), some (aI (s : Int)), some (aI y), some (aI 0), some (aI (nv + 1)), some (aI (2 * (c : Int)))] dX12_struck_87 rfl (by decide) ?_
              refine w_iinc [some (aR 12 0), some (aI (s : Int)), some (aI y), some (aI 0), some (aI (nv + 1)), some (aI ((2 * (c : Int)) + 2))] dX12_struck_89 rfl rfl (by decide) ?_
              refine w_goto 25 dX12_struck_92 (by decide) ?_
              refine ih25 (by omega) _ _ ?_ ?_
              · exact (by omega)
              · exact trivial
            · refine w_iconst dX12_struck_53 ?_
              refine w_goto 86 dX12_struck_54 (by decide) ?_
              refine w_iadd dX12_struck_86 ?_
              refine w_istore [some (aR 12 0), some (aI (s : Int)), some (aI y), some (aI 0), some (aI (nv + 0)), some (aI (2 * (c : Int)))] dX12_struck_87 rfl (by decide) ?_
              refine w_iinc [some (aR 12 0), some (aI (s : Int)), some (aI y), some (aI 0), some (aI (nv + 0)), some (aI ((2 * (c : Int)) + 2))] dX12_struck_89 rfl rfl (by decide) ?_
              refine w_goto 25 dX12_struck_92 (by decide) ?_
              refine ih25 (by omega) _ _ ?_ ?_
              · exact (by omega)
              · exact trivial
      refine lp25 0 (Nat.zero_le _) _ _ ?_ ?_
      · exact (by omega)
      · exact trivial
    · (exfalso; omega)

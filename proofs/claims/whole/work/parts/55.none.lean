theorem c_asksOld0 {d : Nat} {h gg : fwH} {Q : Option fwV → fwH → Prop} (x : Int) (J : cOk gg) (R : jF gg h) (K : jA gg h) (S : jS gg h) (hm : ¬ 0 < gg 3 0 6) (hx : -2147483648 ≤ x ∧ x < 2147483648) (k : Q (some (aI (-2))) h) : fwCt mX12_asksOld (d + 6) [aR 12 0, aI x] h Q := by
  refine c_X12_asksOld x J R K S hx ⟨fun _ => ?_, fun q => absurd q.2.1 hm⟩
  rw [show mLdR gg x = -2 from if_neg (fun q => hm q.2.1)]
  exact k
set_option maxRecDepth 100000 in
set_option maxHeartbeats 4000000 in
theorem c_no_elected {d : Nat} {h gg : fwH} {Q : Option fwV → fwH → Prop}  (J : cOk gg) (R : jF gg h) (hm : ¬ 0 < gg 3 0 6)  (k : Q (some (aI (-2))) h) : fwCt mX12_elected (d + 1) [aR 12 0] h Q := by
  refine fwCt_of [some (aR 12 0), none, none, none] rfl rfl rfl ?_
  obtain ⟨hl, hP, hG, -, -, -, hlw, -, ha, hs, -, hsc⟩ := id J
  obtain ⟨⟨g1, g2⟩, ⟨g3, g4⟩, ⟨g5, g6⟩, g7, -⟩ := id hG
  have hpz := hP.1
  have h41 : gg 4 0 1 = 0 := (J.2.2.2.2.2.1 (by omega)).1
  refine w_aload_n dX12_elected_0 rfl ?_
  refine w_callV (d := d + 0) (S := []) [] dX12_elected_1 ml_X12_73 ok_X12_isMount vi_X12_isMount rfl rfl (by decide) rfl (Nat.le_of_ble_eq_true rfl) ?_
  refine c_X12_isMount (d := d) J R ?_
  show fwWP mX12_elected (d + 1) 4 [some (aR 12 0), none, none, none] [aI (fwB (0 < gg 3 0 6))] h Q
  refine w_ifB_ne 10 dX12_elected_4 (by decide) (fun c4 => ?_) (fun c4 => ?_)
  · (exfalso; omega)
  · refine w_bipush dX12_elected_7 rfl ?_
    exact w_iret dX12_elected_9 rfl k
set_option maxRecDepth 100000 in
set_option maxHeartbeats 4000000 in
theorem c_no_shape {d : Nat} {h gg : fwH} {Q : Option fwV → fwH → Prop} (x : Int) (J : cOk gg) (R : jF gg h) (hm : ¬ 0 < gg 3 0 6) (hx : -2147483648 ≤ x ∧ x < 2147483648) (k : Q (some (aI (-2))) h) : fwCt mX12_shape (d + 2) [aR 12 0, aI x] h Q := by
  refine fwCt_of [some (aR 12 0), some (aI x), none] rfl rfl rfl ?_
  obtain ⟨hl, hP, hG, -, -, -, hlw, -, ha, hs, -, hsc⟩ := id J
  obtain ⟨⟨g1, g2⟩, ⟨g3, g4⟩, ⟨g5, g6⟩, g7, -⟩ := id hG
  have hpz := hP.1
  have h41 : gg 4 0 1 = 0 := (J.2.2.2.2.2.1 (by omega)).1
  refine w_aload_n dX12_shape_0 rfl ?_
  refine w_callV (d := d + 1) (S := []) [] dX12_shape_1 ml_X12_73 ok_X12_isMount vi_X12_isMount rfl rfl (by decide) rfl (Nat.le_of_ble_eq_true rfl) ?_
  refine c_X12_isMount (d := (d + 1)) J R ?_
  show fwWP mX12_shape (d + 2) 4 [some (aR 12 0), some (aI x), none] [aI (fwB (0 < gg 3 0 6))] h Q
  refine w_ifB_eq 19 dX12_shape_4 (by decide) (fun c4 => ?_) (fun c4 => ?_)
  · refine w_bipush dX12_shape_19 rfl ?_
    exact w_iret dX12_shape_21 rfl k
  · (exfalso; omega)
set_option maxRecDepth 100000 in
set_option maxHeartbeats 4000000 in
theorem c_no_shaped {d : Nat} {h gg : fwH} {Q : Option fwV → fwH → Prop} (x : Int) (y : Int) (J : cOk gg) (R : jF gg h) (hm : ¬ 0 < gg 3 0 6) (hx : -2147483648 ≤ x ∧ x < 2147483648) (hy : -2147483648 ≤ y ∧ y < 2147483648) (k : Q (some (aI (-2))) h) : fwCt mX12_shaped (d + 2) [aR 12 0, aI x, aI y] h Q := by
  refine fwCt_of [some (aR 12 0), some (aI x), some (aI y)] rfl rfl rfl ?_
  obtain ⟨hl, hP, hG, -, -, -, hlw, -, ha, hs, -, hsc⟩ := id J
  obtain ⟨⟨g1, g2⟩, ⟨g3, g4⟩, ⟨g5, g6⟩, g7, -⟩ := id hG
  have hpz := hP.1
  have h41 : gg 4 0 1 = 0 := (J.2.2.2.2.2.1 (by omega)).1
  refine w_aload_n dX12_shaped_0 rfl ?_
  refine w_callV (d := d + 1) (S := []) [] dX12_shaped_1 ml_X12_73 ok_X12_isMount vi_X12_isMount rfl rfl (by decide) rfl (Nat.le_of_ble_eq_true rfl) ?_
  refine c_X12_isMount (d := (d + 1)) J R ?_
  show fwWP mX12_shaped (d + 2) 4 [some (aR 12 0), some (aI x), some (aI y)] [aI (fwB (0 < gg 3 0 6))] h Q
  refine w_ifB_eq 30 dX12_shaped_4 (by decide) (fun c4 => ?_) (fun c4 => ?_)
  · refine w_bipush dX12_shaped_30 rfl ?_
    exact w_iret dX12_shaped_32 rfl k
  · (exfalso; omega)
set_option maxRecDepth 100000 in
set_option maxHeartbeats 4000000 in
theorem c_no_play {d : Nat} {h gg : fwH} {Q : Option fwV → fwH → Prop} (x : Int) (y : Int) (J : cOk gg) (R : jF gg h) (hm : ¬ 0 < gg 3 0 6) (hx : -2147483648 ≤ x ∧ x < 2147483648) (hy : -2147483648 ≤ y ∧ y < 2147483648) (k : Q (some (aI (-2))) h) : fwCt mX12_play (d + 2) [aR 12 0, aI x, aI y] h Q := by
  refine fwCt_of [some (aR 12 0), some (aI x), some (aI y)] rfl rfl rfl ?_
  obtain ⟨hl, hP, hG, -, -, -, hlw, -, ha, hs, -, hsc⟩ := id J
  obtain ⟨⟨g1, g2⟩, ⟨g3, g4⟩, ⟨g5, g6⟩, g7, -⟩ := id hG
  have hpz := hP.1
  have h41 : gg 4 0 1 = 0 := (J.2.2.2.2.2.1 (by omega)).1
  refine w_aload_n dX12_play_0 rfl ?_
  refine w_callV (d := d + 1) (S := []) [] dX12_play_1 ml_X12_73 ok_X12_isMount vi_X12_isMount rfl rfl (by decide) rfl (Nat.le_of_ble_eq_true rfl) ?_
  refine c_X12_isMount (d := (d + 1)) J R ?_
  show fwWP mX12_play (d + 2) 4 [some (aR 12 0), some (aI x), some (aI y)] [aI (fwB (0 < gg 3 0 6))] h Q
  refine w_ifB_eq 46 dX12_play_4 (by decide) (fun c4 => ?_) (fun c4 => ?_)
  · refine w_bipush dX12_play_46 rfl ?_
    exact w_iret dX12_play_48 rfl k
  · (exfalso; omega)
set_option maxRecDepth 100000 in
set_option maxHeartbeats 4000000 in
theorem c_no_moves {d : Nat} {h gg : fwH} {Q : Option fwV → fwH → Prop} (x : Int) (y : Int) (J : cOk gg) (R : jF gg h) (hm : ¬ 0 < gg 3 0 6) (hx : -2147483648 ≤ x ∧ x < 2147483648) (hy : -2147483648 ≤ y ∧ y < 2147483648) (k : Q (some (aI (-2))) h) : fwCt mX12_moves (d + 2) [aR 12 0, aI x, aI y] h Q := by
  refine fwCt_of [some (aR 12 0), some (aI x), some (aI y), none, none] rfl rfl rfl ?_
  obtain ⟨hl, hP, hG, -, -, -, hlw, -, ha, hs, -, hsc⟩ := id J
  obtain ⟨⟨g1, g2⟩, ⟨g3, g4⟩, ⟨g5, g6⟩, g7, -⟩ := id hG
  have hpz := hP.1
  have h41 : gg 4 0 1 = 0 := (J.2.2.2.2.2.1 (by omega)).1
  refine w_aload_n dX12_moves_0 rfl ?_
  refine w_callV (d := d + 1) (S := []) [] dX12_moves_1 ml_X12_73 ok_X12_isMount vi_X12_isMount rfl rfl (by decide) rfl (Nat.le_of_ble_eq_true rfl) ?_
  refine c_X12_isMount (d := (d + 1)) J R ?_
  show fwWP mX12_moves (d + 2) 4 [some (aR 12 0), some (aI x), some (aI y), none, none] [aI (fwB (0 < gg 3 0 6))] h Q
  refine w_ifB_eq 29 dX12_moves_4 (by decide) (fun c4 => ?_) (fun c4 => ?_)
  · refine w_bipush dX12_moves_29 rfl ?_
    exact w_iret dX12_moves_31 rfl k
  · (exfalso; omega)
set_option maxRecDepth 100000 in
set_option maxHeartbeats 4000000 in
theorem c_no_round {d : Nat} {h gg : fwH} {Q : Option fwV → fwH → Prop} (x : Int) (y : Int) (J : cOk gg) (R : jF gg h) (hm : ¬ 0 < gg 3 0 6) (hx : -2147483648 ≤ x ∧ x < 2147483648) (hy : -2147483648 ≤ y ∧ y < 2147483648) (k : Q (some (aI (-2))) h) : fwCt mX12_round (d + 3) [aR 12 0, aI x, aI y] h Q := by
  refine fwCt_of [some (aR 12 0), some (aI x), some (aI y), none] rfl rfl rfl ?_
  obtain ⟨hl, hP, hG, -, -, -, hlw, -, ha, hs, -, hsc⟩ := id J
  obtain ⟨⟨g1, g2⟩, ⟨g3, g4⟩, ⟨g5, g6⟩, g7, -⟩ := id hG
  have hpz := hP.1
  have h41 : gg 4 0 1 = 0 := (J.2.2.2.2.2.1 (by omega)).1
  refine w_aload_n dX12_round_0 rfl ?_
  refine w_iload_n dX12_round_1 rfl ?_
  refine w_iload_n dX12_round_2 rfl ?_
  refine w_callV (d := d + 2) (S := []) [aI x, aI y] dX12_round_3 ml_X12_311 ok_X12_isRound vi_X12_isRound rfl rfl (by decide) rfl (Nat.le_of_ble_eq_true rfl) ?_
  refine c_X12_isRound (d := d) x y J R (by omega) (by omega) ?_
  show fwWP mX12_round (d + 3) 6 [some (aR 12 0), some (aI x), some (aI y), none] [aI (fwB ((0 ≤ x ∧ x ≤ gg 4 0 1 - 1) ∧ 1 ≤ y ∧ y ≤ 800))] h Q
  refine w_ifB_ne 12 dX12_round_6 (by decide) (fun c6 => ?_) (fun c6 => ?_)
  · (exfalso; omega)
  · refine w_bipush dX12_round_9 rfl ?_
    exact w_iret dX12_round_11 rfl k
set_option maxRecDepth 100000 in
set_option maxHeartbeats 4000000 in
theorem c_no_goes {d : Nat} {h gg : fwH} {Q : Option fwV → fwH → Prop} (x : Int) (y : Int) (z : Int) (J : cOk gg) (R : jF gg h) (hm : ¬ 0 < gg 3 0 6) (hx : -2147483648 ≤ x ∧ x < 2147483648) (hy : -2147483648 ≤ y ∧ y < 2147483648) (hz : -2147483648 ≤ z ∧ z < 2147483648) (k : Q (some (aI (-2))) h) : fwCt mX12_goes (d + 3) [aR 12 0, aI x, aI y, aI z] h Q := by
  refine fwCt_of [some (aR 12 0), some (aI x), some (aI y), some (aI z)] rfl rfl rfl ?_
  obtain ⟨hl, hP, hG, -, -, -, hlw, -, ha, hs, -, hsc⟩ := id J
  obtain ⟨⟨g1, g2⟩, ⟨g3, g4⟩, ⟨g5, g6⟩, g7, -⟩ := id hG
  have hpz := hP.1
  have h41 : gg 4 0 1 = 0 := (J.2.2.2.2.2.1 (by omega)).1
  refine w_aload_n dX12_goes_0 rfl ?_
  refine w_iload_n dX12_goes_1 rfl ?_
  refine w_iload_n dX12_goes_2 rfl ?_
  refine w_callV (d := d + 2) (S := []) [aI x, aI y] dX12_goes_3 ml_X12_311 ok_X12_isRound vi_X12_isRound rfl rfl (by decide) rfl (Nat.le_of_ble_eq_true rfl) ?_
  refine c_X12_isRound (d := d) x y J R (by omega) (by omega) ?_
  show fwWP mX12_goes (d + 3) 6 [some (aR 12 0), some (aI x), some (aI y), some (aI z)] [aI (fwB ((0 ≤ x ∧ x ≤ gg 4 0 1 - 1) ∧ 1 ≤ y ∧ y ≤ 800))] h Q
  refine w_ifB_eq 19 dX12_goes_6 (by decide) (fun c6 => ?_) (fun c6 => ?_)
  · refine w_bipush dX12_goes_19 rfl ?_
    exact w_iret dX12_goes_21 rfl k
  · (exfalso; omega)
set_option maxRecDepth 100000 in
set_option maxHeartbeats 4000000 in
theorem c_no_two {d : Nat} {h gg : fwH} {Q : Option fwV → fwH → Prop} (x : Int) (y : Int) (z : Int) (J : cOk gg) (R : jF gg h) (hm : ¬ 0 < gg 3 0 6) (hx : -2147483648 ≤ x ∧ x < 2147483648) (hy : -2147483648 ≤ y ∧ y < 2147483648) (hz : -2147483648 ≤ z ∧ z < 2147483648) (k : Q (some (aI (-2))) h) : fwCt mX12_two (d + 3) [aR 12 0, aI x, aI y, aI z] h Q := by
  refine fwCt_of [some (aR 12 0), some (aI x), some (aI y), some (aI z), none, none, none, none, none, none] rfl rfl rfl ?_
  obtain ⟨hl, hP, hG, -, -, -, hlw, -, ha, hs, -, hsc⟩ := id J
  obtain ⟨⟨g1, g2⟩, ⟨g3, g4⟩, ⟨g5, g6⟩, g7, -⟩ := id hG
  have hpz := hP.1
  have h41 : gg 4 0 1 = 0 := (J.2.2.2.2.2.1 (by omega)).1
  refine w_aload_n dX12_two_0 rfl ?_
  refine w_iload_n dX12_two_1 rfl ?_
  refine w_iload_n dX12_two_2 rfl ?_
  refine w_callV (d := d + 2) (S := []) [aI x, aI z] dX12_two_3 ml_X12_311 ok_X12_isRound vi_X12_isRound rfl rfl (by decide) rfl (Nat.le_of_ble_eq_true rfl) ?_
  refine c_X12_isRound (d := d) x z J R (by omega) (by omega) ?_
  show fwWP mX12_two (d + 3) 6 [some (aR 12 0), some (aI x), some (aI y), some (aI z), none, none, none, none, none, none] [aI (fwB ((0 ≤ x ∧ x ≤ gg 4 0 1 - 1) ∧ 1 ≤ z ∧ z ≤ 800))] h Q
  refine w_ifB_eq 18 dX12_two_6 (by decide) (fun c6 => ?_) (fun c6 => ?_)
  · refine w_bipush dX12_two_18 rfl ?_
    exact w_iret dX12_two_20 rfl k
  · (exfalso; omega)
set_option maxRecDepth 100000 in
set_option maxHeartbeats 4000000 in
theorem c_no_old {d : Nat} {h gg : fwH} {Q : Option fwV → fwH → Prop} (x : Int) (J : cOk gg) (R : jF gg h) (K : jA gg h) (S : jS gg h) (hm : ¬ 0 < gg 3 0 6) (hx : -2147483648 ≤ x ∧ x < 2147483648) (k : Q (some (aI (-2))) h) : fwCt mX12_old (d + 7) [aR 12 0, aI x] h Q := by
  refine fwCt_of [some (aR 12 0), some (aI x), none] rfl rfl rfl ?_
  obtain ⟨hl, hP, hG, hM0, htd, hut, hlw, hhc, ha, hs, hT, hsc⟩ := id J
  have hb17 : hB (gg 17 0) := fun c hc => by have := hM0 c hc; omega
  obtain ⟨⟨g1, g2⟩, ⟨g3, g4⟩, ⟨g5, g6⟩, g7, -⟩ := id hG
  have h17_99 : ∀ c : Nat, (c : Int) < gg 4 0 1 → gg 17 0 c ≤ 99 := fun c hc => (hM0 c (by omega)).2
  have hpz := hP.1
  have hrs1 := R.2.2.2.2.2.2.2.2.2.2.2
  have h41 : gg 4 0 1 = 0 := (J.2.2.2.2.2.1 (by omega)).1
  refine w_aload_n dX12_old_0 rfl ?_
  refine w_iload_n dX12_old_1 rfl ?_
  refine w_callV (d := d + 6) (S := []) [aI x] dX12_old_2 ml_X12_368 ok_X12_asksOld vi_X12_asksOld rfl rfl (by decide) rfl (Nat.le_of_ble_eq_true rfl) ?_
  refine c_asksOld0 (d := d) x J R K S hm (by omega) ?_
  show fwWP mX12_old (d + 7) 5 [some (aR 12 0), some (aI x), none] [aI (-2)] h Q
  refine w_istore_n [some (aR 12 0), some (aI x), some (aI (-2))] dX12_old_5 rfl (by decide) ?_
  refine w_iload_n dX12_old_6 rfl ?_
  refine w_if_ge 14 dX12_old_7 (by decide) (by omega) (fun c7 => ?_) (fun c7 => ?_)
  · (exfalso; omega)
  · refine w_iload_n dX12_old_10 rfl ?_
    refine w_goto 20 dX12_old_11 (by decide) ?_
    exact w_iret dX12_old_20 rfl k
set_option maxRecDepth 100000 in
set_option maxHeartbeats 4000000 in
theorem c_no_ask {d : Nat} {h gg : fwH} {Q : Option fwV → fwH → Prop} (x : Int) (y : Int) (J : cOk gg) (R : jF gg h) (K : jA gg h) (S : jS gg h) (hm : ¬ 0 < gg 3 0 6) (hx : -2147483648 ≤ x ∧ x < 2147483648) (hy : -2147483648 ≤ y ∧ y < 2147483648) (k : Q (some (aI (-2))) h) : fwCt mX12_ask (d + 7) [aR 12 0, aI x, aI y] h Q := by
  refine fwCt_of [some (aR 12 0), some (aI x), some (aI y), none] rfl rfl rfl ?_
  obtain ⟨hl, hP, hG, hM0, htd, hut, hlw, hhc, ha, hs, hT, hsc⟩ := id J
  have hb17 : hB (gg 17 0) := fun c hc => by have := hM0 c hc; omega
  obtain ⟨⟨g1, g2⟩, ⟨g3, g4⟩, ⟨g5, g6⟩, g7, -⟩ := id hG
  have h17_99 : ∀ c : Nat, (c : Int) < gg 4 0 1 → gg 17 0 c ≤ 99 := fun c hc => (hM0 c (by omega)).2
  have hpz := hP.1
  have hrs1 := R.2.2.2.2.2.2.2.2.2.2.2
  have h41 : gg 4 0 1 = 0 := (J.2.2.2.2.2.1 (by omega)).1
  refine w_aload_n dX12_ask_0 rfl ?_
  refine w_iload_n dX12_ask_1 rfl ?_
  refine w_callV (d := d + 6) (S := []) [aI x] dX12_ask_2 ml_X12_368 ok_X12_asksOld vi_X12_asksOld rfl rfl (by decide) rfl (Nat.le_of_ble_eq_true rfl) ?_
  refine c_asksOld0 (d := d) x J R K S hm (by omega) ?_
  show fwWP mX12_ask (d + 7) 5 [some (aR 12 0), some (aI x), some (aI y), none] [aI (-2)] h Q
  refine w_istore_n [some (aR 12 0), some (aI x), some (aI y), some (aI (-2))] dX12_ask_5 rfl (by decide) ?_
  refine w_iload_n dX12_ask_6 rfl ?_
  refine w_bipush dX12_ask_7 rfl ?_
  refine w_icmp_ne 26 dX12_ask_9 (by decide) (by omega) (by omega) (fun c9 => ?_) (fun c9 => ?_)
  · refine w_iload_n dX12_ask_26 rfl ?_
    refine w_if_ge 34 dX12_ask_27 (by decide) (by omega) (fun c27 => ?_) (fun c27 => ?_)
    · (exfalso; omega)
    · refine w_iload_n dX12_ask_30 rfl ?_
      refine w_goto 54 dX12_ask_31 (by decide) ?_
      exact w_iret dX12_ask_54 rfl k
  · (exfalso; omega)
set_option maxRecDepth 100000 in
set_option maxHeartbeats 4000000 in
theorem c_no_leaves {d : Nat} {h gg : fwH} {Q : Option fwV → fwH → Prop} (x : Int) (y : Int) (J : cOk gg) (R : jF gg h) (K : jA gg h) (S : jS gg h) (hm : ¬ 0 < gg 3 0 6) (hx : -2147483648 ≤ x ∧ x < 2147483648) (hy : -2147483648 ≤ y ∧ y < 2147483648) (k : Q (some (aI (-2))) h) : fwCt mX12_leaves (d + 7) [aR 12 0, aI x, aI y] h Q := by
  refine fwCt_of [some (aR 12 0), some (aI x), some (aI y), none] rfl rfl rfl ?_
  obtain ⟨hl, hP, hG, hM0, htd, hut, hlw, hhc, ha, hs, hT, hsc⟩ := id J
  have hb17 : hB (gg 17 0) := fun c hc => by have := hM0 c hc; omega
  obtain ⟨⟨g1, g2⟩, ⟨g3, g4⟩, ⟨g5, g6⟩, g7, -⟩ := id hG
  have h17_99 : ∀ c : Nat, (c : Int) < gg 4 0 1 → gg 17 0 c ≤ 99 := fun c hc => (hM0 c (by omega)).2
  have hpz := hP.1
  have hrs1 := R.2.2.2.2.2.2.2.2.2.2.2
  have h41 : gg 4 0 1 = 0 := (J.2.2.2.2.2.1 (by omega)).1
  refine w_aload_n dX12_leaves_0 rfl ?_
  refine w_iload_n dX12_leaves_1 rfl ?_
  refine w_callV (d := d + 6) (S := []) [aI x] dX12_leaves_2 ml_X12_368 ok_X12_asksOld vi_X12_asksOld rfl rfl (by decide) rfl (Nat.le_of_ble_eq_true rfl) ?_
  refine c_asksOld0 (d := d) x J R K S hm (by omega) ?_
  show fwWP mX12_leaves (d + 7) 5 [some (aR 12 0), some (aI x), some (aI y), none] [aI (-2)] h Q
  refine w_istore_n [some (aR 12 0), some (aI x), some (aI y), some (aI (-2))] dX12_leaves_5 rfl (by decide) ?_
  refine w_iload_n dX12_leaves_6 rfl ?_
  refine w_if_lt 19 dX12_leaves_7 (by decide) (by omega) (fun c7 => ?_) (fun c7 => ?_)
  · refine w_iload_n dX12_leaves_19 rfl ?_
    refine w_bipush dX12_leaves_20 rfl ?_
    refine w_icmp_ne 39 dX12_leaves_22 (by decide) (by omega) (by omega) (fun c22 => ?_) (fun c22 => ?_)
    · refine w_bipush dX12_leaves_39 rfl ?_
      exact w_iret dX12_leaves_41 rfl k
    · (exfalso; omega)
  · (exfalso; omega)
set_option maxRecDepth 100000 in
set_option maxHeartbeats 4000000 in
theorem c_no_doubts {d : Nat} {h gg : fwH} {Q : Option fwV → fwH → Prop} (x : Int) (J : cOk gg) (R : jF gg h) (K : jA gg h) (S : jS gg h) (hm : ¬ 0 < gg 3 0 6) (hx : -2147483648 ≤ x ∧ x < 2147483648) (k : Q (some (aI (-2))) h) : fwCt mX12_doubts (d + 7) [aR 12 0, aI x] h Q := by
  refine fwCt_of [some (aR 12 0), some (aI x), none, none, none] rfl rfl rfl ?_
  obtain ⟨hl, hP, hG, hM0, htd, hut, hlw, hhc, ha, hs, hT, hsc⟩ := id J
  have hb17 : hB (gg 17 0) := fun c hc => by have := hM0 c hc; omega
  obtain ⟨⟨g1, g2⟩, ⟨g3, g4⟩, ⟨g5, g6⟩, g7, -⟩ := id hG
  have h17_99 : ∀ c : Nat, (c : Int) < gg 4 0 1 → gg 17 0 c ≤ 99 := fun c hc => (hM0 c (by omega)).2
  have hpz := hP.1
  have hrs1 := R.2.2.2.2.2.2.2.2.2.2.2
  have h41 : gg 4 0 1 = 0 := (J.2.2.2.2.2.1 (by omega)).1
  refine w_aload_n dX12_doubts_0 rfl ?_
  refine w_iload_n dX12_doubts_1 rfl ?_
  refine w_callV (d := d + 6) (S := []) [aI x] dX12_doubts_2 ml_X12_368 ok_X12_asksOld vi_X12_asksOld rfl rfl (by decide) rfl (Nat.le_of_ble_eq_true rfl) ?_
  refine c_asksOld0 (d := d) x J R K S hm (by omega) ?_
  show fwWP mX12_doubts (d + 7) 5 [some (aR 12 0), some (aI x), none, none, none] [aI (-2)] h Q
  refine w_istore_n [some (aR 12 0), some (aI x), some (aI (-2)), none, none] dX12_doubts_5 rfl (by decide) ?_
  refine w_iload_n dX12_doubts_6 rfl ?_
  refine w_if_ge 12 dX12_doubts_7 (by decide) (by omega) (fun c7 => ?_) (fun c7 => ?_)
  · (exfalso; omega)
  · refine w_iload_n dX12_doubts_10 rfl ?_
    exact w_iret dX12_doubts_11 rfl k
set_option maxRecDepth 100000 in
set_option maxHeartbeats 4000000 in
theorem c_no_asksNames {d : Nat} {h gg : fwH} {Q : Option fwV → fwH → Prop} (x z : Int) (J : cOk gg) (R : jF gg h) (hm : ¬ 0 < gg 3 0 6) (hx : -2147483648 ≤ x ∧ x < 2147483648) (k : Q (some (aI (-2))) h) : fwCt mX12_asksNames (d + 2) [aR 12 0, aI x, aI z] h Q := by
  refine fwCt_of [some (aR 12 0), some (aI x), some (aI z), none] rfl rfl rfl ?_
  obtain ⟨hl, hP, hG, -, -, -, hlw, -, ha, hs, -, hsc⟩ := id J
  obtain ⟨⟨g1, g2⟩, ⟨g3, g4⟩, ⟨g5, g6⟩, g7, -⟩ := id hG
  have hpz := hP.1
  refine w_iload_n dX12_asksNames_0 rfl ?_
  refine w_callS (d := d + 1) (S := []) [aI x] dX12_asksNames_1 ml_X12_357 ok_X12_isSlot st_X12_isSlot rfl (Nat.le_of_ble_eq_true rfl) ?_
  refine c_X12_isSlot (d := d) x (by omega) ?_
  show fwWP mX12_asksNames (d + 2) 4 [some (aR 12 0), some (aI x), some (aI z), none] [aI (fwB (0 ≤ x ∧ x ≤ 3))] h Q
  refine w_ifB_eq 18 dX12_asksNames_4 (by decide) (fun c4 => ?_) (fun c4 => ?_)
  · refine w_bipush dX12_asksNames_18 rfl ?_
    exact w_iret dX12_asksNames_20 rfl k
  · refine w_aload_n dX12_asksNames_7 rfl ?_
    refine w_callV (d := d + 1) (S := []) [] dX12_asksNames_8 ml_X12_73 ok_X12_isMount vi_X12_isMount rfl rfl (by decide) rfl (Nat.le_of_ble_eq_true rfl) ?_
    refine c_X12_isMount (d := (d + 1)) J R ?_
    show fwWP mX12_asksNames (d + 2) 11 [some (aR 12 0), some (aI x), some (aI z), none] [aI (fwB (0 < gg 3 0 6))] h Q
    refine w_ifB_eq 18 dX12_asksNames_11 (by decide) (fun c11 => ?_) (fun c11 => ?_)
    · refine w_bipush dX12_asksNames_18 rfl ?_
      exact w_iret dX12_asksNames_20 rfl k
    · (exfalso; omega)
set_option maxRecDepth 100000 in
set_option maxHeartbeats 4000000 in
theorem c_no_struck {d : Nat} {h gg : fwH} {Q : Option fwV → fwH → Prop} (x : Int) (y : Int) (J : cOk gg) (R : jF gg h) (hm : ¬ 0 < gg 3 0 6) (hx : -2147483648 ≤ x ∧ x < 2147483648) (hy : -2147483648 ≤ y ∧ y < 2147483648) (k : Q (some (aI (-2))) h) : fwCt mX12_struck (d + 3) [aR 12 0, aI x, aI y] h Q := by
  refine fwCt_of [some (aR 12 0), some (aI x), some (aI y), none, none, none] rfl rfl rfl ?_
  obtain ⟨hl, hP, hG, -, -, -, hlw, -, ha, hs, -, hsc⟩ := id J
  obtain ⟨⟨g1, g2⟩, ⟨g3, g4⟩, ⟨g5, g6⟩, g7, -⟩ := id hG
  have hpz := hP.1
  have h41 : gg 4 0 1 = 0 := (J.2.2.2.2.2.1 (by omega)).1
  refine w_aload_n dX12_struck_0 rfl ?_
  refine w_iload_n dX12_struck_1 rfl ?_
  refine w_iload_n dX12_struck_2 rfl ?_
  refine w_i2l dX12_struck_3 (by omega) ?_
  refine w_lconst (z := 0) dX12_struck_4 rfl ?_
  refine w_lconst (z := 1) dX12_struck_5 rfl ?_
  refine w_callS (d := d + 2) (S := [aI x, aR 12 0]) [aJ y, aJ 0, aJ 1] dX12_struck_6 ml_X12_65 ok_X12_in st_X12_in rfl (Nat.le_of_ble_eq_true rfl) ?_
  refine c_X12_in (d := (d + 2)) y 0 1 (by omega) (by omega) (by omega) ?_
  show fwWP mX12_struck (d + 3) 9 [some (aR 12 0), some (aI x), some (aI y), none, none, none] [aI (fwB (0 ≤ y ∧ y ≤ 1)), aI x, aR 12 0] h Q
  refine w_callV (d := d + 2) (S := []) [aI x, aI (fwB (0 ≤ y ∧ y ≤ 1))] dX12_struck_9 ml_X12_380 ok_X12_asksNames vi_X12_asksNames rfl rfl (by decide) rfl (Nat.le_of_ble_eq_true rfl) ?_
  refine c_no_asksNames (d := d) x (fwB (0 ≤ y ∧ y ≤ 1)) J R hm (by omega) ?_
  show fwWP mX12_struck (d + 3) 12 [some (aR 12 0), some (aI x), some (aI y), none, none, none] [aI (-2)] h Q
  refine w_istore_n [some (aR 12 0), some (aI x), some (aI y), some (aI (-2)), none, none] dX12_struck_12 rfl (by decide) ?_
  refine w_iload_n dX12_struck_13 rfl ?_
  refine w_if_ge 19 dX12_struck_14 (by decide) (by omega) (fun c14 => ?_) (fun c14 => ?_)
  · (exfalso; omega)
  · refine w_iload_n dX12_struck_17 rfl ?_
    exact w_iret dX12_struck_18 rfl k
set_option maxRecDepth 100000 in
set_option maxHeartbeats 4000000 in
theorem c_no_paste {d : Nat} {h : fwH} {Q : Option fwV → fwH → Prop} (x y z u n : Int) (hm4 : ∀ s : Nat, s < 4 → h 46 0 s = -1) (hx : -2147483648 ≤ x ∧ x < 2147483648) (hy : -2147483648 ≤ y ∧ y < 2147483648) (hz : -2147483648 ≤ z ∧ z < 2147483648) (hu : -2147483648 ≤ u ∧ u < 2147483648) (hn : -2147483648 ≤ n ∧ n < 2147483648) (k : (¬ ((0 ≤ x ∧ x < 4) ∧ 0 ≤ z ∧ z < 4) → Q (some (aI (-2))) h) ∧ (((0 ≤ x ∧ x < 4) ∧ 0 ≤ z ∧ z < 4) → Q (some (aI (-6))) h)) : fwCt mX12_paste (d + 2) [aR 12 0, aI x, aI y, aI z, aI u, aI n] h Q := by
  refine fwCt_of [some (aR 12 0), some (aI x), some (aI y), some (aI z), some (aI u), some (aI n), none] rfl rfl rfl ?_
  refine w_iload_n dX12_paste_0 rfl ?_
  refine w_callS (d := d + 1) (S := []) [aI x] dX12_paste_1 ml_X12_357 ok_X12_isSlot st_X12_isSlot rfl (Nat.le_of_ble_eq_true rfl) ?_
  refine c_X12_isSlot (d := d) x (by omega) ?_
  show fwWP mX12_paste (d + 2) 4 [some (aR 12 0), some (aI x), some (aI y), some (aI z), some (aI u), some (aI n), none] [aI (fwB (0 ≤ x ∧ x ≤ 3))] h Q
  refine w_ifB_eq 14 dX12_paste_4 (by decide) (fun c4 => ?_) (fun c4 => ?_)
  · refine w_bipush dX12_paste_14 rfl ?_
    exact w_iret dX12_paste_16 rfl (k.1 (by omega))
  · refine w_iload_n dX12_paste_7 rfl ?_
    refine w_callS (d := d + 1) (S := []) [aI z] dX12_paste_8 ml_X12_357 ok_X12_isSlot st_X12_isSlot rfl (Nat.le_of_ble_eq_true rfl) ?_
    refine c_X12_isSlot (d := d) z (by omega) ?_
    show fwWP mX12_paste (d + 2) 11 [some (aR 12 0), some (aI x), some (aI y), some (aI z), some (aI u), some (aI n), none] [aI (fwB (0 ≤ z ∧ z ≤ 3))] h Q
    refine w_ifB_ne 17 dX12_paste_11 (by decide) (fun c11 => ?_) (fun c11 => ?_)
    · refine w_aload_n dX12_paste_17 rfl ?_
      refine w_getr 46 0 dX12_paste_18 fl_X12_47 rfl (by decide) ?_
      refine w_iload_n dX12_paste_21 rfl ?_
      refine w_ialdE (v := (-1)) dX12_paste_22 rfl (by decide) (by omega) (by omega) (hm4 _ (by omega)) ?_
      refine w_iconst dX12_paste_23 ?_
      refine w_icmp_eq 37 dX12_paste_24 (by decide) (by omega) (by omega) (fun c24 => ?_) (fun c24 => ?_)
      · refine w_bipush dX12_paste_37 rfl ?_
        exact w_iret dX12_paste_39 rfl (k.2 (by omega))
      · (exfalso; omega)
    · refine w_bipush dX12_paste_14 rfl ?_
      exact w_iret dX12_paste_16 rfl (k.1 (by omega))
set_option maxRecDepth 100000 in
set_option maxHeartbeats 4000000 in
theorem c_no_see {d : Nat} {h : fwH} {Q : Option fwV → fwH → Prop}  (hz : h 12 0 7 = 0) (k : Q (some (aI (-1))) h) : fwCt mX12_see (d + 0) [aR 12 0, aI 0] h Q := by
  refine fwCt_of [some (aR 12 0), some (aI 0)] rfl rfl rfl ?_
  refine w_iload_n dX12_see_0 rfl ?_
  refine w_aload_n dX12_see_1 rfl ?_
  refine w_geti dX12_see_2 fl_X12_84 rfl (by decide) ?_
  refine w_icmp_ge 21 dX12_see_5 (by decide) (by omega) (by omega) (fun c5 => ?_) (fun c5 => ?_)
  · refine w_iconst dX12_see_21 ?_
    exact w_iret dX12_see_22 rfl k
  · (exfalso; omega)
theorem c_seeE {d : Nat} {h : fwH} {Q : Option fwV → fwH → Prop} (x : Int) (ex : x = 0) (hz : h 12 0 7 = 0) (k : Q (some (aI (-1))) h) : fwCt mX12_see d [aR 12 0, aI x] h Q := by
  subst ex
  exact c_no_see hz k
set_option maxRecDepth 100000 in
set_option maxHeartbeats 4000000 in
theorem c_no_advance {d : Nat} {h : fwH} {Q : Option fwV → fwH → Prop}  (hz : h 12 0 7 = 0) (ha0 : h 12 0 8 = 0) (k : Q none (fwUp (fwUp h 12 0 9 0) 12 0 10 0)) : fwCt mX12_advance (d + 1) [aR 12 0] h Q := by
  refine fwCt_of [some (aR 12 0), none] rfl rfl rfl ?_
  refine w_aload_n dX12_advance_0 rfl ?_
  refine w_aload_n dX12_advance_1 rfl ?_
  refine w_getiE (v := 0) dX12_advance_2 fl_X12_87 rfl (by decide) ha0 ?_
  refine w_callV (d := d + 0) (S := []) [aI 0] dX12_advance_5 ml_X12_90 ok_X12_see vi_X12_see rfl rfl (by decide) rfl (Nat.le_of_ble_eq_true rfl) ?_
  refine c_seeE (d := d) 0 (by first | exact ha0 | rfl) (by first | exact hz | rfl) ?_
  show fwWP mX12_advance (d + 1) 8 [some (aR 12 0), none] [aI (-1)] h Q
  refine w_bipush dX12_advance_8 rfl ?_
  refine w_icmp_eq 26 dX12_advance_10 (by decide) (by omega) (by omega) (fun c10 => ?_) (fun c10 => ?_)
  · (exfalso; omega)
  · refine w_aload_n dX12_advance_13 rfl ?_
    refine w_aload_n dX12_advance_14 rfl ?_
    refine w_getiE (v := 0) dX12_advance_15 fl_X12_87 rfl (by decide) ha0 ?_
    refine w_callV (d := d + 0) (S := []) [aI 0] dX12_advance_18 ml_X12_90 ok_X12_see vi_X12_see rfl rfl (by decide) rfl (Nat.le_of_ble_eq_true rfl) ?_
    refine c_seeE (d := d) 0 (by first | exact ha0 | rfl) (by first | exact hz | rfl) ?_
    show fwWP mX12_advance (d + 1) 21 [some (aR 12 0), none] [aI (-1)] h Q
    refine w_bipush dX12_advance_21 rfl ?_
    refine w_icmp_ne 39 dX12_advance_23 (by decide) (by omega) (by omega) (fun c23 => ?_) (fun c23 => ?_)
    · refine w_aload_n dX12_advance_39 rfl ?_
      refine w_aload_n dX12_advance_40 rfl ?_
      refine w_getiE (v := 0) dX12_advance_41 fl_X12_87 rfl (by decide) ha0 ?_
      refine w_puti dX12_advance_44 fl_X12_94 fp_12_9 rfl (by decide) ?_
      refine w_aload_n dX12_advance_47 rfl ?_
      refine w_aload_n dX12_advance_48 rfl ?_
      refine w_getiE (v := 0) dX12_advance_49 fl_X12_87 rfl (by decide) (by show h 12 0 8 = 0; exact ha0) ?_
      refine w_callV (d := d + 0) (S := []) [aI 0] dX12_advance_52 ml_X12_90 ok_X12_see vi_X12_see rfl rfl (by decide) rfl (Nat.le_of_ble_eq_true rfl) ?_
      refine c_seeE (d := d) 0 (by first | exact ha0 | rfl) (by first | exact hz | rfl) ?_
      show fwWP mX12_advance (d + 1) 55 [some (aR 12 0), none] [aI (-1)] (fwUp h 12 0 9 0) Q
      refine w_istore_n [some (aR 12 0), some (aI (-1))] dX12_advance_55 rfl (by decide) ?_
      refine w_iload_n dX12_advance_56 rfl ?_
      refine w_iconst dX12_advance_57 ?_
      refine w_icmp_ne 69 dX12_advance_58 (by decide) (by omega) (by omega) (fun c58 => ?_) (fun c58 => ?_)
      · (exfalso; omega)
      · refine w_aload_n dX12_advance_61 rfl ?_
        refine w_iconst dX12_advance_62 ?_
        refine w_puti dX12_advance_63 fl_X12_97 fp_12_10 rfl (by decide) ?_
        refine w_goto 239 dX12_advance_66 (by decide) ?_
        exact w_vret dX12_advance_239 rfl k
    · (exfalso; omega)
set_option maxRecDepth 100000 in
set_option maxHeartbeats 4000000 in
theorem c_no_good {d : Nat} {h : fwH} {Q : Option fwV → fwH → Prop}  (hg : h 12 0 12 = 0) (k : Q (some (aI 1)) h) : fwCt mX12_good (d + 0) [aR 12 0] h Q := by
  refine fwCt_of [some (aR 12 0)] rfl rfl rfl ?_
  refine w_aload_n dX12_good_0 rfl ?_
  refine w_geti dX12_good_1 fl_X12_118 rfl (by decide) ?_
  refine w_if_ne 11 dX12_good_4 (by decide) (by omega) (fun c4 => ?_) (fun c4 => ?_)
  · (exfalso; omega)
  · refine w_iconst dX12_good_7 ?_
    refine w_goto 12 dX12_good_8 (by decide) ?_
    exact w_zret dX12_good_12 rfl (Or.inr rfl) k
set_option maxRecDepth 100000 in
set_option maxHeartbeats 4000000 in
theorem c_no_mount {d : Nat} {h : fwH} {Q : Option fwV → fwH → Prop}  (hz5 : h 12 0 5 = 0) (k : ∀ g, Q (some (aI 0)) g) : fwCt mX12_mount (d + 2) [aR 12 0] h Q := by
  refine fwCt_of [some (aR 12 0), none] rfl rfl rfl ?_
  refine w_aload_n dX12_mount_0 rfl ?_
  refine w_aload_n dX12_mount_1 rfl ?_
  refine w_geti dX12_mount_2 fl_X12_81 rfl (by decide) ?_
  refine w_puti dX12_mount_5 fl_X12_84 fp_12_7 rfl (by decide) ?_
  refine w_aload_n dX12_mount_8 rfl ?_
  refine w_iconst dX12_mount_9 ?_
  refine w_puti dX12_mount_10 fl_X12_81 fp_12_5 rfl (by decide) ?_
  refine w_aload_n dX12_mount_13 rfl ?_
  refine w_iconst dX12_mount_14 ?_
  refine w_puti dX12_mount_15 fl_X12_87 fp_12_8 rfl (by decide) ?_
  refine w_aload_n dX12_mount_18 rfl ?_
  refine w_iconst dX12_mount_19 ?_
  refine w_puti dX12_mount_20 fl_X12_118 fp_12_12 rfl (by decide) ?_
  refine w_aload_n dX12_mount_23 rfl ?_
  refine w_iconst dX12_mount_24 ?_
  refine w_puti dX12_mount_25 fl_X12_27 fp_12_13 rfl (by decide) ?_
  refine w_iconst dX12_mount_28 ?_
  refine w_istore_n [some (aR 12 0), some (aI 0)] dX12_mount_29 rfl (by decide) ?_
  have lp30 : ∀ c : Nat, c ≤ 135 → ∀ (y30  : Int) (hh30 : fwH), y30 = (c : Int) → hh30 = (fwUc (fwUp (fwUp (fwUp (fwUp (fwUp h 12 0 7 (h 12 0 5)) 12 0 5 0) 12 0 8 0) 12 0 12 0) 12 0 13 (-1)) 41 0 (fwFl (fun _ => 0) (h 41 0) c)) → fwWP mX12_mount (d + 2) 30 [some (aR 12 0), some (aI y30)] [] hh30 Q := by
    refine fw_up (fun c hc30 ih30 => ?_)
    intro y30  hh30 ey30 eh30
    subst ey30
    subst eh30
    show fwWP mX12_mount (d + 2) 30 [some (aR 12 0), some (aI (c : Int))] [] (fwUc (fwUp (fwUp (fwUp (fwUp (fwUp h 12 0 7 (h 12 0 5)) 12 0 5 0) 12 0 8 0) 12 0 12 0) 12 0 13 (-1)) 41 0 (fwFl (fun _ => 0) (h 41 0) c)) Q
    refine w_iload_n dX12_mount_30 rfl ?_
    refine w_sipush dX12_mount_31 rfl ?_
    refine w_icmp_ge 50 dX12_mount_34 (by decide) (by omega) (by omega) (fun c34 => ?_) (fun c34 => ?_)
    · have ec30 : 135 = c := by omega
      subst ec30
      refine w_aload_n dX12_mount_50 rfl ?_
      refine w_callV (d := d + 1) (S := []) [] dX12_mount_51 ml_X12_137 ok_X12_advance vi_X12_advance rfl rfl (by decide) rfl (Nat.le_of_ble_eq_true rfl) ?_
      refine c_no_advance (d := d) (by exact hz5) (by rfl) ?_
      show fwWP mX12_mount (d + 2) 54 [some (aR 12 0), some (aI ((135 : Nat) : Int))] [] (fwUp (fwUp (fwUc (fwUp (fwUp (fwUp (fwUp (fwUp h 12 0 7 (h 12 0 5)) 12 0 5 0) 12 0 8 0) 12 0 12 0) 12 0 13 (-1)) 41 0 (fwFl (fun _ => 0) (h 41 0) 135)) 12 0 9 0) 12 0 10 0) Q
      refine w_aload_n dX12_mount_54 rfl ?_
      refine w_callV (d := d + 1) (S := []) [] dX12_mount_55 ml_X12_121 ok_X12_good vi_X12_good rfl rfl (by decide) rfl (Nat.le_of_ble_eq_true rfl) ?_
      refine c_no_good (d := (d + 1)) (by rfl) ?_
      show fwWP mX12_mount (d + 2) 58 [some (aR 12 0), some (aI ((135 : Nat) : Int))] [aI 1] (fwUp (fwUp (fwUc (fwUp (fwUp (fwUp (fwUp (fwUp h 12 0 7 (h 12 0 5)) 12 0 5 0) 12 0 8 0) 12 0 12 0) 12 0 13 (-1)) 41 0 (fwFl (fun _ => 0) (h 41 0) 135)) 12 0 9 0) 12 0 10 0) Q
      refine w_if_eq 134 dX12_mount_58 (by decide) (by omega) (fun c58 => ?_) (fun c58 => ?_)
      · (exfalso; omega)
      · refine w_aload_n dX12_mount_61 rfl ?_
        refine w_getiE (v := 0) dX12_mount_62 fl_X12_97 rfl (by decide) (by rfl) ?_
        refine w_if_eq 134 dX12_mount_65 (by decide) (by omega) (fun c65 => ?_) (fun c65 => ?_)
        · refine w_aload_n dX12_mount_134 rfl ?_
          refine w_callV (d := d + 1) (S := []) [] dX12_mount_135 ml_X12_121 ok_X12_good vi_X12_good rfl rfl (by decide) rfl (Nat.le_of_ble_eq_true rfl) ?_
          refine c_no_good (d := (d + 1)) (by rfl) ?_
          show fwWP mX12_mount (d + 2) 138 [some (aR 12 0), some (aI ((135 : Nat) : Int))] [aI 1] (fwUp (fwUp (fwUc (fwUp (fwUp (fwUp (fwUp (fwUp h 12 0 7 (h 12 0 5)) 12 0 5 0) 12 0 8 0) 12 0 12 0) 12 0 13 (-1)) 41 0 (fwFl (fun _ => 0) (h 41 0) 135)) 12 0 9 0) 12 0 10 0) Q
          refine w_if_ne 144 dX12_mount_138 (by decide) (by omega) (fun c138 => ?_) (fun c138 => ?_)
          · refine w_iconst dX12_mount_144 ?_
            refine w_istore_n [some (aR 12 0), some (aI 0)] dX12_mount_145 rfl (by decide) ?_
            have lp146 : ∀ c : Nat, c ≤ 135 → ∀ (y146  : Int) (hh146 : fwH), y146 = (c : Int) → hh146 = (fwUc (fwUp (fwUp (fwUc (fwUp (fwUp (fwUp (fwUp (fwUp h 12 0 7 (h 12 0 5)) 12 0 5 0) 12 0 8 0) 12 0 12 0) 12 0 13 (-1)) 41 0 (fwFl (fun _ => 0) (h 41 0) 135)) 12 0 9 0) 12 0 10 0) 36 0 (fwFl (fwFl (fun _ => 0) (h 41 0) 135) (h 36 0) c)) → fwWP mX12_mount (d + 2) 146 [some (aR 12 0), some (aI y146)] [] hh146 Q := by
              refine fw_up (fun c hc146 ih146 => ?_)
              intro y146  hh146 ey146 eh146
              subst ey146
              subst eh146
              show fwWP mX12_mount (d + 2) 146 [some (aR 12 0), some (aI (c : Int))] [] (fwUc (fwUp (fwUp (fwUc (fwUp (fwUp (fwUp (fwUp (fwUp h 12 0 7 (h 12 0 5)) 12 0 5 0) 12 0 8 0) 12 0 12 0) 12 0 13 (-1)) 41 0 (fwFl (fun _ => 0) (h 41 0) 135)) 12 0 9 0) 12 0 10 0) 36 0 (fwFl (fwFl (fun _ => 0) (h 41 0) 135) (h 36 0) c)) Q
              refine w_iload_n dX12_mount_146 rfl ?_
              refine w_sipush dX12_mount_147 rfl ?_
              refine w_icmp_ge 171 dX12_mount_150 (by decide) (by omega) (by omega) (fun c150 => ?_) (fun c150 => ?_)
              · have ec146 : 135 = c := by omega
                subst ec146
                refine w_aload_n dX12_mount_171 rfl ?_
                refine w_getr 36 0 dX12_mount_172 fl_X12_9 rfl (by decide) ?_
                refine w_bipush dX12_mount_175 rfl ?_
                refine w_ialdE (v := 0) dX12_mount_177 rfl (by decide) (by omega) (by omega) (by rfl) ?_
                exact w_iret dX12_mount_178 rfl (k _)
              · refine w_aload_n dX12_mount_153 rfl ?_
                refine w_getr 36 0 dX12_mount_154 fl_X12_9 rfl (by decide) ?_
                refine w_iload_n dX12_mount_157 rfl ?_
                refine w_aload_n dX12_mount_158 rfl ?_
                refine w_getr 41 0 dX12_mount_159 fl_X12_31 rfl (by decide) ?_
                refine w_iload_n dX12_mount_162 rfl ?_
                refine w_ialdE (v := (fwFl (fun _ => 0) (h 41 0) 135) c) dX12_mount_163 rfl (by decide) (by omega) (by omega) (by rfl) ?_
                refine w_iast dX12_mount_164 rfl (by decide) (by omega) (by omega) ?_
                refine w_iinc [some (aR 12 0), some (aI ((c : Int) + 1))] dX12_mount_165 rfl rfl (by decide) ?_
                refine w_goto 146 dX12_mount_168 (by decide) ?_
                refine ih146 (by omega) _ _ ?_ ?_
                · exact (by omega)
                · exact (by rw [fwUp_uc, Int.toNat_natCast]; exact congrArg _ (fwFl_succ (fwFl (fun _ => 0) (h 41 0) 135) (h 36 0) c))
            refine lp146 0 (Nat.zero_le _) _ _ ?_ ?_
            · exact (by omega)
            · exact (by rw [fwFl_0]; exact (fwUc_self _ 36 0).symm)
          · (exfalso; omega)
        · (exfalso; omega)
    · refine w_aload_n dX12_mount_37 rfl ?_
      refine w_getr 41 0 dX12_mount_38 fl_X12_31 rfl (by decide) ?_
      refine w_iload_n dX12_mount_41 rfl ?_
      refine w_iconst dX12_mount_42 ?_
      refine w_iast dX12_mount_43 rfl (by decide) (by omega) (by omega) ?_
      refine w_iinc [some (aR 12 0), some (aI ((c : Int) + 1))] dX12_mount_44 rfl rfl (by decide) ?_
      refine w_goto 30 dX12_mount_47 (by decide) ?_
      refine ih30 (by omega) _ _ ?_ ?_
      · exact (by omega)
      · exact (by rw [fwUp_uc, Int.toNat_natCast]; exact congrArg _ (fwFl_succ (fun _ => 0) (h 41 0) c))
  refine lp30 0 (Nat.zero_le _) _ _ ?_ ?_
  · exact (by omega)
  · exact (by rw [fwFl_0]; exact (fwUc_self _ 41 0).symm)

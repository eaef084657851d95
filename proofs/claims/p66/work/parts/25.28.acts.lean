def mFeed (B : Nat → Int) (s : Nat) (a b c p e : Int) : Nat → Int := mAdN (mAdN (mAdN (mAdN (mAdN B s a 4) (s + 4) b 4) (s + 8) c 4) (s + 12) p 4) (s + 16) e 4
def feH (h : fwH) (K : Nat) (B : Nat → Int) : fwH := fwUc (fwUc h 1 0 (fwFu (h 1 0) 1 (h 1 0 1 + (K : Int)))) 13 0 B
theorem feH_0 (h : fwH) : h = feH h 0 (h 13 0) := by
  unfold feH
  rw [show fwFu (h 1 0) 1 (h 1 0 1 + ((0 : Nat) : Int)) = h 1 0 from by
    funext s
    unfold fwFu
    split
    · rename_i e; subst e; omega
    · rfl, fwUc_self, fwUc_self]
theorem c_addK {d : Nat} {h : fwH} {Q : Option fwV → fwH → Prop} (K : Nat) (B : Nat → Int) (x : Int) (hT : 0 ≤ h 1 0 1 ∧ h 1 0 1 + (K : Int) ≤ 896) (k : Q none (feH h (K + 4) (mAdN B ((h 1 0 1).toNat + K) x 4))) : fwCt mX9_addNumber d [aR 1 0, aI x] (feH h K B) Q := by
  refine c_X9_addNumber (h := feH h K B) x (by show 0 ≤ h 1 0 1 + (K : Int) ∧ h 1 0 1 + (K : Int) ≤ 896; omega) ?_
  have e1 : (feH h K B 1 0 1).toNat = (h 1 0 1).toNat + K := by show (h 1 0 1 + (K : Int)).toNat = _; omega
  have e2 : feH h K B 1 0 1 + ((4 : Nat) : Int) = h 1 0 1 + ((K + 4 : Nat) : Int) := by show h 1 0 1 + (K : Int) + ((4 : Nat) : Int) = _; omega
  rw [e1, e2]
  show Q none (fwUc (fwUc (feH h K B) 1 0 (fwFu (fwFu (h 1 0) 1 (h 1 0 1 + (K : Int))) 1 (h 1 0 1 + ((K + 4 : Nat) : Int)))) 13 0 (mAdN B ((h 1 0 1).toNat + K) x 4))
  rw [fwFu_fu]
  have e3 : ∀ (R S : Nat → Int), fwUc (fwUc (feH h K B) 1 0 R) 13 0 S = fwUc (fwUc h 1 0 R) 13 0 S := by
    intro R S
    unfold feH
    funext a b
    simp only [fwUc]
    (repeat' split)
    all_goals first | rfl | (exfalso; omega)
  rw [e3]
  exact k
set_option maxRecDepth 100000 in
set_option maxHeartbeats 4000000 in
theorem c_X11_feed {d : Nat} {h : fwH} {Q : Option fwV → fwH → Prop} (a b c p e : Int) (J : cOk h) (k : (h 1 0 1 ≤ 880 → Q (some (aI (h 1 0 1 + 20))) (feH h 20 (mFeed (h 13 0) (h 1 0 1).toNat a b c p e))) ∧ (¬ h 1 0 1 ≤ 880 → Q (some (aI (-1))) h)) : fwCt mX11_feed (d + 1) [aR 0 0, aI a, aI b, aI c, aI p, aI e] h Q := by
  refine fwCt_of [some (aR 0 0), some (aI a), some (aI b), some (aI c), some (aI p), some (aI e)] rfl rfl rfl ?_
  obtain ⟨hl, hP, hG, hM0, htd, hut, hlw, hhc, ha, hs, hT, hsc⟩ := id J
  have hM : ∀ c : Nat, c < 10 → h 17 0 c ≤ 999 := fun c hc => by have := hM0 c hc; omega
  have hM9 : ∀ c : Nat, c < 10 → 0 ≤ h 17 0 c ∧ h 17 0 c ≤ 900 := fun c hc => by have := hM0 c hc; omega
  obtain ⟨⟨g1, g2⟩, ⟨g3, g4⟩, ⟨g5, g6⟩, g7, g8⟩ := id hG
  have hpz := hP.1
  obtain ⟨ht1, ht2⟩ := id hT
  refine w_aload_n dX11_feed_0 rfl ?_
  refine w_getr 1 0 dX11_feed_1 fl_X11_10 rfl (by decide) ?_
  refine w_bipush dX11_feed_4 rfl ?_
  refine w_callV (d := d + 0) (S := []) [aI 20] dX11_feed_6 ml_X11_95 ok_X9_hasRoomFor vi_X9_hasRoomFor rfl rfl (by decide) rfl (Nat.le_of_ble_eq_true rfl) ?_
  refine c_X9_hasRoomFor (d := d) hT ?_
  show fwWP mX11_feed (d + 1) 9 [some (aR 0 0), some (aI a), some (aI b), some (aI c), some (aI p), some (aI e)] [aI (fwB (h 1 0 1 ≤ 880))] h Q
  refine w_ifB_ne 14 dX11_feed_9 (by decide) (fun c9 => ?_) (fun c9 => ?_)
  · rw [show fwWP mX11_feed (d + 1) 14 [some (aR 0 0), some (aI a), some (aI b), some (aI c), some (aI p), some (aI e)] [] h Q = fwWP mX11_feed (d + 1) 14 [some (aR 0 0), some (aI a), some (aI b), some (aI c), some (aI p), some (aI e)] [] (feH h 0 (h 13 0)) Q from congrArg (fun z => fwWP mX11_feed (d + 1) 14 [some (aR 0 0), some (aI a), some (aI b), some (aI c), some (aI p), some (aI e)] [] z Q) (feH_0 h)]
    refine w_aload_n dX11_feed_14 rfl ?_
    refine w_getr 1 0 dX11_feed_15 fl_X11_10 rfl (by decide) ?_
    refine w_iload_n dX11_feed_18 rfl ?_
    refine w_callV (d := d + 0) (S := []) [aI a] dX11_feed_19 ml_X11_99 ok_X9_addNumber vi_X9_addNumber rfl rfl (by decide) rfl (Nat.le_of_ble_eq_true rfl) ?_
    refine c_addK (d := d) 0 (h 13 0) a (by omega) ?_
    show fwWP mX11_feed (d + 1) 22 [some (aR 0 0), some (aI a), some (aI b), some (aI c), some (aI p), some (aI e)] [] (feH h 4 (mAdN (h 13 0) ((h 1 0 1).toNat + 0) a 4)) Q
    refine w_aload_n dX11_feed_22 rfl ?_
    refine w_getr 1 0 dX11_feed_23 fl_X11_10 rfl (by decide) ?_
    refine w_iload_n dX11_feed_26 rfl ?_
    refine w_callV (d := d + 0) (S := []) [aI b] dX11_feed_27 ml_X11_99 ok_X9_addNumber vi_X9_addNumber rfl rfl (by decide) rfl (Nat.le_of_ble_eq_true rfl) ?_
    refine c_addK (d := d) 4 (mAdN (h 13 0) ((h 1 0 1).toNat + 0) a 4) b (by omega) ?_
    show fwWP mX11_feed (d + 1) 30 [some (aR 0 0), some (aI a), some (aI b), some (aI c), some (aI p), some (aI e)] [] (feH h 8 (mAdN (mAdN (h 13 0) ((h 1 0 1).toNat + 0) a 4) ((h 1 0 1).toNat + 4) b 4)) Q
    refine w_aload_n dX11_feed_30 rfl ?_
    refine w_getr 1 0 dX11_feed_31 fl_X11_10 rfl (by decide) ?_
    refine w_iload_n dX11_feed_34 rfl ?_
    refine w_callV (d := d + 0) (S := []) [aI c] dX11_feed_35 ml_X11_99 ok_X9_addNumber vi_X9_addNumber rfl rfl (by decide) rfl (Nat.le_of_ble_eq_true rfl) ?_
    refine c_addK (d := d) 8 (mAdN (mAdN (h 13 0) ((h 1 0 1).toNat + 0) a 4) ((h 1 0 1).toNat + 4) b 4) c (by omega) ?_
    show fwWP mX11_feed (d + 1) 38 [some (aR 0 0), some (aI a), some (aI b), some (aI c), some (aI p), some (aI e)] [] (feH h 12 (mAdN (mAdN (mAdN (h 13 0) ((h 1 0 1).toNat + 0) a 4) ((h 1 0 1).toNat + 4) b 4) ((h 1 0 1).toNat + 8) c 4)) Q
    refine w_aload_n dX11_feed_38 rfl ?_
    refine w_getr 1 0 dX11_feed_39 fl_X11_10 rfl (by decide) ?_
    refine w_iload dX11_feed_42 rfl ?_
    refine w_callV (d := d + 0) (S := []) [aI p] dX11_feed_44 ml_X11_99 ok_X9_addNumber vi_X9_addNumber rfl rfl (by decide) rfl (Nat.le_of_ble_eq_true rfl) ?_
    refine c_addK (d := d) 12 (mAdN (mAdN (mAdN (h 13 0) ((h 1 0 1).toNat + 0) a 4) ((h 1 0 1).toNat + 4) b 4) ((h 1 0 1).toNat + 8) c 4) p (by omega) ?_
    show fwWP mX11_feed (d + 1) 47 [some (aR 0 0), some (aI a), some (aI b), some (aI c), some (aI p), some (aI e)] [] (feH h 16 (mAdN (mAdN (mAdN (mAdN (h 13 0) ((h 1 0 1).toNat + 0) a 4) ((h 1 0 1).toNat + 4) b 4) ((h 1 0 1).toNat + 8) c 4) ((h 1 0 1).toNat + 12) p 4)) Q
    refine w_aload_n dX11_feed_47 rfl ?_
    refine w_getr 1 0 dX11_feed_48 fl_X11_10 rfl (by decide) ?_
    refine w_iload dX11_feed_51 rfl ?_
    refine w_callV (d := d + 0) (S := []) [aI e] dX11_feed_53 ml_X11_99 ok_X9_addNumber vi_X9_addNumber rfl rfl (by decide) rfl (Nat.le_of_ble_eq_true rfl) ?_
    refine c_addK (d := d) 16 (mAdN (mAdN (mAdN (mAdN (h 13 0) ((h 1 0 1).toNat + 0) a 4) ((h 1 0 1).toNat + 4) b 4) ((h 1 0 1).toNat + 8) c 4) ((h 1 0 1).toNat + 12) p 4) e (by omega) ?_
    show fwWP mX11_feed (d + 1) 56 [some (aR 0 0), some (aI a), some (aI b), some (aI c), some (aI p), some (aI e)] [] (feH h 20 (mAdN (mAdN (mAdN (mAdN (mAdN (h 13 0) ((h 1 0 1).toNat + 0) a 4) ((h 1 0 1).toNat + 4) b 4) ((h 1 0 1).toNat + 8) c 4) ((h 1 0 1).toNat + 12) p 4) ((h 1 0 1).toNat + 16) e 4)) Q
    refine w_aload_n dX11_feed_56 rfl ?_
    refine w_getr 1 0 dX11_feed_57 fl_X11_10 rfl (by decide) ?_
    refine w_getiE (v := h 1 0 1 + ((20 : Nat) : Int)) dX11_feed_60 fl_X11_103 rfl (by decide) rfl ?_
    exact w_iretE dX11_feed_63 rfl (by omega) (k.1 (by omega))
  · refine w_iconst dX11_feed_12 ?_
    exact w_iretE dX11_feed_13 rfl rfl (k.2 (by omega))
set_option maxRecDepth 100000 in
set_option maxHeartbeats 4000000 in
theorem c_X11_end {d : Nat} {h : fwH} {Q : Option fwV → fwH → Prop} (x : Int) (J : cOk h) (hx : -2147483648 ≤ x ∧ x < 2147483648) (k : ((0 ≤ x ∧ x ≤ h 1 0 1) → Q (some (aI x)) (fwUp h 1 0 1 x)) ∧ (¬ (0 ≤ x ∧ x ≤ h 1 0 1) → Q (some (aI (-1))) h)) : fwCt mX11_end (d + 0) [aR 0 0, aI x] h Q := by
  refine fwCt_of [some (aR 0 0), some (aI x)] rfl rfl rfl ?_
  obtain ⟨hl, hP, hG, hM0, htd, hut, hlw, hhc, ha, hs, hT, hsc⟩ := id J
  have hM : ∀ c : Nat, c < 10 → h 17 0 c ≤ 999 := fun c hc => by have := hM0 c hc; omega
  have hM9 : ∀ c : Nat, c < 10 → 0 ≤ h 17 0 c ∧ h 17 0 c ≤ 900 := fun c hc => by have := hM0 c hc; omega
  obtain ⟨⟨g1, g2⟩, ⟨g3, g4⟩, ⟨g5, g6⟩, g7, g8⟩ := id hG
  have hpz := hP.1
  obtain ⟨ht1, ht2⟩ := id hT
  refine w_iload_n dX11_end_0 rfl ?_
  refine w_if_lt 15 dX11_end_1 (by decide) (by omega) (fun c1 => ?_) (fun c1 => ?_)
  · refine w_iconst dX11_end_15 ?_
    exact w_iretE dX11_end_16 rfl rfl (k.2 (by omega))
  · refine w_iload_n dX11_end_4 rfl ?_
    refine w_aload_n dX11_end_5 rfl ?_
    refine w_getr 1 0 dX11_end_6 fl_X11_10 rfl (by decide) ?_
    refine w_geti dX11_end_9 fl_X11_103 rfl (by decide) ?_
    refine w_icmp_le 17 dX11_end_12 (by decide) (by omega) (by omega) (fun c12 => ?_) (fun c12 => ?_)
    · refine w_aload_n dX11_end_17 rfl ?_
      refine w_getr 1 0 dX11_end_18 fl_X11_10 rfl (by decide) ?_
      refine w_iload_n dX11_end_21 rfl ?_
      refine w_puti dX11_end_22 fl_X11_103 fp_1_1 rfl (by decide) ?_
      refine w_iload_n dX11_end_25 rfl ?_
      exact w_iretE dX11_end_26 rfl rfl (k.1 (by omega))
    · refine w_iconst dX11_end_15 ?_
      exact w_iretE dX11_end_16 rfl rfl (k.2 (by omega))
def mouH (h : fwH) (i : Nat) (W H : Nat → Int) : fwH := mtCopy (fwUp (rH (cutH h) i 0 (-1) W H) 1 0 1 0) 0 1
theorem qRun_wLi {K V : Nat → Int} : ∀ (n i : Nat) (W : Nat → Int), qRun K V n = .inr (i, W) → wL W ∧ W 7 ≤ n := by
  intro n
  induction n with
  | zero => intro i W e; cases e; exact ⟨wL_init, by show (0 : Int) ≤ _; omega⟩
  | succ n ih =>
    intro i W e
    cases hq : qRun K V n with
    | inl x => rw [qRun, hq] at e; cases e
    | inr s =>
      obtain ⟨i1, W1⟩ := s
      have h1 := ih i1 W1 hq
      by_cases hk : K i1 = 0
      · have := qRun_stay hq hk 1
        rw [this] at e
        cases e
        exact ⟨h1.1, by omega⟩
      · rw [qRun_next hq hk] at e
        cases hl : qLine K V i1 W1 with
        | inl x => rw [hl] at e; cases e
        | inr s2 =>
          obtain ⟨i2, W2⟩ := s2
          rw [hl] at e
          have h2 := qRun_wL h1.1 hl
          have e9 : (i, W) = (i2, fwFu W2 7 (W2 7 + 1)) := by injection e with e8; exact e8.symm
          have ew : W = fwFu W2 7 (W2 7 + 1) := congrArg Prod.snd e9
          subst ew
          exact ⟨h2.2.1, by rw [fwFu_at, h2.2.2]; omega⟩
theorem wL_4 {W : Nat → Int} (hW : wL W) : W 4 = 0 ∨ W 4 = 1 := by
  rcases hW with ⟨h7, rfl⟩ | ⟨h7, hW, h8⟩
  · exact Or.inl rfl
  · exact hW.2.2.2.2.2.1
set_option maxRecDepth 100000 in
set_option maxHeartbeats 4000000 in
theorem c_X11_mount {d : Nat} {h : fwH} {Q : Option fwV → fwH → Prop}  (J : cOk h) (h17 : rHg (h 17 1)) (k : (∀ (fk : Int) (j i : Nat) (W H : Nat → Int), qRun (cutH h 14 0) (cutH h 16 0) 900 = .inl (fk, j) → j ≤ tkN h → rHg H → Q (some (aI (-4))) (fwUp (rH (cutH h) i fk (cutH h 15 0 j) W H) 1 0 1 0)) ∧ (∀ (i : Nat) (W H : Nat → Int), qRun (cutH h 14 0) (cutH h 16 0) 900 = .inr (i, W) → i ≤ tkN h → rHr W H → Q (some (aI (W 7))) (mouH h i W H))) : fwCt mX11_mount (d + 8) [aR 0 0] h Q := by
  refine fwCt_of [some (aR 0 0), none] rfl rfl rfl ?_
  obtain ⟨hl, hP, hG, hM0, htd, hut, hlw, hhc, ha, hs, hT, hsc⟩ := id J
  have hM : ∀ c : Nat, c < 10 → h 17 0 c ≤ 999 := fun c hc => by have := hM0 c hc; omega
  have hM9 : ∀ c : Nat, c < 10 → 0 ≤ h 17 0 c ∧ h 17 0 c ≤ 900 := fun c hc => by have := hM0 c hc; omega
  obtain ⟨⟨g1, g2⟩, ⟨g3, g4⟩, ⟨g5, g6⟩, g7, g8⟩ := id hG
  have hpz := hP.1
  refine w_aload_n dX11_mount_0 rfl ?_
  refine w_getr 2 0 dX11_mount_1 fl_X11_21 rfl (by decide) ?_
  refine w_callV (d := d + 7) (S := []) [] dX11_mount_4 ml_X11_107 ok_X5_readAll vi_X5_readAll rfl rfl (by decide) rfl (Nat.le_of_ble_eq_true rfl) ?_
  refine c_X5_readAll (d := d) (tkN h) hT (tk_cut hT) h17 ⟨fun fk1 j1 i1 W1 H1 e1 hj1 hg1 => ?_, fun i2 W2 H2 e2 hi2 hH2 => ?_⟩
  · show fwWP mX11_mount (d + 8) 7 [some (aR 0 0), none] [aI 0] (rH (cutH h) i1 fk1 (cutH h 15 0 j1) W1 H1) Q
    refine w_istore_n [some (aR 0 0), some (aI 0)] dX11_mount_7 rfl (by decide) ?_
    refine w_aload_n dX11_mount_8 rfl ?_
    refine w_getr 1 0 dX11_mount_9 fl_X11_10 rfl (by decide) ?_
    refine w_iconst dX11_mount_12 ?_
    refine w_puti dX11_mount_13 fl_X11_103 fp_1_1 rfl (by decide) ?_
    refine w_iload_n dX11_mount_16 rfl ?_
    refine w_if_ne 23 dX11_mount_17 (by decide) (by omega) (fun c17 => ?_) (fun c17 => ?_)
    · (exfalso; omega)
    · refine w_bipush dX11_mount_20 rfl ?_
      exact w_iret dX11_mount_22 rfl (k.1 _ _ _ _ _ e1 hj1 hg1)
  · show fwWP mX11_mount (d + 8) 7 [some (aR 0 0), none] [aI 1] (rH (cutH h) i2 0 (-1) W2 H2) Q
    refine w_istore_n [some (aR 0 0), some (aI 1)] dX11_mount_7 rfl (by decide) ?_
    refine w_aload_n dX11_mount_8 rfl ?_
    refine w_getr 1 0 dX11_mount_9 fl_X11_10 rfl (by decide) ?_
    refine w_iconst dX11_mount_12 ?_
    refine w_puti dX11_mount_13 fl_X11_103 fp_1_1 rfl (by decide) ?_
    refine w_iload_n dX11_mount_16 rfl ?_
    refine w_if_ne 23 dX11_mount_17 (by decide) (by omega) (fun c17 => ?_) (fun c17 => ?_)
    · refine w_aload_n dX11_mount_23 rfl ?_
      refine w_getr 3 0 dX11_mount_24 fl_X11_28 rfl (by decide) ?_
      refine w_aload_n dX11_mount_27 rfl ?_
      refine w_getr 2 0 dX11_mount_28 fl_X11_21 rfl (by decide) ?_
      refine w_getr 3 1 dX11_mount_31 fl_X11_111 rfl (by decide) ?_
      refine w_callV (d := d + 7) (S := []) [aR 3 1] dX11_mount_34 ml_X11_114 ok_X2_copyFrom vi_X2_copyFrom rfl rfl (by decide) rfl (Nat.le_of_ble_eq_true rfl) ?_
      refine c_X2_copyFrom (d := (d + 6)) 0 1 (by decide) (by decide) (by decide) (show W2 4 = 0 ∨ W2 4 = 1 from wL_4 (qRun_wLi _ _ _ e2).1) ?_
      show fwWP mX11_mount (d + 8) 37 [some (aR 0 0), some (aI 1)] [] (mouH h i2 W2 H2) Q
      refine w_aload_n dX11_mount_37 rfl ?_
      refine w_getr 3 0 dX11_mount_38 fl_X11_28 rfl (by decide) ?_
      refine w_getiE (v := W2 7) dX11_mount_41 fl_X11_117 rfl (by decide) rfl ?_
      exact w_iret dX11_mount_44 rfl (k.2 _ _ _ e2 hi2 hH2)
    · (exfalso; omega)
def actH (h : fwH) (x y : Int) : fwH := fwUp (fwUp (fwUc h 17 0 (fwFu (h 17 0) x.toNat (h 17 0 x.toNat + y))) 21 0 (h 3 0 3).toNat (y * (x + 1))) 3 0 3 (h 3 0 3 + 1)
set_option maxRecDepth 100000 in
set_option maxHeartbeats 4000000 in
theorem c_X11_take {d : Nat} {h : fwH} {Q : Option fwV → fwH → Prop}  (J : cOk h) (k : (¬ 0 < h 3 0 6 → Q (some (aI (-2))) h) ∧ (0 < h 3 0 6 → ¬ (h 3 0 3 < 60 ∧ mMax (h 17 0) (h 4 0 1).toNat ≠ 0) → Q (some (aI (-5))) h) ∧ (0 < h 3 0 6 → (h 3 0 3 < 60 ∧ mMax (h 17 0) (h 4 0 1).toNat ≠ 0) → Q (some (aI (mTop (h 17 0) (h 4 0 4) (h 4 0 1).toNat))) (actH h (mTop (h 17 0) (h 4 0 4) (h 4 0 1).toNat) (-1)))) : fwCt mX11_take (d + 3) [aR 0 0] h Q := by
  refine fwCt_of [some (aR 0 0), none] rfl rfl rfl ?_
  obtain ⟨hl, hP, hG, hM0, htd, hut, hlw, hhc, ha, hs, hT, hsc⟩ := id J
  have hM : ∀ c : Nat, c < 10 → h 17 0 c ≤ 999 := fun c hc => by have := hM0 c hc; omega
  have hM9 : ∀ c : Nat, c < 10 → 0 ≤ h 17 0 c ∧ h 17 0 c ≤ 900 := fun c hc => by have := hM0 c hc; omega
  obtain ⟨⟨g1, g2⟩, ⟨g3, g4⟩, ⟨g5, g6⟩, g7, g8⟩ := id hG
  have hpz := hP.1
  refine w_aload_n dX11_take_0 rfl ?_
  refine w_getr 3 0 dX11_take_1 fl_X11_28 rfl (by decide) ?_
  refine w_callV (d := d + 2) (S := []) [] dX11_take_4 ml_X11_157 ok_X2_isTold vi_X2_isTold rfl rfl (by decide) rfl (Nat.le_of_ble_eq_true rfl) ?_
  refine c_X2_isTold (d := (d + 2)) (show 0 ≤ h 3 0 6 ∧ h 3 0 6 ≤ 1000 by first | assumption | omega | decide) ?_
  show fwWP mX11_take (d + 3) 7 [some (aR 0 0), none] [aI (fwB (0 < h 3 0 6))] h Q
  refine w_ifB_ne 13 dX11_take_7 (by decide) (fun c7 => ?_) (fun c7 => ?_)
  · refine w_aload_n dX11_take_13 rfl ?_
    refine w_getr 3 0 dX11_take_14 fl_X11_28 rfl (by decide) ?_
    refine w_callV (d := d + 2) (S := []) [] dX11_take_17 ml_X11_184 ok_X2_hasRoomForAct vi_X2_hasRoomForAct rfl rfl (by decide) rfl (Nat.le_of_ble_eq_true rfl) ?_
    refine c_X2_hasRoom (d := (d + 2)) (by first | assumption | omega | decide) ?_
    show fwWP mX11_take (d + 3) 20 [some (aR 0 0), none] [aI (fwB (h 3 0 3 < 60))] h Q
    refine w_ifB_eq 36 dX11_take_20 (by decide) (fun c20 => ?_) (fun c20 => ?_)
    · refine w_bipush dX11_take_36 rfl ?_
      exact w_iretE dX11_take_38 rfl rfl (k.2.1 (by omega) (by omega))
    · refine w_aload_n dX11_take_23 rfl ?_
      refine w_getr 3 0 dX11_take_24 fl_X11_28 rfl (by decide) ?_
      refine w_getr 4 0 dX11_take_27 fl_X11_139 rfl (by decide) ?_
      refine w_callV (d := d + 2) (S := []) [] dX11_take_30 ml_X11_187 ok_X1_topHeight vi_X1_topHeight rfl rfl (by decide) rfl (Nat.le_of_ble_eq_true rfl) ?_
      refine c_X1_topHeight (d := (d + 1)) 0 (by decide) hG ?_
      show fwWP mX11_take (d + 3) 33 [some (aR 0 0), none] [aI (mMax (h 17 0) (h 4 0 1).toNat)] h Q
      have hmr := mMax_rng (H := h 17 0) (b := 99) (by omega) (h 4 0 1).toNat (fun j hj => hM0 j (by omega))
      refine w_if_ne 39 dX11_take_33 (by decide) (by omega) (fun c33 => ?_) (fun c33 => ?_)
      · refine w_aload_n dX11_take_39 rfl ?_
        refine w_getr 3 0 dX11_take_40 fl_X11_28 rfl (by decide) ?_
        refine w_getr 4 0 dX11_take_43 fl_X11_139 rfl (by decide) ?_
        refine w_callV (d := d + 2) (S := []) [] dX11_take_46 ml_X11_167 ok_X1_topCell vi_X1_topCell rfl rfl (by decide) rfl (Nat.le_of_ble_eq_true rfl) ?_
        refine c_X1_topCell (d := (d + 1)) 0 (by decide) hG ?_
        show fwWP mX11_take (d + 3) 49 [some (aR 0 0), none] [aI (mTop (h 17 0) (h 4 0 4) (h 4 0 1).toNat)] h Q
        have htp := mTop_rng (h 17 0) (h 4 0 4) (h 4 0 1).toNat
        refine w_istore_n [some (aR 0 0), some (aI (mTop (h 17 0) (h 4 0 4) (h 4 0 1).toNat))] dX11_take_49 rfl (by decide) ?_
        refine w_aload_n dX11_take_50 rfl ?_
        refine w_getr 3 0 dX11_take_51 fl_X11_28 rfl (by decide) ?_
        refine w_iload_n dX11_take_54 rfl ?_
        refine w_iconst dX11_take_55 ?_
        refine w_callV (d := d + 2) (S := []) [aI (mTop (h 17 0) (h 4 0 4) (h 4 0 1).toNat), aI (-1)] dX11_take_56 ml_X11_190 ok_X2_act vi_X2_act rfl rfl (by decide) rfl (Nat.le_of_ble_eq_true rfl) ?_
        refine c_X2_act (d := d) (mTop (h 17 0) (h 4 0 4) (h 4 0 1).toNat) (-1) ha (by omega) hG (by omega) (by omega) ?_
        show fwWP mX11_take (d + 3) 59 [some (aR 0 0), some (aI (mTop (h 17 0) (h 4 0 4) (h 4 0 1).toNat))] [] (actH h (mTop (h 17 0) (h 4 0 4) (h 4 0 1).toNat) (-1)) Q
        refine w_iload_n dX11_take_59 rfl ?_
        exact w_iretE dX11_take_60 rfl rfl (k.2.2 (by omega) (by omega))
      · refine w_bipush dX11_take_36 rfl ?_
        exact w_iretE dX11_take_38 rfl rfl (k.2.1 (by omega) (by omega))
  · refine w_bipush dX11_take_10 rfl ?_
    exact w_iretE dX11_take_12 rfl rfl (k.1 (by omega))
set_option maxRecDepth 100000 in
set_option maxHeartbeats 4000000 in
theorem c_X11_heap {d : Nat} {h : fwH} {Q : Option fwV → fwH → Prop} (x : Int) (J : cOk h) (hx : -2147483648 ≤ x ∧ x < 2147483648) (k : (¬ (0 ≤ x ∧ x < h 4 0 1) → Q (some (aI (-2))) h) ∧ ((0 ≤ x ∧ x < h 4 0 1) → ¬ (h 3 0 3 < 60 ∧ (mStay (h 4 0 1) (h 17 0) (h 4 0 3) x) ≠ -1) → Q (some (aI (-5))) h) ∧ ((0 ≤ x ∧ x < h 4 0 1) → (h 3 0 3 < 60 ∧ (mStay (h 4 0 1) (h 17 0) (h 4 0 3) x) ≠ -1) → Q (some (aI (mStay (h 4 0 1) (h 17 0) (h 4 0 3) x))) (actH h (mStay (h 4 0 1) (h 17 0) (h 4 0 3) x) 1))) : fwCt mX11_heap (d + 4) [aR 0 0, aI x] h Q := by
  refine fwCt_of [some (aR 0 0), some (aI x), none] rfl rfl rfl ?_
  obtain ⟨hl, hP, hG, hM0, htd, hut, hlw, hhc, ha, hs, hT, hsc⟩ := id J
  have hM : ∀ c : Nat, c < 10 → h 17 0 c ≤ 999 := fun c hc => by have := hM0 c hc; omega
  have hM9 : ∀ c : Nat, c < 10 → 0 ≤ h 17 0 c ∧ h 17 0 c ≤ 900 := fun c hc => by have := hM0 c hc; omega
  obtain ⟨⟨g1, g2⟩, ⟨g3, g4⟩, ⟨g5, g6⟩, g7, g8⟩ := id hG
  have hpz := hP.1
  refine w_aload_n dX11_heap_0 rfl ?_
  refine w_getr 3 0 dX11_heap_1 fl_X11_28 rfl (by decide) ?_
  refine w_getr 4 0 dX11_heap_4 fl_X11_139 rfl (by decide) ?_
  refine w_iload_n dX11_heap_7 rfl ?_
  refine w_callV (d := d + 3) (S := []) [aI x] dX11_heap_8 ml_X11_142 ok_X1_has vi_X1_has rfl rfl (by decide) rfl (Nat.le_of_ble_eq_true rfl) ?_
  refine c_X1_has (d := (d + 3)) 0 x (by decide) (by first | assumption | omega | decide) (by first | assumption | omega | decide) ?_
  show fwWP mX11_heap (d + 4) 11 [some (aR 0 0), some (aI x), none] [aI (fwB (0 ≤ x ∧ x < h 4 0 1))] h Q
  refine w_ifB_ne 17 dX11_heap_11 (by decide) (fun c11 => ?_) (fun c11 => ?_)
  · refine w_aload_n dX11_heap_17 rfl ?_
    refine w_getr 3 0 dX11_heap_18 fl_X11_28 rfl (by decide) ?_
    refine w_getr 4 0 dX11_heap_21 fl_X11_139 rfl (by decide) ?_
    refine w_iload_n dX11_heap_24 rfl ?_
    refine w_callV (d := d + 3) (S := []) [aI x] dX11_heap_25 ml_X11_194 ok_X1_stayOf vi_X1_stayOf rfl rfl (by decide) rfl (Nat.le_of_ble_eq_true rfl) ?_
    refine c_X1_stayOf (d := d) 0 x (by decide) hG (by omega) ?_
    show fwWP mX11_heap (d + 4) 28 [some (aR 0 0), some (aI x), none] [aI (mStay (h 4 0 1) (h 17 0) (h 4 0 3) x)] h Q
    have hsr := mStay_rng (h 17 0) (rs := h 4 0 3) (n := h 4 0 1) (x := x) (by omega) (by omega)
    refine w_istore_n [some (aR 0 0), some (aI x), some (aI (mStay (h 4 0 1) (h 17 0) (h 4 0 3) x))] dX11_heap_28 rfl (by decide) ?_
    refine w_aload_n dX11_heap_29 rfl ?_
    refine w_getr 3 0 dX11_heap_30 fl_X11_28 rfl (by decide) ?_
    refine w_callV (d := d + 3) (S := []) [] dX11_heap_33 ml_X11_184 ok_X2_hasRoomForAct vi_X2_hasRoomForAct rfl rfl (by decide) rfl (Nat.le_of_ble_eq_true rfl) ?_
    refine c_X2_hasRoom (d := (d + 3)) (by first | assumption | omega | decide) ?_
    show fwWP mX11_heap (d + 4) 36 [some (aR 0 0), some (aI x), some (aI (mStay (h 4 0 1) (h 17 0) (h 4 0 3) x))] [aI (fwB (h 3 0 3 < 60))] h Q
    refine w_ifB_eq 44 dX11_heap_36 (by decide) (fun c36 => ?_) (fun c36 => ?_)
    · refine w_bipush dX11_heap_44 rfl ?_
      exact w_iretE dX11_heap_46 rfl rfl (k.2.1 (by omega) (by omega))
    · refine w_iload_n dX11_heap_39 rfl ?_
      refine w_iconst dX11_heap_40 ?_
      refine w_icmp_ne 47 dX11_heap_41 (by decide) (by omega) (by omega) (fun c41 => ?_) (fun c41 => ?_)
      · refine w_aload_n dX11_heap_47 rfl ?_
        refine w_getr 3 0 dX11_heap_48 fl_X11_28 rfl (by decide) ?_
        refine w_iload_n dX11_heap_51 rfl ?_
        refine w_iconst dX11_heap_52 ?_
        refine w_callV (d := d + 3) (S := []) [aI (mStay (h 4 0 1) (h 17 0) (h 4 0 3) x), aI 1] dX11_heap_53 ml_X11_190 ok_X2_act vi_X2_act rfl rfl (by decide) rfl (Nat.le_of_ble_eq_true rfl) ?_
        refine c_X2_act (d := (d + 1)) (mStay (h 4 0 1) (h 17 0) (h 4 0 3) x) 1 ha (by omega) hG (by omega) (by omega) ?_
        show fwWP mX11_heap (d + 4) 56 [some (aR 0 0), some (aI x), some (aI (mStay (h 4 0 1) (h 17 0) (h 4 0 3) x))] [] (actH h (mStay (h 4 0 1) (h 17 0) (h 4 0 3) x) 1) Q
        refine w_iload_n dX11_heap_56 rfl ?_
        exact w_iretE dX11_heap_57 rfl rfl (k.2.2 (by omega) (by omega))
      · refine w_bipush dX11_heap_44 rfl ?_
        exact w_iretE dX11_heap_46 rfl rfl (k.2.1 (by omega) (by omega))
  · refine w_bipush dX11_heap_14 rfl ?_
    exact w_iretE dX11_heap_16 rfl rfl (k.1 (by omega))
set_option maxRecDepth 100000 in
set_option maxHeartbeats 4000000 in
theorem c_X11_tell {d : Nat} {h : fwH} {Q : Option fwV → fwH → Prop} (x : Int) (J : cOk h) (hx : -2147483648 ≤ x ∧ x < 2147483648) (k : (¬ (0 < h 3 0 6 ∧ 1 ≤ x ∧ x ≤ 999) → Q (some (aI (-2))) h) ∧ ((0 < h 3 0 6 ∧ 1 ≤ x ∧ x ≤ 999) → 0 < h 3 0 3 → Q (some (aI (-5))) h) ∧ ((0 < h 3 0 6 ∧ 1 ≤ x ∧ x ≤ 999) → ¬ 0 < h 3 0 3 → Q (some (aI (h 3 0 4))) (fwUp h 3 0 4 x))) : fwCt mX11_tell (d + 2) [aR 0 0, aI x] h Q := by
  refine fwCt_of [some (aR 0 0), some (aI x), none] rfl rfl rfl ?_
  obtain ⟨hl, hP, hG, hM0, htd, hut, hlw, hhc, ha, hs, hT, hsc⟩ := id J
  have hM : ∀ c : Nat, c < 10 → h 17 0 c ≤ 999 := fun c hc => by have := hM0 c hc; omega
  have hM9 : ∀ c : Nat, c < 10 → 0 ≤ h 17 0 c ∧ h 17 0 c ≤ 900 := fun c hc => by have := hM0 c hc; omega
  obtain ⟨⟨g1, g2⟩, ⟨g3, g4⟩, ⟨g5, g6⟩, g7, g8⟩ := id hG
  have hpz := hP.1
  refine w_aload_n dX11_tell_0 rfl ?_
  refine w_iload_n dX11_tell_1 rfl ?_
  refine w_callV (d := d + 1) (S := []) [aI x] dX11_tell_2 ml_X11_293 ok_X11_isLaw vi_X11_isLaw rfl rfl (by decide) rfl (Nat.le_of_ble_eq_true rfl) ?_
  refine c_X11_isLaw (d := d) x J (by first | assumption | omega | decide) ?_
  show fwWP mX11_tell (d + 2) 5 [some (aR 0 0), some (aI x), none] [aI (fwB (0 < h 3 0 6 ∧ 1 ≤ x ∧ x ≤ 999))] h Q
  refine w_ifB_ne 11 dX11_tell_5 (by decide) (fun c5 => ?_) (fun c5 => ?_)
  · refine w_aload_n dX11_tell_11 rfl ?_
    refine w_getr 3 0 dX11_tell_12 fl_X11_28 rfl (by decide) ?_
    refine w_geti dX11_tell_15 fl_X11_200 rfl (by decide) ?_
    refine w_if_le 24 dX11_tell_18 (by decide) (by omega) (fun c18 => ?_) (fun c18 => ?_)
    · refine w_aload_n dX11_tell_24 rfl ?_
      refine w_getr 3 0 dX11_tell_25 fl_X11_28 rfl (by decide) ?_
      refine w_geti dX11_tell_28 fl_X11_330 rfl (by decide) ?_
      refine w_istore_n [some (aR 0 0), some (aI x), some (aI (h 3 0 4))] dX11_tell_31 rfl (by decide) ?_
      refine w_aload_n dX11_tell_32 rfl ?_
      refine w_getr 3 0 dX11_tell_33 fl_X11_28 rfl (by decide) ?_
      refine w_iload_n dX11_tell_36 rfl ?_
      refine w_puti dX11_tell_37 fl_X11_330 fp_3_4 rfl (by decide) ?_
      refine w_iload_n dX11_tell_40 rfl ?_
      exact w_iretE dX11_tell_41 rfl rfl (k.2.2 (by omega) (by omega))
    · refine w_bipush dX11_tell_21 rfl ?_
      exact w_iretE dX11_tell_23 rfl rfl (k.2.1 (by omega) (by omega))
  · refine w_bipush dX11_tell_8 rfl ?_
    exact w_iretE dX11_tell_10 rfl rfl (k.1 (by omega))
theorem c_factK {d : Nat} {h : fwH} {Q : Option fwV → fwH → Prop} (f w : Nat) (x y : Int) (ex : x = (f : Int)) (ey : y = (w : Int)) (hf : f < 8) (hw : w < 7) (k : Q (some (aI (h 18 0 (7 * f + w)))) h) : fwCt mX3_fact d [aR 5 0, aI x, aI y] h Q := by
  subst ex ey
  exact c_X3_fact 0 f w (by decide) hf hw k
theorem c_setK {d : Nat} {h : fwH} {Q : Option fwV → fwH → Prop} (f w : Nat) (x y z : Int) (ex : x = (f : Int)) (ey : y = (w : Int)) (hf : f < 8) (hw : w < 7) (k : Q none (fwUp h 18 0 (7 * f + w) z)) : fwCt mX3_setFact d [aR 5 0, aI x, aI y, aI z] h Q := by
  subst ex ey
  exact c_X3_setFact 0 f w z (by decide) hf hw k
set_option maxRecDepth 100000 in
set_option maxHeartbeats 4000000 in
theorem c_X11_likes {d : Nat} {h : fwH} {Q : Option fwV → fwH → Prop} (x y z : Int) (J : cOk h) (hx : -2147483648 ≤ x ∧ x < 2147483648) (hy : -2147483648 ≤ y ∧ y < 2147483648) (hz : -2147483648 ≤ z ∧ z < 2147483648) (k : (¬ ((0 ≤ x ∧ x < h 5 0 3) ∧ (0 ≤ y ∧ y ≤ 2) ∧ 0 ≤ z ∧ z ≤ 9) → Q (some (aI (-2))) h) ∧ (((0 ≤ x ∧ x < h 5 0 3) ∧ (0 ≤ y ∧ y ≤ 2) ∧ 0 ≤ z ∧ z ≤ 9) → 0 < h 3 0 3 → Q (some (aI (-5))) h) ∧ (((0 ≤ x ∧ x < h 5 0 3) ∧ (0 ≤ y ∧ y ≤ 2) ∧ 0 ≤ z ∧ z ≤ 9) → ¬ 0 < h 3 0 3 → Q (some (aI (h 18 0 (7 * x.toNat + (2 + y.toNat))))) (fwUp h 18 0 (7 * x.toNat + (2 + y.toNat)) z))) : fwCt mX11_likes (d + 1) [aR 0 0, aI x, aI y, aI z] h Q := by
  refine fwCt_of [some (aR 0 0), some (aI x), some (aI y), some (aI z), none] rfl rfl rfl ?_
  obtain ⟨hl, hP, hG, hM0, htd, hut, hlw, hhc, ha, hs, hT, hsc⟩ := id J
  have hM : ∀ c : Nat, c < 10 → h 17 0 c ≤ 999 := fun c hc => by have := hM0 c hc; omega
  have hM9 : ∀ c : Nat, c < 10 → 0 ≤ h 17 0 c ∧ h 17 0 c ≤ 900 := fun c hc => by have := hM0 c hc; omega
  obtain ⟨⟨g1, g2⟩, ⟨g3, g4⟩, ⟨g5, g6⟩, g7, g8⟩ := id hG
  have hpz := hP.1
  refine w_aload_n dX11_likes_0 rfl ?_
  refine w_getr 3 0 dX11_likes_1 fl_X11_28 rfl (by decide) ?_
  refine w_getr 5 0 dX11_likes_4 fl_X11_126 rfl (by decide) ?_
  refine w_iload_n dX11_likes_7 rfl ?_
  refine w_callV (d := d + 0) (S := []) [aI x] dX11_likes_8 ml_X11_130 ok_X3_has vi_X3_has rfl rfl (by decide) rfl (Nat.le_of_ble_eq_true rfl) ?_
  refine c_X3_has (d := d) 0 x (by decide) (by first | assumption | omega | decide) (by first | assumption | omega | decide) ?_
  show fwWP mX11_likes (d + 1) 11 [some (aR 0 0), some (aI x), some (aI y), some (aI z), none] [aI (fwB (0 ≤ x ∧ x < h 5 0 3))] h Q
  refine w_ifB_eq 33 dX11_likes_11 (by decide) (fun c11 => ?_) (fun c11 => ?_)
  · refine w_bipush dX11_likes_33 rfl ?_
    exact w_iretE dX11_likes_35 rfl rfl (k.1 (by omega))
  · refine w_iload_n dX11_likes_14 rfl ?_
    refine w_if_lt 33 dX11_likes_15 (by decide) (by omega) (fun c15 => ?_) (fun c15 => ?_)
    · refine w_bipush dX11_likes_33 rfl ?_
      exact w_iretE dX11_likes_35 rfl rfl (k.1 (by omega))
    · refine w_iload_n dX11_likes_18 rfl ?_
      refine w_iconst dX11_likes_19 ?_
      refine w_icmp_gt 33 dX11_likes_20 (by decide) (by omega) (by omega) (fun c20 => ?_) (fun c20 => ?_)
      · refine w_bipush dX11_likes_33 rfl ?_
        exact w_iretE dX11_likes_35 rfl rfl (k.1 (by omega))
      · refine w_iload_n dX11_likes_23 rfl ?_
        refine w_if_lt 33 dX11_likes_24 (by decide) (by omega) (fun c24 => ?_) (fun c24 => ?_)
        · refine w_bipush dX11_likes_33 rfl ?_
          exact w_iretE dX11_likes_35 rfl rfl (k.1 (by omega))
        · refine w_iload_n dX11_likes_27 rfl ?_
          refine w_bipush dX11_likes_28 rfl ?_
          refine w_icmp_le 36 dX11_likes_30 (by decide) (by omega) (by omega) (fun c30 => ?_) (fun c30 => ?_)
          · refine w_aload_n dX11_likes_36 rfl ?_
            refine w_getr 3 0 dX11_likes_37 fl_X11_28 rfl (by decide) ?_
            refine w_geti dX11_likes_40 fl_X11_200 rfl (by decide) ?_
            refine w_if_le 49 dX11_likes_43 (by decide) (by omega) (fun c43 => ?_) (fun c43 => ?_)
            · refine w_aload_n dX11_likes_49 rfl ?_
              refine w_getr 3 0 dX11_likes_50 fl_X11_28 rfl (by decide) ?_
              refine w_getr 5 0 dX11_likes_53 fl_X11_126 rfl (by decide) ?_
              refine w_iload_n dX11_likes_56 rfl ?_
              refine w_iconst dX11_likes_57 ?_
              refine w_iload_n dX11_likes_58 rfl ?_
              refine w_iadd dX11_likes_59 ?_
              obtain ⟨f, rfl⟩ : ∃ f : Nat, x = (f : Int) := ⟨x.toNat, by omega⟩
              obtain ⟨u, rfl⟩ : ∃ u : Nat, y = (u : Int) := ⟨y.toNat, by omega⟩
              refine w_callV (d := d + 0) (S := []) [aI (f : Int), aI (2 + (u : Int))] dX11_likes_60 ml_X11_135 ok_X3_fact vi_X3_fact rfl rfl (by decide) rfl (Nat.le_of_ble_eq_true rfl) ?_
              refine c_factK (d := d) f (2 + u) (f : Int) (2 + (u : Int)) (by omega) (by omega) (by omega) (by omega) ?_
              show fwWP mX11_likes (d + 1) 63 [some (aR 0 0), some (aI (f : Int)), some (aI (u : Int)), some (aI z), none] [aI (h 18 0 (7 * f + (2 + u)))] h Q
              refine w_istore [some (aR 0 0), some (aI (f : Int)), some (aI (u : Int)), some (aI z), some (aI (h 18 0 (7 * f + (2 + u))))] dX11_likes_63 rfl (by decide) ?_
              refine w_aload_n dX11_likes_65 rfl ?_
              refine w_getr 3 0 dX11_likes_66 fl_X11_28 rfl (by decide) ?_
              refine w_getr 5 0 dX11_likes_69 fl_X11_126 rfl (by decide) ?_
              refine w_iload_n dX11_likes_72 rfl ?_
              refine w_iconst dX11_likes_73 ?_
              refine w_iload_n dX11_likes_74 rfl ?_
              refine w_iadd dX11_likes_75 ?_
              refine w_iload_n dX11_likes_76 rfl ?_
              refine w_callV (d := d + 0) (S := []) [aI (f : Int), aI (2 + (u : Int)), aI z] dX11_likes_77 ml_X11_333 ok_X3_setFact vi_X3_setFact rfl rfl (by decide) rfl (Nat.le_of_ble_eq_true rfl) ?_
              refine c_setK (d := d) f (2 + u) (f : Int) (2 + (u : Int)) z (by omega) (by omega) (by omega) (by omega) ?_
              show fwWP mX11_likes (d + 1) 80 [some (aR 0 0), some (aI (f : Int)), some (aI (u : Int)), some (aI z), some (aI (h 18 0 (7 * f + (2 + u))))] [] (fwUp h 18 0 (7 * f + (2 + u)) z) Q
              refine w_iload dX11_likes_80 rfl ?_
              exact w_iretE dX11_likes_82 rfl rfl (k.2.2 (by omega) (by omega))
            · refine w_bipush dX11_likes_46 rfl ?_
              exact w_iretE dX11_likes_48 rfl rfl (k.2.1 (by omega) (by omega))
          · refine w_bipush dX11_likes_33 rfl ?_
            exact w_iretE dX11_likes_35 rfl rfl (k.1 (by omega))
def bkV (h : fwH) : Prop := 0 < h 3 0 3 → ((-20 ≤ h 21 0 (h 3 0 3 - 1).toNat ∧ h 21 0 (h 3 0 3 - 1).toNat ≤ 20) ∧ (h 21 0 (h 3 0 3 - 1).toNat < 0 → 0 ≤ -(h 21 0 (h 3 0 3 - 1).toNat) - 1 ∧ -(h 21 0 (h 3 0 3 - 1).toNat) - 1 < h 4 0 1) ∧ (0 ≤ h 21 0 (h 3 0 3 - 1).toNat → 0 ≤ h 21 0 (h 3 0 3 - 1).toNat - 1 ∧ h 21 0 (h 3 0 3 - 1).toNat - 1 < h 4 0 1))
def mBkN (h : fwH) : Nat → fwH
  | 0 => h
  | i + 1 => mBack (mBkN h i)
theorem mBkN_3 (h : fwH) : ∀ i : Nat, mBkN h i 3 0 3 = h 3 0 3 - (i : Int) := by
  intro i
  induction i with
  | zero => show h 3 0 3 = _; omega
  | succ i ih => show mBkN h i 3 0 3 - 1 = _; rw [ih]; omega
theorem c_tbK {d : Nat} {h : fwH} {Q : Option fwV → fwH → Prop} (ha : 0 ≤ h 3 0 3 ∧ h 3 0 3 ≤ 60) (hG : gOk h 0) (hv : bkV h) (k : (¬ 0 < h 3 0 3 → Q (some (aI 0)) h) ∧ (0 < h 3 0 3 → Q (some (aI 1)) (mBack h))) : fwCt mX2_takeBack (d + 2) [aR 3 0] h Q := by
  refine c_X2_takeBack ha hG hv ?_
  by_cases e : 0 < h 3 0 3
  · rw [fwB_t e, if_pos e]
    exact k.2 e
  · rw [fwB_f e, if_neg e]
    exact k.1 e
set_option maxRecDepth 100000 in
set_option maxHeartbeats 4000000 in
theorem c_X11_undo {d : Nat} {h : fwH} {Q : Option fwV → fwH → Prop}  (J : cOk h) (hv : bkV h) (k : (¬ 0 < h 3 0 6 → Q (some (aI (-2))) h) ∧ (0 < h 3 0 6 → ¬ 0 < h 3 0 3 → Q (some (aI (-5))) h) ∧ (0 < h 3 0 6 → 0 < h 3 0 3 → Q (some (aI (h 3 0 3 - 1))) (mBack h))) : fwCt mX11_undo (d + 3) [aR 0 0] h Q := by
  refine fwCt_of [some (aR 0 0)] rfl rfl rfl ?_
  obtain ⟨hl, hP, hG, hM0, htd, hut, hlw, hhc, ha, hs, hT, hsc⟩ := id J
  have hM : ∀ c : Nat, c < 10 → h 17 0 c ≤ 999 := fun c hc => by have := hM0 c hc; omega
  have hM9 : ∀ c : Nat, c < 10 → 0 ≤ h 17 0 c ∧ h 17 0 c ≤ 900 := fun c hc => by have := hM0 c hc; omega
  obtain ⟨⟨g1, g2⟩, ⟨g3, g4⟩, ⟨g5, g6⟩, g7, g8⟩ := id hG
  have hpz := hP.1
  refine w_aload_n dX11_undo_0 rfl ?_
  refine w_getr 3 0 dX11_undo_1 fl_X11_28 rfl (by decide) ?_
  refine w_callV (d := d + 2) (S := []) [] dX11_undo_4 ml_X11_157 ok_X2_isTold vi_X2_isTold rfl rfl (by decide) rfl (Nat.le_of_ble_eq_true rfl) ?_
  refine c_X2_isTold (d := (d + 2)) (show 0 ≤ h 3 0 6 ∧ h 3 0 6 ≤ 1000 by first | assumption | omega | decide) ?_
  show fwWP mX11_undo (d + 3) 7 [some (aR 0 0)] [aI (fwB (0 < h 3 0 6))] h Q
  refine w_ifB_ne 13 dX11_undo_7 (by decide) (fun c7 => ?_) (fun c7 => ?_)
  · refine w_aload_n dX11_undo_13 rfl ?_
    refine w_getr 3 0 dX11_undo_14 fl_X11_28 rfl (by decide) ?_
    refine w_callV (d := d + 2) (S := []) [] dX11_undo_17 ml_X11_197 ok_X2_takeBack vi_X2_takeBack rfl rfl (by decide) rfl (Nat.le_of_ble_eq_true rfl) ?_
    refine c_tbK (d := d) ha hG hv ⟨fun hb0 => ?_, fun hb1 => ?_⟩
    · show fwWP mX11_undo (d + 3) 20 [some (aR 0 0)] [aI 0] h Q
      refine w_if_eq 33 dX11_undo_20 (by decide) (by omega) (fun c20 => ?_) (fun c20 => ?_)
      · refine w_bipush dX11_undo_33 rfl ?_
        exact w_iretE dX11_undo_35 rfl rfl (k.2.1 (by omega) hb0)
      · (exfalso; omega)
    · show fwWP mX11_undo (d + 3) 20 [some (aR 0 0)] [aI 1] (mBack h) Q
      refine w_if_eq 33 dX11_undo_20 (by decide) (by omega) (fun c20 => ?_) (fun c20 => ?_)
      · (exfalso; omega)
      · refine w_aload_n dX11_undo_23 rfl ?_
        refine w_getr 3 0 dX11_undo_24 fl_X11_28 rfl (by decide) ?_
        refine w_getiE (v := h 3 0 3 - 1) dX11_undo_27 fl_X11_200 rfl (by decide) rfl ?_
        refine w_goto 35 dX11_undo_30 (by decide) ?_
        exact w_iretE dX11_undo_35 rfl rfl (k.2.2 (by omega) hb1)
  · refine w_bipush dX11_undo_10 rfl ?_
    exact w_iretE dX11_undo_12 rfl rfl (k.1 (by omega))
set_option maxRecDepth 100000 in
set_option maxHeartbeats 4000000 in
theorem c_X11_anew {d : Nat} {h : fwH} {Q : Option fwV → fwH → Prop}  (J : cOk h) (hva : ∀ i : Nat, i < (h 3 0 3).toNat → gOk (mBkN h i) 0 ∧ bkV (mBkN h i)) (k : (¬ 0 < h 3 0 6 → Q (some (aI (-2))) h) ∧ (0 < h 3 0 6 → Q (some (aI (h 3 0 3))) (mBkN h (h 3 0 3).toNat))) : fwCt mX11_anew (d + 3) [aR 0 0] h Q := by
  refine fwCt_of [some (aR 0 0), none, none] rfl rfl rfl ?_
  obtain ⟨hl, hP, hG, hM0, htd, hut, hlw, hhc, ha, hs, hT, hsc⟩ := id J
  have hM : ∀ c : Nat, c < 10 → h 17 0 c ≤ 999 := fun c hc => by have := hM0 c hc; omega
  have hM9 : ∀ c : Nat, c < 10 → 0 ≤ h 17 0 c ∧ h 17 0 c ≤ 900 := fun c hc => by have := hM0 c hc; omega
  obtain ⟨⟨g1, g2⟩, ⟨g3, g4⟩, ⟨g5, g6⟩, g7, g8⟩ := id hG
  have hpz := hP.1
  refine w_aload_n dX11_anew_0 rfl ?_
  refine w_getr 3 0 dX11_anew_1 fl_X11_28 rfl (by decide) ?_
  refine w_callV (d := d + 2) (S := []) [] dX11_anew_4 ml_X11_157 ok_X2_isTold vi_X2_isTold rfl rfl (by decide) rfl (Nat.le_of_ble_eq_true rfl) ?_
  refine c_X2_isTold (d := (d + 2)) (show 0 ≤ h 3 0 6 ∧ h 3 0 6 ≤ 1000 by first | assumption | omega | decide) ?_
  show fwWP mX11_anew (d + 3) 7 [some (aR 0 0), none, none] [aI (fwB (0 < h 3 0 6))] h Q
  refine w_ifB_ne 13 dX11_anew_7 (by decide) (fun c7 => ?_) (fun c7 => ?_)
  · refine w_aload_n dX11_anew_13 rfl ?_
    refine w_getr 3 0 dX11_anew_14 fl_X11_28 rfl (by decide) ?_
    refine w_geti dX11_anew_17 fl_X11_200 rfl (by decide) ?_
    refine w_istore_n [some (aR 0 0), some (aI (h 3 0 3)), none] dX11_anew_20 rfl (by decide) ?_
    refine w_iconst dX11_anew_21 ?_
    refine w_istore_n [some (aR 0 0), some (aI (h 3 0 3)), some (aI 0)] dX11_anew_22 rfl (by decide) ?_
    have lp23 : ∀ c : Nat, c ≤ (h 3 0 3).toNat → ∀ (y23  : Int) (hh23 : fwH), y23 = (c : Int) → hh23 = (mBkN h c) → fwWP mX11_anew (d + 3) 23 [some (aR 0 0), some (aI (h 3 0 3)), some (aI y23)] [] hh23 Q := by
      refine fw_up (fun c hc23 ih23 => ?_)
      intro y23  hh23 ey23 eh23
      subst ey23
      subst eh23
      show fwWP mX11_anew (d + 3) 23 [some (aR 0 0), some (aI (h 3 0 3)), some (aI (c : Int))] [] (mBkN h c) Q
      refine w_iload_n dX11_anew_23 rfl ?_
      refine w_iload_n dX11_anew_24 rfl ?_
      refine w_icmp_ge 42 dX11_anew_25 (by decide) (by omega) (by omega) (fun c25 => ?_) (fun c25 => ?_)
      · have ec23 : (h 3 0 3).toNat = c := by omega
        subst ec23
        refine w_iload_n dX11_anew_42 rfl ?_
        exact w_iretE dX11_anew_43 rfl rfl (k.2 (by omega))
      · refine w_aload_n dX11_anew_28 rfl ?_
        refine w_getr 3 0 dX11_anew_29 fl_X11_28 rfl (by decide) ?_
        refine w_callV (d := d + 2) (S := []) [] dX11_anew_32 ml_X11_197 ok_X2_takeBack vi_X2_takeBack rfl rfl (by decide) rfl (Nat.le_of_ble_eq_true rfl) ?_
        refine c_tbK (d := d) (h := mBkN h c) (by rw [mBkN_3]; omega) (hva c (by omega)).1 (hva c (by omega)).2 ⟨fun hb0 => ?_, fun hb1 => ?_⟩
        · exact absurd (show 0 < mBkN h c 3 0 3 by rw [mBkN_3]; omega) hb0
        · show fwWP mX11_anew (d + 3) 35 [some (aR 0 0), some (aI (h 3 0 3)), some (aI (c : Int))] [aI 1] (mBkN h (c + 1)) Q
          refine w_pop dX11_anew_35 rfl ?_
          refine w_iinc [some (aR 0 0), some (aI (h 3 0 3)), some (aI ((c : Int) + 1))] dX11_anew_36 rfl rfl (by decide) ?_
          refine w_goto 23 dX11_anew_39 (by decide) ?_
          refine ih23 (by omega) _ _ ?_ ?_
          · exact (by omega)
          · exact rfl
    refine lp23 0 (Nat.zero_le _) _ _ ?_ ?_
    · exact (by omega)
    · exact rfl
  · refine w_bipush dX11_anew_10 rfl ?_
    exact w_iretE dX11_anew_12 rfl rfl (k.1 (by omega))
set_option maxRecDepth 100000 in
set_option maxHeartbeats 4000000 in
theorem c_X11_image {d : Nat} {h : fwH} {Q : Option fwV → fwH → Prop} (x : Int) (J : cOk h) (hx : -2147483648 ≤ x ∧ x < 2147483648) (k : (¬ (0 ≤ x ∧ x < 3) → Q (some (aI (-2))) h) ∧ ((0 ≤ x ∧ x < 3) → Q (some (aI 0)) (fwUp (mtCopy h (2 + x.toNat) 0) 23 0 x.toNat 1))) : fwCt mX11_image (d + 2) [aR 0 0, aI x] h Q := by
  refine fwCt_of [some (aR 0 0), some (aI x)] rfl rfl rfl ?_
  obtain ⟨hl, hP, hG, hM0, htd, hut, hlw, hhc, ha, hs, hT, hsc⟩ := id J
  have hM : ∀ c : Nat, c < 10 → h 17 0 c ≤ 999 := fun c hc => by have := hM0 c hc; omega
  have hM9 : ∀ c : Nat, c < 10 → 0 ≤ h 17 0 c ∧ h 17 0 c ≤ 900 := fun c hc => by have := hM0 c hc; omega
  obtain ⟨⟨g1, g2⟩, ⟨g3, g4⟩, ⟨g5, g6⟩, g7, g8⟩ := id hG
  have hpz := hP.1
  refine w_iload_n dX11_image_0 rfl ?_
  refine w_if_lt 9 dX11_image_1 (by decide) (by omega) (fun c1 => ?_) (fun c1 => ?_)
  · refine w_bipush dX11_image_9 rfl ?_
    exact w_iretE dX11_image_11 rfl rfl (k.1 (by omega))
  · refine w_iload_n dX11_image_4 rfl ?_
    refine w_iconst dX11_image_5 ?_
    refine w_icmp_lt 12 dX11_image_6 (by decide) (by omega) (by omega) (fun c6 => ?_) (fun c6 => ?_)
    · refine w_aload_n dX11_image_12 rfl ?_
      refine w_getr 22 0 dX11_image_13 fl_X11_32 rfl (by decide) ?_
      refine w_iload_n dX11_image_16 rfl ?_
      obtain ⟨u, rfl⟩ : ∃ u : Nat, x = (u : Int) := ⟨x.toNat, by omega⟩
      refine w_aald22 dX11_image_17 (by omega) (by omega) ?_
      refine w_aload_n dX11_image_18 rfl ?_
      refine w_getr 3 0 dX11_image_19 fl_X11_28 rfl (by decide) ?_
      refine w_callV (d := d + 1) (S := []) [aR 3 0] dX11_image_22 ml_X11_114 ok_X2_copyFrom vi_X2_copyFrom rfl rfl (show _ < 5 by omega) rfl (Nat.le_of_ble_eq_true rfl) ?_
      refine c_X2_copyFrom (d := d) (2 + u) 0 (by omega) (by decide) (by omega) g7 ?_
      show fwWP mX11_image (d + 2) 25 [some (aR 0 0), some (aI (u : Int))] [] (mtCopy h (2 + u) 0) Q
      refine w_aload_n dX11_image_25 rfl ?_
      refine w_getr 23 0 dX11_image_26 fl_X11_36 rfl (by decide) ?_
      refine w_iload_n dX11_image_29 rfl ?_
      refine w_iconst dX11_image_30 ?_
      refine w_zast dX11_image_31 rfl (by decide) (by omega) (by omega) (by first | omega | exact fwB_01 _) ?_
      refine w_iconst dX11_image_32 ?_
      exact w_iretE dX11_image_33 rfl rfl (k.2 (by omega))
    · refine w_bipush dX11_image_9 rfl ?_
      exact w_iretE dX11_image_11 rfl rfl (k.1 (by omega))
set_option maxRecDepth 100000 in
set_option maxHeartbeats 4000000 in
theorem c_X11_back {d : Nat} {h : fwH} {Q : Option fwV → fwH → Prop} (x : Int) (J : cOk h) (hx : -2147483648 ≤ x ∧ x < 2147483648) (hz3 : ∀ k : Nat, k < 3 → h 23 0 k = 0 ∨ h 23 0 k = 1) (hz4 : ∀ k : Nat, k < 3 → h 23 0 k ≠ 0 → h 4 (2 + k) 4 = 0 ∨ h 4 (2 + k) 4 = 1) (k : (¬ (0 ≤ x ∧ x < 3) → Q (some (aI (-2))) h) ∧ ((0 ≤ x ∧ x < 3) → h 23 0 x.toNat = 0 → Q (some (aI (-6))) h) ∧ ((0 ≤ x ∧ x < 3) → h 23 0 x.toNat ≠ 0 → Q (some (aI 0)) (mtCopy h 0 (2 + x.toNat)))) : fwCt mX11_back (d + 2) [aR 0 0, aI x] h Q := by
  refine fwCt_of [some (aR 0 0), some (aI x)] rfl rfl rfl ?_
  obtain ⟨hl, hP, hG, hM0, htd, hut, hlw, hhc, ha, hs, hT, hsc⟩ := id J
  have hM : ∀ c : Nat, c < 10 → h 17 0 c ≤ 999 := fun c hc => by have := hM0 c hc; omega
  have hM9 : ∀ c : Nat, c < 10 → 0 ≤ h 17 0 c ∧ h 17 0 c ≤ 900 := fun c hc => by have := hM0 c hc; omega
  obtain ⟨⟨g1, g2⟩, ⟨g3, g4⟩, ⟨g5, g6⟩, g7, g8⟩ := id hG
  have hpz := hP.1
  refine w_iload_n dX11_back_0 rfl ?_
  refine w_if_lt 9 dX11_back_1 (by decide) (by omega) (fun c1 => ?_) (fun c1 => ?_)
  · refine w_bipush dX11_back_9 rfl ?_
    exact w_iretE dX11_back_11 rfl rfl (k.1 (by omega))
  · refine w_iload_n dX11_back_4 rfl ?_
    refine w_iconst dX11_back_5 ?_
    refine w_icmp_lt 12 dX11_back_6 (by decide) (by omega) (by omega) (fun c6 => ?_) (fun c6 => ?_)
    · refine w_aload_n dX11_back_12 rfl ?_
      refine w_getr 23 0 dX11_back_13 fl_X11_36 rfl (by decide) ?_
      refine w_iload_n dX11_back_16 rfl ?_
      obtain ⟨u, rfl⟩ : ∃ u : Nat, x = (u : Int) := ⟨x.toNat, by omega⟩
      have hz9 := hz3 u (by omega)
      refine w_zaldE (v := h 23 0 u) dX11_back_17 rfl (by decide) (by omega) (by omega) rfl ?_
      refine w_if_ne 24 dX11_back_18 (by decide) (by omega) (fun c18 => ?_) (fun c18 => ?_)
      · refine w_aload_n dX11_back_24 rfl ?_
        refine w_getr 3 0 dX11_back_25 fl_X11_28 rfl (by decide) ?_
        refine w_aload_n dX11_back_28 rfl ?_
        refine w_getr 22 0 dX11_back_29 fl_X11_32 rfl (by decide) ?_
        refine w_iload_n dX11_back_32 rfl ?_
        refine w_aald22 dX11_back_33 (by omega) (by omega) ?_
        refine w_callV (d := d + 1) (S := []) [aR 3 (2 + ((u : Int)).toNat)] dX11_back_34 ml_X11_114 ok_X2_copyFrom vi_X2_copyFrom rfl rfl (by decide) rfl (Nat.le_of_ble_eq_true rfl) ?_
        refine c_X2_copyFrom (d := d) 0 (2 + u) (by decide) (by omega) (by omega) (hz4 u (by omega) (by omega)) ?_
        show fwWP mX11_back (d + 2) 37 [some (aR 0 0), some (aI (u : Int))] [] (mtCopy h 0 (2 + u)) Q
        refine w_iconst dX11_back_37 ?_
        exact w_iretE dX11_back_38 rfl rfl (k.2.2 (by omega) (by show h 23 0 u ≠ 0; omega))
      · refine w_bipush dX11_back_21 rfl ?_
        exact w_iretE dX11_back_23 rfl rfl (k.2.1 (by omega) (by show h 23 0 u = 0; omega))
    · refine w_bipush dX11_back_9 rfl ?_
      exact w_iretE dX11_back_11 rfl rfl (k.1 (by omega))
set_option maxRecDepth 100000 in
set_option maxHeartbeats 4000000 in
theorem c_X11_row {d : Nat} {h : fwH} {Q : Option fwV → fwH → Prop} (x y z : Int) (J : cOk h) (hx : -2147483648 ≤ x ∧ x < 2147483648) (hy : -2147483648 ≤ y ∧ y < 2147483648) (hz : -2147483648 ≤ z ∧ z < 2147483648) (k : (¬ ((0 ≤ x ∧ x < 4) ∧ (0 ≤ y ∧ y < 4) ∧ z ≤ 60) → Q (some (aI (-2))) h) ∧ (((0 ≤ x ∧ x < 4) ∧ (0 ≤ y ∧ y < 4) ∧ z ≤ 60) → z < 0 → Q (some (aI (-3))) h) ∧ (((0 ≤ x ∧ x < 4) ∧ (0 ≤ y ∧ y < 4) ∧ z ≤ 60) → ¬ z < 0 → Q (some (aI 0)) (fwUc (fwUp (fwUp h 34 0 x.toNat y) 35 0 x.toNat z) 33 x.toNat (fun _ => 0)))) : fwCt mX11_row (d + 2) [aR 0 0, aI x, aI y, aI z] h Q := by
  refine fwCt_of [some (aR 0 0), some (aI x), some (aI y), some (aI z)] rfl rfl rfl ?_
  obtain ⟨hl, hP, hG, hM0, htd, hut, hlw, hhc, ha, hs, hT, hsc⟩ := id J
  have hM : ∀ c : Nat, c < 10 → h 17 0 c ≤ 999 := fun c hc => by have := hM0 c hc; omega
  have hM9 : ∀ c : Nat, c < 10 → 0 ≤ h 17 0 c ∧ h 17 0 c ≤ 900 := fun c hc => by have := hM0 c hc; omega
  obtain ⟨⟨g1, g2⟩, ⟨g3, g4⟩, ⟨g5, g6⟩, g7, g8⟩ := id hG
  have hpz := hP.1
  refine w_aload_n dX11_row_0 rfl ?_
  refine w_getr 11 0 dX11_row_1 fl_X11_43 rfl (by decide) ?_
  refine w_iload_n dX11_row_4 rfl ?_
  refine w_callV (d := d + 1) (S := []) [aI x] dX11_row_5 ml_X11_353 ok_X8_has vi_X8_has rfl rfl (by decide) rfl (Nat.le_of_ble_eq_true rfl) ?_
  refine c_X8_has (d := (d + 1)) x (by first | assumption | omega | decide) ?_
  show fwWP mX11_row (d + 2) 8 [some (aR 0 0), some (aI x), some (aI y), some (aI z)] [aI (fwB (0 ≤ x ∧ x < 4))] h Q
  refine w_ifB_eq 26 dX11_row_8 (by decide) (fun c8 => ?_) (fun c8 => ?_)
  · refine w_bipush dX11_row_26 rfl ?_
    exact w_iretE dX11_row_28 rfl rfl (k.1 (by omega))
  · refine w_iload_n dX11_row_11 rfl ?_
    refine w_if_lt 26 dX11_row_12 (by decide) (by omega) (fun c12 => ?_) (fun c12 => ?_)
    · refine w_bipush dX11_row_26 rfl ?_
      exact w_iretE dX11_row_28 rfl rfl (k.1 (by omega))
    · refine w_iload_n dX11_row_15 rfl ?_
      refine w_iconst dX11_row_16 ?_
      refine w_icmp_ge 26 dX11_row_17 (by decide) (by omega) (by omega) (fun c17 => ?_) (fun c17 => ?_)
      · refine w_bipush dX11_row_26 rfl ?_
        exact w_iretE dX11_row_28 rfl rfl (k.1 (by omega))
      · refine w_iload_n dX11_row_20 rfl ?_
        refine w_bipush dX11_row_21 rfl ?_
        refine w_icmp_le 29 dX11_row_23 (by decide) (by omega) (by omega) (fun c23 => ?_) (fun c23 => ?_)
        · refine w_iload_n dX11_row_29 rfl ?_
          refine w_if_ge 36 dX11_row_30 (by decide) (by omega) (fun c30 => ?_) (fun c30 => ?_)
          · refine w_aload_n dX11_row_36 rfl ?_
            refine w_getr 11 0 dX11_row_37 fl_X11_43 rfl (by decide) ?_
            refine w_iload_n dX11_row_40 rfl ?_
            refine w_iload_n dX11_row_41 rfl ?_
            refine w_iload_n dX11_row_42 rfl ?_
            refine w_callV (d := d + 1) (S := []) [aI x, aI y, aI z] dX11_row_43 ml_X11_354 ok_X8_lay vi_X8_lay rfl rfl (by decide) rfl (Nat.le_of_ble_eq_true rfl) ?_
            refine c_X8_lay (d := d) x y z (by omega) (by omega) ?_
            show fwWP mX11_row (d + 2) 46 [some (aR 0 0), some (aI x), some (aI y), some (aI z)] [] (fwUc (fwUp (fwUp h 34 0 x.toNat y) 35 0 x.toNat z) 33 x.toNat (fun _ => 0)) Q
            refine w_iconst dX11_row_46 ?_
            exact w_iretE dX11_row_47 rfl rfl (k.2.2 (by omega) (by omega))
          · refine w_bipush dX11_row_33 rfl ?_
            exact w_iretE dX11_row_35 rfl rfl (k.2.1 (by omega) (by omega))
        · refine w_bipush dX11_row_26 rfl ?_
          exact w_iretE dX11_row_28 rfl rfl (k.1 (by omega))
set_option maxRecDepth 100000 in
set_option maxHeartbeats 4000000 in
theorem c_X11_write {d : Nat} {h : fwH} {Q : Option fwV → fwH → Prop} (x y v : Int) (J : cOk h) (hx : -2147483648 ≤ x ∧ x < 2147483648) (hy : -2147483648 ≤ y ∧ y < 2147483648) (k : (¬ (0 ≤ x ∧ x < 4) → Q (some (aI (-2))) h) ∧ ((0 ≤ x ∧ x < 4) → mSz (h 35 0) x = -1 → Q (some (aI (-6))) h) ∧ ((0 ≤ x ∧ x < 4) → mSz (h 35 0) x ≠ -1 → ¬ (0 ≤ y ∧ y < mSz (h 35 0) x) → Q (some (aI (-7))) h) ∧ ((0 ≤ x ∧ x < 4) → mSz (h 35 0) x ≠ -1 → (0 ≤ y ∧ y < mSz (h 35 0) x) → Q (some (aI 0)) (fwUp h 33 x.toNat y.toNat (mCut v (h 34 0 x.toNat))))) : fwCt mX11_write (d + 2) [aR 0 0, aI x, aI y, aJ v] h Q := by
  refine fwCt_of [some (aR 0 0), some (aI x), some (aI y), some (aJ v), none] rfl rfl rfl ?_
  obtain ⟨hl, hP, hG, hM0, htd, hut, hlw, hhc, ha, hs, hT, hsc⟩ := id J
  have hM : ∀ c : Nat, c < 10 → h 17 0 c ≤ 999 := fun c hc => by have := hM0 c hc; omega
  have hM9 : ∀ c : Nat, c < 10 → 0 ≤ h 17 0 c ∧ h 17 0 c ≤ 900 := fun c hc => by have := hM0 c hc; omega
  obtain ⟨⟨g1, g2⟩, ⟨g3, g4⟩, ⟨g5, g6⟩, g7, g8⟩ := id hG
  have hpz := hP.1
  have hzr := mSz_rng hs x
  refine w_aload_n dX11_write_0 rfl ?_
  refine w_getr 11 0 dX11_write_1 fl_X11_43 rfl (by decide) ?_
  refine w_iload_n dX11_write_4 rfl ?_
  refine w_callV (d := d + 1) (S := []) [aI x] dX11_write_5 ml_X11_353 ok_X8_has vi_X8_has rfl rfl (by decide) rfl (Nat.le_of_ble_eq_true rfl) ?_
  refine c_X8_has (d := (d + 1)) x (by first | assumption | omega | decide) ?_
  show fwWP mX11_write (d + 2) 8 [some (aR 0 0), some (aI x), some (aI y), some (aJ v), none] [aI (fwB (0 ≤ x ∧ x < 4))] h Q
  refine w_ifB_ne 14 dX11_write_8 (by decide) (fun c8 => ?_) (fun c8 => ?_)
  · refine w_aload_n dX11_write_14 rfl ?_
    refine w_getr 11 0 dX11_write_15 fl_X11_43 rfl (by decide) ?_
    refine w_iload_n dX11_write_18 rfl ?_
    refine w_callV (d := d + 1) (S := []) [aI x] dX11_write_19 ml_X11_357 ok_X8_isLaid vi_X8_isLaid rfl rfl (by decide) rfl (Nat.le_of_ble_eq_true rfl) ?_
    refine c_X8_isLaid (d := d) x (by first | assumption | omega | decide) (by first | assumption | omega | decide) ?_
    show fwWP mX11_write (d + 2) 22 [some (aR 0 0), some (aI x), some (aI y), some (aJ v), none] [aI (fwB (mSz (h 35 0) x ≠ -1))] h Q
    refine w_ifB_ne 28 dX11_write_22 (by decide) (fun c22 => ?_) (fun c22 => ?_)
    · refine w_iload_n dX11_write_28 rfl ?_
      refine w_if_lt 44 dX11_write_29 (by decide) (by omega) (fun c29 => ?_) (fun c29 => ?_)
      · refine w_bipush dX11_write_44 rfl ?_
        exact w_iretE dX11_write_46 rfl rfl (k.2.2.1 (by omega) (by omega) (by omega))
      · refine w_iload_n dX11_write_32 rfl ?_
        refine w_aload_n dX11_write_33 rfl ?_
        refine w_getr 11 0 dX11_write_34 fl_X11_43 rfl (by decide) ?_
        refine w_iload_n dX11_write_37 rfl ?_
        refine w_callV (d := d + 1) (S := [aI y]) [aI x] dX11_write_38 ml_X11_360 ok_X8_sizeOf vi_X8_sizeOf rfl rfl (by decide) rfl (Nat.le_of_ble_eq_true rfl) ?_
        refine c_X8_sizeOf (d := (d + 1)) x (by first | assumption | omega | decide) ?_
        show fwWP mX11_write (d + 2) 41 [some (aR 0 0), some (aI x), some (aI y), some (aJ v), none] [aI (mSz (h 35 0) x), aI y] h Q
        have hz4 := mSz_rng hs x
        refine w_icmp_lt 47 dX11_write_41 (by decide) (by omega) (by omega) (fun c41 => ?_) (fun c41 => ?_)
        · refine w_aload_n dX11_write_47 rfl ?_
          refine w_getr 11 0 dX11_write_48 fl_X11_43 rfl (by decide) ?_
          refine w_iload_n dX11_write_51 rfl ?_
          refine w_iload_n dX11_write_52 rfl ?_
          refine w_lload_n dX11_write_53 rfl ?_
          refine w_callV (d := d + 1) (S := []) [aI x, aI y, aJ v] dX11_write_54 ml_X11_363 ok_X8_put vi_X8_put rfl rfl (by decide) rfl (Nat.le_of_ble_eq_true rfl) ?_
          refine c_X8_put (d := d) x y v hs (by omega) (by omega) ?_
          show fwWP mX11_write (d + 2) 57 [some (aR 0 0), some (aI x), some (aI y), some (aJ v), none] [] (fwUp h 33 x.toNat y.toNat (mCut v (h 34 0 x.toNat))) Q
          refine w_iconst dX11_write_57 ?_
          exact w_iretE dX11_write_58 rfl rfl (k.2.2.2 (by omega) (by omega) (by omega))
        · refine w_bipush dX11_write_44 rfl ?_
          exact w_iretE dX11_write_46 rfl rfl (k.2.2.1 (by omega) (by omega) (by omega))
    · refine w_bipush dX11_write_25 rfl ?_
      exact w_iretE dX11_write_27 rfl rfl (k.2.1 (by omega) (by omega))
  · refine w_bipush dX11_write_11 rfl ?_
    exact w_iretE dX11_write_13 rfl rfl (k.1 (by omega))
theorem mSz_w {h : fwH} (hs : sOk h) (x : Int) : -1 ≤ mSz (h 34 0) x ∧ mSz (h 34 0) x ≤ 3 := by
  unfold mSz
  split
  · have := (hs x.toNat (by omega)).2.1
    omega
  · omega
set_option maxRecDepth 100000 in
set_option maxHeartbeats 4000000 in
theorem c_X11_paste {d : Nat} {h : fwH} {Q : Option fwV → fwH → Prop} (x y z u n : Int) (J : cOk h) (hx : -2147483648 ≤ x ∧ x < 2147483648) (hy : -2147483648 ≤ y ∧ y < 2147483648) (hz : -2147483648 ≤ z ∧ z < 2147483648) (hu : -2147483648 ≤ u ∧ u < 2147483648) (hn : -2147483648 ≤ n ∧ n < 2147483648) (k : (¬ ((0 ≤ x ∧ x < 4) ∧ 0 ≤ z ∧ z < 4) → Q (some (aI (-2))) h) ∧ (((0 ≤ x ∧ x < 4) ∧ 0 ≤ z ∧ z < 4) → ¬ (mSz (h 35 0) x ≠ -1 ∧ mSz (h 35 0) z ≠ -1) → Q (some (aI (-6))) h) ∧ (((0 ≤ x ∧ x < 4) ∧ 0 ≤ z ∧ z < 4) → (mSz (h 35 0) x ≠ -1 ∧ mSz (h 35 0) z ≠ -1) → ¬ (mSz (h 34 0) x = mSz (h 34 0) z) → Q (some (aI (-8))) h) ∧ (((0 ≤ x ∧ x < 4) ∧ 0 ≤ z ∧ z < 4) → (mSz (h 35 0) x ≠ -1 ∧ mSz (h 35 0) z ≠ -1) → (mSz (h 34 0) x = mSz (h 34 0) z) → ¬ ((0 ≤ y ∧ 0 ≤ n ∧ n ≤ mSz (h 35 0) x ∧ y ≤ mSz (h 35 0) x - n) ∧ 0 ≤ u ∧ 0 ≤ n ∧ n ≤ mSz (h 35 0) z ∧ u ≤ mSz (h 35 0) z - n) → Q (some (aI (-7))) h) ∧ (((0 ≤ x ∧ x < 4) ∧ 0 ≤ z ∧ z < 4) → (mSz (h 35 0) x ≠ -1 ∧ mSz (h 35 0) z ≠ -1) → (mSz (h 34 0) x = mSz (h 34 0) z) → ((0 ≤ y ∧ 0 ≤ n ∧ n ≤ mSz (h 35 0) x ∧ y ≤ mSz (h 35 0) x - n) ∧ 0 ≤ u ∧ 0 ≤ n ∧ n ≤ mSz (h 35 0) z ∧ u ≤ mSz (h 35 0) z - n) → Q (some (aI 0)) (fwUc h 33 z.toNat (va_cpy (h 33 x.toNat) (h 33 z.toNat) y.toNat u.toNat n.toNat)))) : fwCt mX11_paste (d + 3) [aR 0 0, aI x, aI y, aI z, aI u, aI n] h Q := by
  refine fwCt_of [some (aR 0 0), some (aI x), some (aI y), some (aI z), some (aI u), some (aI n)] rfl rfl rfl ?_
  obtain ⟨hl, hP, hG, hM0, htd, hut, hlw, hhc, ha, hs, hT, hsc⟩ := id J
  have hM : ∀ c : Nat, c < 10 → h 17 0 c ≤ 999 := fun c hc => by have := hM0 c hc; omega
  have hM9 : ∀ c : Nat, c < 10 → 0 ≤ h 17 0 c ∧ h 17 0 c ≤ 900 := fun c hc => by have := hM0 c hc; omega
  obtain ⟨⟨g1, g2⟩, ⟨g3, g4⟩, ⟨g5, g6⟩, g7, g8⟩ := id hG
  have hpz := hP.1
  have hz1 := mSz_rng hs x
  have hz2 := mSz_rng hs z
  have hz5 := mSz_w hs x
  have hz6 := mSz_w hs z
  refine w_aload_n dX11_paste_0 rfl ?_
  refine w_getr 11 0 dX11_paste_1 fl_X11_43 rfl (by decide) ?_
  refine w_iload_n dX11_paste_4 rfl ?_
  refine w_callV (d := d + 2) (S := []) [aI x] dX11_paste_5 ml_X11_353 ok_X8_has vi_X8_has rfl rfl (by decide) rfl (Nat.le_of_ble_eq_true rfl) ?_
  refine c_X8_has (d := (d + 2)) x (by first | assumption | omega | decide) ?_
  show fwWP mX11_paste (d + 3) 8 [some (aR 0 0), some (aI x), some (aI y), some (aI z), some (aI u), some (aI n)] [aI (fwB (0 ≤ x ∧ x < 4))] h Q
  refine w_ifB_eq 22 dX11_paste_8 (by decide) (fun c8 => ?_) (fun c8 => ?_)
  · refine w_bipush dX11_paste_22 rfl ?_
    exact w_iretE dX11_paste_24 rfl rfl (k.1 (by omega))
  · refine w_aload_n dX11_paste_11 rfl ?_
    refine w_getr 11 0 dX11_paste_12 fl_X11_43 rfl (by decide) ?_
    refine w_iload_n dX11_paste_15 rfl ?_
    refine w_callV (d := d + 2) (S := []) [aI z] dX11_paste_16 ml_X11_353 ok_X8_has vi_X8_has rfl rfl (by decide) rfl (Nat.le_of_ble_eq_true rfl) ?_
    refine c_X8_has (d := (d + 2)) z (by first | assumption | omega | decide) ?_
    show fwWP mX11_paste (d + 3) 19 [some (aR 0 0), some (aI x), some (aI y), some (aI z), some (aI u), some (aI n)] [aI (fwB (0 ≤ z ∧ z < 4))] h Q
    refine w_ifB_ne 25 dX11_paste_19 (by decide) (fun c19 => ?_) (fun c19 => ?_)
    · refine w_aload_n dX11_paste_25 rfl ?_
      refine w_getr 11 0 dX11_paste_26 fl_X11_43 rfl (by decide) ?_
      refine w_iload_n dX11_paste_29 rfl ?_
      refine w_callV (d := d + 2) (S := []) [aI x] dX11_paste_30 ml_X11_357 ok_X8_isLaid vi_X8_isLaid rfl rfl (by decide) rfl (Nat.le_of_ble_eq_true rfl) ?_
      refine c_X8_isLaid (d := (d + 1)) x (by first | assumption | omega | decide) (by first | assumption | omega | decide) ?_
      show fwWP mX11_paste (d + 3) 33 [some (aR 0 0), some (aI x), some (aI y), some (aI z), some (aI u), some (aI n)] [aI (fwB (mSz (h 35 0) x ≠ -1))] h Q
      refine w_ifB_eq 47 dX11_paste_33 (by decide) (fun c33 => ?_) (fun c33 => ?_)
      · refine w_bipush dX11_paste_47 rfl ?_
        exact w_iretE dX11_paste_49 rfl rfl (k.2.1 (by omega) (by omega))
      · refine w_aload_n dX11_paste_36 rfl ?_
        refine w_getr 11 0 dX11_paste_37 fl_X11_43 rfl (by decide) ?_
        refine w_iload_n dX11_paste_40 rfl ?_
        refine w_callV (d := d + 2) (S := []) [aI z] dX11_paste_41 ml_X11_357 ok_X8_isLaid vi_X8_isLaid rfl rfl (by decide) rfl (Nat.le_of_ble_eq_true rfl) ?_
        refine c_X8_isLaid (d := (d + 1)) z (by first | assumption | omega | decide) (by first | assumption | omega | decide) ?_
        show fwWP mX11_paste (d + 3) 44 [some (aR 0 0), some (aI x), some (aI y), some (aI z), some (aI u), some (aI n)] [aI (fwB (mSz (h 35 0) z ≠ -1))] h Q
        refine w_ifB_ne 50 dX11_paste_44 (by decide) (fun c44 => ?_) (fun c44 => ?_)
        · refine w_aload_n dX11_paste_50 rfl ?_
          refine w_getr 11 0 dX11_paste_51 fl_X11_43 rfl (by decide) ?_
          refine w_iload_n dX11_paste_54 rfl ?_
          refine w_callV (d := d + 2) (S := []) [aI x] dX11_paste_55 ml_X11_367 ok_X8_widthOf vi_X8_widthOf rfl rfl (by decide) rfl (Nat.le_of_ble_eq_true rfl) ?_
          refine c_X8_widthOf (d := (d + 1)) x (by first | assumption | omega | decide) ?_
          show fwWP mX11_paste (d + 3) 58 [some (aR 0 0), some (aI x), some (aI y), some (aI z), some (aI u), some (aI n)] [aI (mSz (h 34 0) x)] h Q
          refine w_aload_n dX11_paste_58 rfl ?_
          refine w_getr 11 0 dX11_paste_59 fl_X11_43 rfl (by decide) ?_
          refine w_iload_n dX11_paste_62 rfl ?_
          refine w_callV (d := d + 2) (S := [aI (mSz (h 34 0) x)]) [aI z] dX11_paste_63 ml_X11_367 ok_X8_widthOf vi_X8_widthOf rfl rfl (by decide) rfl (Nat.le_of_ble_eq_true rfl) ?_
          refine c_X8_widthOf (d := (d + 1)) z (by first | assumption | omega | decide) ?_
          show fwWP mX11_paste (d + 3) 66 [some (aR 0 0), some (aI x), some (aI y), some (aI z), some (aI u), some (aI n)] [aI (mSz (h 34 0) z), aI (mSz (h 34 0) x)] h Q
          refine w_icmp_eq 72 dX11_paste_66 (by decide) (by omega) (by omega) (fun c66 => ?_) (fun c66 => ?_)
          · refine w_aload_n dX11_paste_72 rfl ?_
            refine w_getr 11 0 dX11_paste_73 fl_X11_43 rfl (by decide) ?_
            refine w_iload_n dX11_paste_76 rfl ?_
            refine w_iload_n dX11_paste_77 rfl ?_
            refine w_iload dX11_paste_78 rfl ?_
            refine w_callV (d := d + 2) (S := []) [aI x, aI y, aI n] dX11_paste_80 ml_X11_370 ok_X8_spans vi_X8_spans rfl rfl (by decide) rfl (Nat.le_of_ble_eq_true rfl) ?_
            refine c_X8_spans (d := (d + 1)) x y n (by first | assumption | omega | decide) (by first | assumption | omega | decide) (by first | assumption | omega | decide) (by first | assumption | omega | decide) ?_
            show fwWP mX11_paste (d + 3) 83 [some (aR 0 0), some (aI x), some (aI y), some (aI z), some (aI u), some (aI n)] [aI (fwB (0 ≤ y ∧ 0 ≤ n ∧ n ≤ mSz (h 35 0) x ∧ y ≤ mSz (h 35 0) x - n))] h Q
            refine w_ifB_eq 101 dX11_paste_83 (by decide) (fun c83 => ?_) (fun c83 => ?_)
            · refine w_bipush dX11_paste_101 rfl ?_
              exact w_iretE dX11_paste_103 rfl rfl (k.2.2.2.1 (by omega) (by omega) (by omega) (by omega))
            · refine w_aload_n dX11_paste_86 rfl ?_
              refine w_getr 11 0 dX11_paste_87 fl_X11_43 rfl (by decide) ?_
              refine w_iload_n dX11_paste_90 rfl ?_
              refine w_iload dX11_paste_91 rfl ?_
              refine w_iload dX11_paste_93 rfl ?_
              refine w_callV (d := d + 2) (S := []) [aI z, aI u, aI n] dX11_paste_95 ml_X11_370 ok_X8_spans vi_X8_spans rfl rfl (by decide) rfl (Nat.le_of_ble_eq_true rfl) ?_
              refine c_X8_spans (d := (d + 1)) z u n (by first | assumption | omega | decide) (by first | assumption | omega | decide) (by first | assumption | omega | decide) (by first | assumption | omega | decide) ?_
              show fwWP mX11_paste (d + 3) 98 [some (aR 0 0), some (aI x), some (aI y), some (aI z), some (aI u), some (aI n)] [aI (fwB (0 ≤ u ∧ 0 ≤ n ∧ n ≤ mSz (h 35 0) z ∧ u ≤ mSz (h 35 0) z - n))] h Q
              refine w_ifB_ne 104 dX11_paste_98 (by decide) (fun c98 => ?_) (fun c98 => ?_)
              · refine w_aload_n dX11_paste_104 rfl ?_
                refine w_getr 11 0 dX11_paste_105 fl_X11_43 rfl (by decide) ?_
                refine w_iload_n dX11_paste_108 rfl ?_
                refine w_iload_n dX11_paste_109 rfl ?_
                refine w_iload_n dX11_paste_110 rfl ?_
                refine w_iload dX11_paste_111 rfl ?_
                refine w_iload dX11_paste_113 rfl ?_
                refine w_callV (d := d + 2) (S := []) [aI x, aI y, aI z, aI u, aI n] dX11_paste_115 ml_X11_374 ok_X8_move vi_X8_move rfl rfl (by decide) rfl (Nat.le_of_ble_eq_true rfl) ?_
                refine c_X8_move (d := d) x y z u n hs (by omega) (by omega) (by omega) (by omega) ?_
                show fwWP mX11_paste (d + 3) 118 [some (aR 0 0), some (aI x), some (aI y), some (aI z), some (aI u), some (aI n)] [] (fwUc h 33 z.toNat (va_cpy (h 33 x.toNat) (h 33 z.toNat) y.toNat u.toNat n.toNat)) Q
                refine w_iconst dX11_paste_118 ?_
                exact w_iretE dX11_paste_119 rfl rfl (k.2.2.2.2 (by omega) (by omega) (by omega) (by omega))
              · refine w_bipush dX11_paste_101 rfl ?_
                exact w_iretE dX11_paste_103 rfl rfl (k.2.2.2.1 (by omega) (by omega) (by omega) (by omega))
          · refine w_bipush dX11_paste_69 rfl ?_
            exact w_iretE dX11_paste_71 rfl rfl (k.2.2.1 (by omega) (by omega) (by omega))
        · refine w_bipush dX11_paste_47 rfl ?_
          exact w_iretE dX11_paste_49 rfl rfl (k.2.1 (by omega) (by omega))
    · refine w_bipush dX11_paste_22 rfl ?_
      exact w_iretE dX11_paste_24 rfl rfl (k.1 (by omega))

theorem qRun_ok {K V : Nat → Int} : ∀ (n i : Nat) (W : Nat → Int), qRun K V n = .inr (i, W) → wL W ∧ W 7 ≤ (n : Int) := by
  intro n
  induction n with
  | zero =>
    intro i W e
    have e2 : (Sum.inr (0, fun _ => 0) : fwPq) = .inr (i, W) := e
    cases e2
    exact ⟨wL_init, Int.le_refl _⟩
  | succ n ih =>
    intro i W e
    cases hq : qRun K V n with
    | inl x => rw [qRun, hq] at e; cases e
    | inr x =>
      obtain ⟨h1, h2⟩ := ih x.1 x.2 hq
      by_cases hk : K x.1 = 0
      · have e3 := qRun_stay (i := x.1) (W := x.2) hq hk 1
        rw [e3] at e
        cases e
        exact ⟨h1, by omega⟩
      · rw [qRun_next (i := x.1) (W := x.2) hq hk] at e
        cases hl : qLine K V x.1 x.2 with
        | inl y => rw [hl] at e; cases e
        | inr y =>
          rw [hl] at e
          have e4 : (Sum.inr (y.1, fwFu y.2 7 (y.2 7 + 1)) : fwPq) = .inr (i, W) := e
          obtain ⟨-, l2, l3⟩ := qRun_wL (i2 := y.1) (W2 := y.2) h1 hl
          cases e4
          refine ⟨l2, ?_⟩
          rw [fwFu_at, l3]
          omega
theorem mPic_read {W H r21 : Nat → Int} (hW : wL W) (h7 : W 7 ≤ 900) (hH : rHr W H) : mPic (r3 W) (r4 W) (r5 W) H (fun j => W (19 + j)) r21 W := by
  have hg := hH.1
  have r0 : ∀ c : Nat, rep W 0 c = W (9 + c) := fun _ => rfl
  rcases hW with ⟨w7, rfl⟩ | ⟨w7, hW, w8⟩
  · refine ⟨⟨by decide, by decide, by decide, by decide, by decide, Or.inl rfl, fun c hc => by have := hg c hc; omega, fun z => absurd z (by decide), fun _ => ⟨rfl, rfl, rfl⟩, by decide, fun z => absurd z (by decide), by decide⟩, fun f hf => by dsimp only; omega, ⟨rfl, rfl, rfl, rfl, rfl, rfl, rfl, rfl, rfl, fun _ _ => rfl, fun f hf => ?_, fun z => absurd z (by decide)⟩, ⟨fun i hi c hc => ?_, fun i hi => ?_, fun c hc => ?_⟩, fun i hi => ?_⟩
    · have h2 : (f : Int) < 0 := hf
      omega
    · have h2 : (i : Int) ≤ 0 := hi
      have e0 : i = 0 := by omega
      subst e0
      exact ⟨Int.le_refl _, show (0 : Int) ≤ 99 by decide⟩
    · have h2 : (i : Int) < 0 := hi
      omega
    · have h2 : (c : Int) < 0 := hc
      omega
    · have h2 : (i : Int) < 0 := hi
      omega
  · obtain ⟨g1, g2, g3, g4, g5, g6, g7, g8, g9, g10⟩ := hW
    refine ⟨⟨⟨by show 0 ≤ W 7; omega, by show W 7 ≤ 1000; omega⟩, g8, ⟨by show 0 ≤ W 0; omega, g1.2⟩, g3, ⟨by show 0 ≤ W 2; omega, g4.2⟩, g6, fun c hc => by have := hg c hc; omega, fun _ => g1.1, fun z => ?_, ⟨by show 0 ≤ W 3; omega, g5.2⟩, fun _ => g7, show (0 : Int) ≤ 0 ∧ (0 : Int) ≤ 60 by decide⟩, fun f hf => ?_, ⟨rfl, rfl, rfl, rfl, rfl, rfl, rfl, rfl, w8, fun _ _ => rfl, fun f hf => ?_, fun _ => ⟨g4.1, g5.1⟩⟩, ⟨fun i hi c hc => ?_, fun i hi => ?_, fun c hc => ?_⟩, fun i hi => ?_⟩
    · have z2 : W 7 = 0 := z
      omega
    · obtain ⟨f1, f2⟩ := g9 f hf
      exact ⟨⟨f1.1, by have := f1.2; show W (19 + (7 * f + 0)) < 10; omega⟩, f2⟩
    · have h2 : (f : Int) < W 6 := hf
      exact (g9 f (by omega)).1.2
    · have h2 : (i : Int) ≤ 0 := hi
      have e0 : i = 0 := by omega
      subst e0
      have := g2 c hc
      rw [r0]
      omega
    · have h2 : (i : Int) < 0 := hi
      omega
    · have h2 : (c : Int) < W 0 := hc
      exact (hH.2 c h2 (by omega)).symm
    · have h2 : (i : Int) < 0 := hi
      omega
/-- behind a reading -/
theorem jI_rd {h g : fwH} (I : jI h) (r : ∀ a b, (a ≠ 1 ∧ a ≠ 2 ∧ a ≠ 12 ∧ a ≠ 14 ∧ a ≠ 15 ∧ a ≠ 16 ∧ a ≠ 41 ∧ a ≠ 36) → (b ≠ 0 ∧ b ≠ 1 ∨ (a ≠ 3 ∧ a ≠ 4 ∧ a ≠ 5 ∧ a ≠ 17 ∧ a ≠ 18 ∧ a ≠ 21)) → g a b = h a b) (t : g 1 0 1 = 0) (t5 : g 12 0 5 = 0) (f : g 12 0 12 = g 2 0 6 ∧ g 12 0 13 = g 2 0 7) (hH : rHg (g 17 1)) (m : mPic (g 3 0) (g 4 0) (g 5 0) (g 17 0) (g 18 0) (g 21 0) (g 36 0)) : jI g := by
  have no : ∀ a b, (a ≠ 1 ∧ a ≠ 2 ∧ a ≠ 12 ∧ a ≠ 14 ∧ a ≠ 15 ∧ a ≠ 16 ∧ a ≠ 41 ∧ a ≠ 36) ∧ (a ≠ 3 ∧ a ≠ 4 ∧ a ≠ 5 ∧ a ≠ 17 ∧ a ≠ 18 ∧ a ≠ 21) → g a b = h a b := fun a b z => r a b z.1 (Or.inr z.2)
  obtain ⟨i1, i2, i3, i4, i5, i6, i7⟩ := I
  obtain ⟨j1, j2, j3, j4, j5, j6, j7, j8, j9, j10, j11, j12⟩ := i1
  refine ⟨cOk_of m ?_ ?_ ?_, m, ?_, ?_, ?_, f, hH⟩
  · intro s hs
    rw [no 35 0 (by decide), no 34 0 (by decide), no 33 s (by decide)]
    exact j10 s hs
  · unfold tOk
    rw [t]
    omega
  · unfold sc
    rw [no 25 0 (by decide), no 8 0 (by decide)]
    exact j12
  · intro s hs
    rw [no 46 0 (by decide), no 47 0 (by decide), no 48 0 (by decide), no 35 0 (by decide), no 34 0 (by decide), no 33 s (by decide)]
    exact i3 s hs
  · intro k hk
    rw [no 23 0 (by decide), no 38 0 (by decide), no 37 0 (by decide), r 3 _ (by decide) (by omega), r 4 _ (by decide) (by omega), r 5 _ (by decide) (by omega), r 17 _ (by decide) (by omega), r 18 _ (by decide) (by omega), r 21 _ (by decide) (by omega)]
    exact i4 k hk
  · rw [t, t5, no 39 0 (by decide)]
    exact ⟨rfl, fun p hp => by omega, i5.2.2⟩
theorem rH_ne {h : fwH} {i : Nat} {fk fp : Int} {W H : Nat → Int} {a b : Nat} (n2 : a ≠ 2) (n : b ≠ 1 ∨ (a ≠ 3 ∧ a ≠ 4 ∧ a ≠ 5 ∧ a ≠ 17 ∧ a ≠ 18)) : rH h i fk fp W H a b = h a b := by
  unfold rH
  rw [fwUc_ne (fun z => by omega), fwUc_ne (fun z => by omega), fwUc_ne (fun z => by omega), fwUc_ne (fun z => by omega), fwUc_ne (fun z => by omega), fwUc_ne (fun z => n2 z.1)]
theorem cutH_ne {h : fwH} {a b : Nat} (n : a ≠ 1 ∧ a ≠ 14 ∧ a ≠ 15 ∧ a ≠ 16) : cutH h a b = h a b := by
  unfold cutH
  rw [fwUc_ne (fun z => n.2.2.2 z.1), fwUc_ne (fun z => n.2.2.1 z.1), fwUc_ne (fun z => n.2.1 z.1), fwUc_ne (fun z => n.1 z.1)]
theorem tok_15 {h : fwH} (hT : tOk h) {j : Nat} (hj : j ≤ tkN h) : cutH h 15 0 j = (tokP (mBy h) j : Int) := by
  obtain ⟨k1, k2, k3, k4, -⟩ := cut_at hT
  rcases Nat.lt_or_ge j (tkN h) with q | q
  · exact (k1 j q).2.1
  · rw [show j = tkN h by omega, k4, k2]
/-- mount, of a faulty text -/
theorem jI_mountF {h g : fwH} (I : jI h) {fk : Int} {j i : Nat} {W H : Nat → Int} (hj : j ≤ tkN h) (hH : rHg H) (S : mSt h (.inl (fk, j)) g) (F : mFr (fwUp (rH (cutH h) i fk (cutH h 15 0 j) W H) 1 0 1 0) g) : jI g := by
  have T : tOk h := I.1.2.2.2.2.2.2.2.2.2.2.1
  obtain ⟨-, s2, s3, s4⟩ := mSt_l S
  rw [fwUp_fu] at F
  have r : ∀ a b, (a ≠ 1 ∧ a ≠ 2 ∧ a ≠ 12 ∧ a ≠ 14 ∧ a ≠ 15 ∧ a ≠ 16 ∧ a ≠ 41) → (b ≠ 1 ∨ (a ≠ 3 ∧ a ≠ 4 ∧ a ≠ 5 ∧ a ≠ 17 ∧ a ≠ 18)) → g a b = h a b := fun a b z y => by
    rw [F a b z.2.2.1 z.2.2.2.2.2.2, fwUc_ne (fun q => z.1 q.1), rH_ne z.2.1 y, cutH_ne ⟨z.1, z.2.2.2.1, z.2.2.2.2.1, z.2.2.2.2.2.1⟩]
  have e1 : g 1 0 1 = 0 := by rw [F 1 0 (by decide) (by decide)]; rfl
  have e6 : g 2 0 6 = fk := by rw [F 2 0 (by decide) (by decide)]; rfl
  have e7 : g 2 0 7 = cutH h 15 0 j := by rw [F 2 0 (by decide) (by decide)]; rfl
  have e17 : g 17 1 = H := by rw [F 17 1 (by decide) (by decide)]; rfl
  refine jI_rd I (fun a b z y => r a b (by omega) (by omega)) e1 S.2.1 ⟨by rw [e6]; exact s3, by rw [e7, tok_15 T hj]; exact s4⟩ (by rw [e17]; exact hH) ?_
  rw [r 3 0 (by decide) (by omega), r 4 0 (by decide) (by omega), r 5 0 (by decide) (by omega), r 17 0 (by decide) (by omega), r 18 0 (by decide) (by omega), r 21 0 (by decide) (by omega), r 36 0 (by decide) (by omega)]
  exact I.2.1
/-- mount, of a text without a fault -/
theorem jI_mountG {h g : fwH} (I : jI h) {i : Nat} {W H : Nat → Int} (e : qRun (cutH h 14 0) (cutH h 16 0) 900 = .inr (i, W)) (hH : rHr W H) (S : mSt h (.inr (i, W)) g) (F : ∀ a b, a ≠ 12 → a ≠ 41 → a ≠ 36 → g a b = mouH h i W H a b) (w : ∀ z : Nat, z < 135 → g 36 0 z = W z) : jI g := by
  obtain ⟨hW, h7⟩ := qRun_ok 900 i W e
  obtain ⟨-, -, s3, s4, -⟩ := mSt_r S
  unfold mouH at F
  rw [fwUp_fu] at F
  have r : ∀ a b, (a ≠ 1 ∧ a ≠ 2 ∧ a ≠ 12 ∧ a ≠ 14 ∧ a ≠ 15 ∧ a ≠ 16 ∧ a ≠ 41 ∧ a ≠ 36) → (b ≠ 0 ∧ b ≠ 1 ∨ (a ≠ 3 ∧ a ≠ 4 ∧ a ≠ 5 ∧ a ≠ 17 ∧ a ≠ 18 ∧ a ≠ 21)) → g a b = h a b := fun a b z y => by
    rw [F a b z.2.2.1 z.2.2.2.2.2.2.1 z.2.2.2.2.2.2.2]
    have q : mtCopy (fwUc (rH (cutH h) i 0 (-1) W H) 1 0 (fwFu (rH (cutH h) i 0 (-1) W H 1 0) 1 0)) 0 1 a b = (fwUc (rH (cutH h) i 0 (-1) W H) 1 0 (fwFu (rH (cutH h) i 0 (-1) W H 1 0) 1 0)) a b := by
      rcases y with y | y
      · exact mt_ne y.1
      · exact mt_o y
    rw [q, fwUc_ne (fun q => z.1 q.1), rH_ne z.2.1 (by omega), cutH_ne ⟨z.1, z.2.2.2.1, z.2.2.2.2.1, z.2.2.2.2.2.1⟩]
  have e1 : g 1 0 1 = 0 := by rw [F 1 0 (by decide) (by decide) (by decide)]; rfl
  have e6 : g 2 0 6 = 0 := by rw [F 2 0 (by decide) (by decide) (by decide)]; rfl
  have e7 : g 2 0 7 = -1 := by rw [F 2 0 (by decide) (by decide) (by decide)]; rfl
  have e17 : g 17 1 = H := by rw [F 17 1 (by decide) (by decide) (by decide)]; rfl
  have m : mPic (g 3 0) (g 4 0) (g 5 0) (g 17 0) (g 18 0) (g 21 0) (g 36 0) := by
    rw [F 3 0 (by decide) (by decide) (by decide), F 4 0 (by decide) (by decide) (by decide), F 5 0 (by decide) (by decide) (by decide), F 17 0 (by decide) (by decide) (by decide), F 18 0 (by decide) (by decide) (by decide), F 21 0 (by decide) (by decide) (by decide)]
    exact mPic_W (mPic_read hW h7 hH) w
  exact jI_rd I r e1 S.2.1 ⟨by rw [e6]; exact s3, by rw [e7]; exact s4⟩ (by rw [e17]; exact hH.1) m

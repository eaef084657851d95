section
theorem mt_ne {h : fwH} {m q a b : Nat} (hb : b ≠ m) : mtCopy h m q a b = h a b := by
  unfold mtCopy
  rw [fwUc_ne (fun z => hb z.2), fwUc_ne (fun z => hb z.2), fwUc_ne (fun z => hb z.2), fwUc_ne (fun z => hb z.2), fwUc_ne (fun z => hb z.2), fwUc_ne (fun z => hb z.2)]
theorem mt_o {h : fwH} {m q a b : Nat} (ha : a ≠ 3 ∧ a ≠ 4 ∧ a ≠ 5 ∧ a ≠ 17 ∧ a ≠ 18 ∧ a ≠ 21) : mtCopy h m q a b = h a b := by
  unfold mtCopy
  rw [fwUc_ne (fun z => ha.2.2.2.2.2 z.1), fwUc_ne (fun z => ha.2.2.2.2.1 z.1), fwUc_ne (fun z => ha.2.2.2.1 z.1), fwUc_ne (fun z => ha.2.2.1 z.1), fwUc_ne (fun z => ha.2.1 z.1), fwUc_ne (fun z => ha.1 z.1)]
theorem mt_at {h : fwH} {m q a : Nat} (ha : a = 3 ∨ a = 4 ∨ a = 5 ∨ a = 17 ∨ a = 18 ∨ a = 21) : mtCopy h m q a m = h a q := by
  unfold mtCopy fwUc
  rcases ha with rfl | rfl | rfl | rfl | rfl | rfl <;> simp
theorem jI_image {h : fwH} (I : jI h) {x : Nat} (hx : x < 3) : jI (fwUp (fwUc (fwUp (mtCopy h (2 + x) 0) 23 0 x 1) 37 0 (fun s => if 135 * x ≤ s ∧ s < 135 * x + 135 then h 36 0 (s - 135 * x) else h 37 0 s)) 38 0 x 1) := by
  rw [fwUp_fu (mtCopy h (2 + x) 0) 23 0 x 1, fwUp_fu (fwUc _ 37 0 _) 38 0 x 1]
  generalize hg : fwUc (fwUc (fwUc (mtCopy h (2 + x) 0) 23 0 _) 37 0 _) 38 0 _ = g
  have n : ∀ a b, a ≠ 23 ∧ a ≠ 37 ∧ a ≠ 38 → g a b = mtCopy h (2 + x) 0 a b := fun a b z => by
    rw [← hg, fwUc_ne (fun y => z.2.2 y.1), fwUc_ne (fun y => z.2.1 y.1), fwUc_ne (fun y => z.1 y.1)]
  have n0 : ∀ a b, a ≠ 23 ∧ a ≠ 37 ∧ a ≠ 38 → b ≠ 2 + x → g a b = h a b := fun a b z y => (n a b z).trans (mt_ne y)
  have no : ∀ a b, (a ≠ 23 ∧ a ≠ 37 ∧ a ≠ 38) ∧ (a ≠ 3 ∧ a ≠ 4 ∧ a ≠ 5 ∧ a ≠ 17 ∧ a ≠ 18 ∧ a ≠ 21) → g a b = h a b := fun a b z => (n a b z.1).trans (mt_o z.2)
  have g23 : g 23 0 = fwFu (h 23 0) x 1 := by rw [← hg]; rfl
  have g38 : g 38 0 = fwFu (h 38 0) x 1 := by rw [← hg]; rfl
  have g37 : g 37 0 = fun s => if 135 * x ≤ s ∧ s < 135 * x + 135 then h 36 0 (s - 135 * x) else h 37 0 s := by rw [← hg]; rfl
  clear hg
  obtain ⟨i1, i2, i3, i4, i5, i6, i7⟩ := I
  obtain ⟨j1, j2, j3, j4, j5, j6, j7, j8, j9, j10, j11, j12⟩ := i1
  have m : mPic (g 3 0) (g 4 0) (g 5 0) (g 17 0) (g 18 0) (g 21 0) (g 36 0) := by
    rw [n0 3 0 (by decide) (by omega), n0 4 0 (by decide) (by omega), n0 5 0 (by decide) (by omega), n0 17 0 (by decide) (by omega), n0 18 0 (by decide) (by omega), n0 21 0 (by decide) (by omega), no 36 0 (by decide)]
    exact i2
  refine ⟨cOk_of m ?_ ?_ ?_, m, ?_, ?_, ?_, ?_, ?_⟩
  · intro s hs
    rw [no 35 0 (by decide), no 34 0 (by decide), no 33 s (by decide)]
    exact j10 s hs
  · unfold tOk
    rw [no 1 0 (by decide)]
    exact j11
  · unfold sc
    rw [no 25 0 (by decide), no 8 0 (by decide)]
    exact j12
  · intro s hs
    rw [no 46 0 (by decide), no 47 0 (by decide), no 48 0 (by decide), no 35 0 (by decide), no 34 0 (by decide), no 33 s (by decide)]
    exact i3 s hs
  · intro k hk
    obtain ⟨k1, k2, k3⟩ := i4 k hk
    rw [g23, g38, g37]
    by_cases e : k = x
    · subst e
      rw [fwFu_at, fwFu_at]
      refine ⟨Or.inr rfl, rfl, fun _ => ?_⟩
      rw [n 3 _ (by decide), n 4 _ (by decide), n 5 _ (by decide), n 17 _ (by decide), n 18 _ (by decide), n 21 _ (by decide), mt_at (by omega), mt_at (by omega), mt_at (by omega), mt_at (by omega), mt_at (by omega), mt_at (by omega)]
      refine mPic_W i2 (fun s hs => ?_)
      show (if 135 * k ≤ 135 * k + s ∧ 135 * k + s < 135 * k + 135 then h 36 0 (135 * k + s - 135 * k) else h 37 0 (135 * k + s)) = h 36 0 s
      rw [if_pos (by omega), Nat.add_sub_cancel_left]
    · rw [fwFu_ne e, fwFu_ne e]
      refine ⟨k1, k2, fun q => ?_⟩
      rw [n0 3 _ (by decide) (by omega), n0 4 _ (by decide) (by omega), n0 5 _ (by decide) (by omega), n0 17 _ (by decide) (by omega), n0 18 _ (by decide) (by omega), n0 21 _ (by decide) (by omega)]
      refine mPic_W (k3 q) (fun s hs => ?_)
      show (if 135 * x ≤ 135 * k + s ∧ 135 * k + s < 135 * x + 135 then h 36 0 (135 * k + s - 135 * x) else h 37 0 (135 * k + s)) = h 37 0 (135 * k + s)
      rw [if_neg (by omega)]
  · rw [no 1 0 (by decide), no 39 0 (by decide), no 13 0 (by decide), no 12 0 (by decide)]
    exact i5
  · rw [no 2 0 (by decide), no 12 0 (by decide)]
    exact i6
  · rw [n0 17 1 (by decide) (by omega)]
    exact i7
end
section
theorem qRun_ok {K V : Nat → Int} : ∀ (n i : Nat) (W : Nat → Int), qRun K V n = .inr (i, W) → wL W ∧ W 7 ≤ (n : Int) := by
  intro n
  induction n with
  | zero =>
    intro i W e
    have e2 : (Sum.inr (0, fun _ => 0) : fwPq) = .inr (i, W) := e
    cases e2
    exact ⟨wL_init, Int.le_refl _⟩
  | succ n ih =>
    intro i W e
    cases hq : qRun K V n with
    | inl x => rw [qRun, hq] at e; cases e
    | inr x =>
      obtain ⟨h1, h2⟩ := ih x.1 x.2 hq
      by_cases hk : K x.1 = 0
      · have e3 := qRun_stay (i := x.1) (W := x.2) hq hk 1
        rw [e3] at e
        cases e
        exact ⟨h1, by omega⟩
      · rw [qRun_next (i := x.1) (W := x.2) hq hk] at e
        cases hl : qLine K V x.1 x.2 with
        | inl y => rw [hl] at e; cases e
        | inr y =>
          rw [hl] at e
          have e4 : (Sum.inr (y.1, fwFu y.2 7 (y.2 7 + 1)) : fwPq) = .inr (i, W) := e
          obtain ⟨-, l2, l3⟩ := qRun_wL (i2 := y.1) (W2 := y.2) h1 hl
          cases e4
          refine ⟨l2, ?_⟩
          rw [fwFu_at, l3]
          omega
theorem mPic_read {W H r21 : Nat → Int} (hW : wL W) (h7 : W 7 ≤ 900) (hH : rHr W H) : mPic (r3 W) (r4 W) (r5 W) H (fun j => W (19 + j)) r21 W := by
  have hg := hH.1
  have r0 : ∀ c : Nat, rep W 0 c = W (9 + c) := fun _ => rfl
  rcases hW with ⟨w7, rfl⟩ | ⟨w7, hW, w8⟩
  · refine ⟨⟨by decide, by decide, by decide, by decide, by decide, Or.inl rfl, fun c hc => by have := hg c hc; omega, fun z => absurd z (by decide), fun _ => ⟨rfl, rfl, rfl⟩, by decide, fun z => absurd z (by decide), by decide⟩, fun f hf => by dsimp only; omega, ⟨rfl, rfl, rfl, rfl, rfl, rfl, rfl, rfl, rfl, fun _ _ => rfl, fun f hf => ?_, fun z => absurd z (by decide)⟩, ⟨fun i hi c hc => ?_, fun i hi => ?_, fun c hc => ?_⟩, fun i hi => ?_⟩
    · have h2 : (f : Int) < 0 := hf
      omega
    · have h2 : (i : Int) ≤ 0 := hi
      have e0 : i = 0 := by omega
      subst e0
      exact ⟨Int.le_refl _, show (0 : Int) ≤ 99 by decide⟩
    · have h2 : (i : Int) < 0 := hi
      omega
    · have h2 : (c : Int) < 0 := hc
      omega
    · have h2 : (i : Int) < 0 := hi
      omega
  · obtain ⟨g1, g2, g3, g4, g5, g6, g7, g8, g9, g10⟩ := hW
    refine ⟨⟨⟨by show 0 ≤ W 7; omega, by show W 7 ≤ 1000; omega⟩, g8, ⟨by show 0 ≤ W 0; omega, g1.2⟩, g3, ⟨by show 0 ≤ W 2; omega, g4.2⟩, g6, fun c hc => by have := hg c hc; omega, fun _ => g1.1, fun z => ?_, ⟨by show 0 ≤ W 3; omega, g5.2⟩, fun _ => g7, show (0 : Int) ≤ 0 ∧ (0 : Int) ≤ 60 by decide⟩, fun f hf => ?_, ⟨rfl, rfl, rfl, rfl, rfl, rfl, rfl, rfl, w8, fun _ _ => rfl, fun f hf => ?_, fun _ => ⟨g4.1, g5.1⟩⟩, ⟨fun i hi c hc => ?_, fun i hi => ?_, fun c hc => ?_⟩, fun i hi => ?_⟩
    · have z2 : W 7 = 0 := z
      omega
    · obtain ⟨f1, f2⟩ := g9 f hf
      exact ⟨⟨f1.1, by have := f1.2; show W (19 + (7 * f + 0)) < 10; omega⟩, f2⟩
    · have h2 : (f : Int) < W 6 := hf
      exact (g9 f (by omega)).1.2
    · have h2 : (i : Int) ≤ 0 := hi
      have e0 : i = 0 := by omega
      subst e0
      have := g2 c hc
      rw [r0]
      omega
    · have h2 : (i : Int) < 0 := hi
      omega
    · have h2 : (c : Int) < W 0 := hc
      exact (hH.2 c h2 (by omega)).symm
    · have h2 : (i : Int) < 0 := hi
      omega
/-- behind a reading -/
theorem jI_rd {h g : fwH} (I : jI h) (r : ∀ a b, (a ≠ 1 ∧ a ≠ 2 ∧ a ≠ 12 ∧ a ≠ 14 ∧ a ≠ 15 ∧ a ≠ 16 ∧ a ≠ 41 ∧ a ≠ 36) → (b ≠ 0 ∧ b ≠ 1 ∨ (a ≠ 3 ∧ a ≠ 4 ∧ a ≠ 5 ∧ a ≠ 17 ∧ a ≠ 18 ∧ a ≠ 21)) → g a b = h a b) (t : g 1 0 1 = 0) (t5 : g 12 0 5 = 0) (f : g 12 0 12 = g 2 0 6 ∧ g 12 0 13 = g 2 0 7) (hH : rHg (g 17 1)) (m : mPic (g 3 0) (g 4 0) (g 5 0) (g 17 0) (g 18 0) (g 21 0) (g 36 0)) : jI g := by
  have no : ∀ a b, (a ≠ 1 ∧ a ≠ 2 ∧ a ≠ 12 ∧ a ≠ 14 ∧ a ≠ 15 ∧ a ≠ 16 ∧ a ≠ 41 ∧ a ≠ 36) ∧ (a ≠ 3 ∧ a ≠ 4 ∧ a ≠ 5 ∧ a ≠ 17 ∧ a ≠ 18 ∧ a ≠ 21) → g a b = h a b := fun a b z => r a b z.1 (Or.inr z.2)
  obtain ⟨i1, i2, i3, i4, i5, i6, i7⟩ := I
  obtain ⟨j1, j2, j3, j4, j5, j6, j7, j8, j9, j10, j11, j12⟩ := i1
  refine ⟨cOk_of m ?_ ?_ ?_, m, ?_, ?_, ?_, f, hH⟩
  · intro s hs
    rw [no 35 0 (by decide), no 34 0 (by decide), no 33 s (by decide)]
    exact j10 s hs
  · unfold tOk
    rw [t]
    omega
  · unfold sc
    rw [no 25 0 (by decide), no 8 0 (by decide)]
    exact j12
  · intro s hs
    rw [no 46 0 (by decide), no 47 0 (by decide), no 48 0 (by decide), no 35 0 (by decide), no 34 0 (by decide), no 33 s (by decide)]
    exact i3 s hs
  · intro k hk
    rw [no 23 0 (by decide), no 38 0 (by decide), no 37 0 (by decide), r 3 _ (by decide) (by omega), r 4 _ (by decide) (by omega), r 5 _ (by decide) (by omega), r 17 _ (by decide) (by omega), r 18 _ (by decide) (by omega), r 21 _ (by decide) (by omega)]
    exact i4 k hk
  · rw [t, t5, no 39 0 (by decide)]
    exact ⟨rfl, fun p hp => by omega, i5.2.2⟩
theorem rH_ne {h : fwH} {i : Nat} {fk fp : Int} {W H : Nat → Int} {a b : Nat} (n2 : a ≠ 2) (n : b ≠ 1 ∨ (a ≠ 3 ∧ a ≠ 4 ∧ a ≠ 5 ∧ a ≠ 17 ∧ a ≠ 18)) : rH h i fk fp W H a b = h a b := by
  unfold rH
  rw [fwUc_ne (fun z => by omega), fwUc_ne (fun z => by omega), fwUc_ne (fun z => by omega), fwUc_ne (fun z => by omega), fwUc_ne (fun z => by omega), fwUc_ne (fun z => n2 z.1)]
theorem cutH_ne {h : fwH} {a b : Nat} (n : a ≠ 1 ∧ a ≠ 14 ∧ a ≠ 15 ∧ a ≠ 16) : cutH h a b = h a b := by
  unfold cutH
  rw [fwUc_ne (fun z => n.2.2.2 z.1), fwUc_ne (fun z => n.2.2.1 z.1), fwUc_ne (fun z => n.2.1 z.1), fwUc_ne (fun z => n.1 z.1)]
theorem tok_15 {h : fwH} (hT : tOk h) {j : Nat} (hj : j ≤ tkN h) : cutH h 15 0 j = (tokP (mBy h) j : Int) := by
  obtain ⟨k1, k2, k3, k4, -⟩ := cut_at hT
  rcases Nat.lt_or_ge j (tkN h) with q | q
  · exact (k1 j q).2.1
  · rw [show j = tkN h by omega, k4, k2]
/-- mount, of a faulty text -/
theorem jI_mountF {h g : fwH} (I : jI h) {fk : Int} {j i : Nat} {W H : Nat → Int} (hj : j ≤ tkN h) (hH : rHg H) (S : mSt h (.inl (fk, j)) g) (F : mFr (fwUp (rH (cutH h) i fk (cutH h 15 0 j) W H) 1 0 1 0) g) : jI g := by
  have T : tOk h := I.1.2.2.2.2.2.2.2.2.2.2.1
  obtain ⟨-, s2, s3, s4⟩ := mSt_l S
  rw [fwUp_fu] at F
  have r : ∀ a b, (a ≠ 1 ∧ a ≠ 2 ∧ a ≠ 12 ∧ a ≠ 14 ∧ a ≠ 15 ∧ a ≠ 16 ∧ a ≠ 41) → (b ≠ 1 ∨ (a ≠ 3 ∧ a ≠ 4 ∧ a ≠ 5 ∧ a ≠ 17 ∧ a ≠ 18)) → g a b = h a b := fun a b z y => by
    rw [F a b z.2.2.1 z.2.2.2.2.2.2, fwUc_ne (fun q => z.1 q.1), rH_ne z.2.1 y, cutH_ne ⟨z.1, z.2.2.2.1, z.2.2.2.2.1, z.2.2.2.2.2.1⟩]
  have e1 : g 1 0 1 = 0 := by rw [F 1 0 (by decide) (by decide)]; rfl
  have e6 : g 2 0 6 = fk := by rw [F 2 0 (by decide) (by decide)]; rfl
  have e7 : g 2 0 7 = cutH h 15 0 j := by rw [F 2 0 (by decide) (by decide)]; rfl
  have e17 : g 17 1 = H := by rw [F 17 1 (by decide) (by decide)]; rfl
  refine jI_rd I (fun a b z y => r a b (by omega) (by omega)) e1 S.2.1 ⟨by rw [e6]; exact s3, by rw [e7, tok_15 T hj]; exact s4⟩ (by rw [e17]; exact hH) ?_
  rw [r 3 0 (by decide) (by omega), r 4 0 (by decide) (by omega), r 5 0 (by decide) (by omega), r 17 0 (by decide) (by omega), r 18 0 (by decide) (by omega), r 21 0 (by decide) (by omega), r 36 0 (by decide) (by omega)]
  exact I.2.1
/-- mount, of a text without a fault -/
theorem jI_mountG {h g : fwH} (I : jI h) {i : Nat} {W H : Nat → Int} (e : qRun (cutH h 14 0) (cutH h 16 0) 900 = .inr (i, W)) (hH : rHr W H) (S : mSt h (.inr (i, W)) g) (F : ∀ a b, a ≠ 12 → a ≠ 41 → a ≠ 36 → g a b = mouH h i W H a b) (w : ∀ z : Nat, z < 135 → g 36 0 z = W z) : jI g := by
  obtain ⟨hW, h7⟩ := qRun_ok 900 i W e
  obtain ⟨-, -, s3, s4, -⟩ := mSt_r S
  unfold mouH at F
  rw [fwUp_fu] at F
  have r : ∀ a b, (a ≠ 1 ∧ a ≠ 2 ∧ a ≠ 12 ∧ a ≠ 14 ∧ a ≠ 15 ∧ a ≠ 16 ∧ a ≠ 41 ∧ a ≠ 36) → (b ≠ 0 ∧ b ≠ 1 ∨ (a ≠ 3 ∧ a ≠ 4 ∧ a ≠ 5 ∧ a ≠ 17 ∧ a ≠ 18 ∧ a ≠ 21)) → g a b = h a b := fun a b z y => by
    rw [F a b z.2.2.1 z.2.2.2.2.2.2.1 z.2.2.2.2.2.2.2]
    have q : mtCopy (fwUc (rH (cutH h) i 0 (-1) W H) 1 0 (fwFu (rH (cutH h) i 0 (-1) W H 1 0) 1 0)) 0 1 a b = (fwUc (rH (cutH h) i 0 (-1) W H) 1 0 (fwFu (rH (cutH h) i 0 (-1) W H 1 0) 1 0)) a b := by
      rcases y with y | y
      · exact mt_ne y.1
      · exact mt_o y
    rw [q, fwUc_ne (fun q => z.1 q.1), rH_ne z.2.1 (by omega), cutH_ne ⟨z.1, z.2.2.2.1, z.2.2.2.2.1, z.2.2.2.2.2.1⟩]
  have e1 : g 1 0 1 = 0 := by rw [F 1 0 (by decide) (by decide) (by decide)]; rfl
  have e6 : g 2 0 6 = 0 := by rw [F 2 0 (by decide) (by decide) (by decide)]; rfl
  have e7 : g 2 0 7 = -1 := by rw [F 2 0 (by decide) (by decide) (by decide)]; rfl
  have e17 : g 17 1 = H := by rw [F 17 1 (by decide) (by decide) (by decide)]; rfl
  have m : mPic (g 3 0) (g 4 0) (g 5 0) (g 17 0) (g 18 0) (g 21 0) (g 36 0) := by
    rw [F 3 0 (by decide) (by decide) (by decide), F 4 0 (by decide) (by decide) (by decide), F 5 0 (by decide) (by decide) (by decide), F 17 0 (by decide) (by decide) (by decide), F 18 0 (by decide) (by decide) (by decide), F 21 0 (by decide) (by decide) (by decide)]
    exact mPic_W (mPic_read hW h7 hH) w
  exact jI_rd I r e1 S.2.1 ⟨by rw [e6]; exact s3, by rw [e7]; exact s4⟩ (by rw [e17]; exact hH.1) m
end
section
theorem z00 {k b : Nat} (n : k ≠ 2 ∧ k ≠ 12 ∧ k ≠ 35 ∧ k ≠ 46) : h00 k b = fun _ => 0 := by
  funext j
  exact if_neg (by omega)
theorem mPic_0 : mPic (fun _ => 0) (fun _ => 0) (fun _ => 0) (fun _ => 0) (fun _ => 0) (fun _ => 0) (fun _ => 0) := by
  have m := mPic_read (W := fun _ => 0) (H := fun _ => 0) (r21 := fun _ => 0) wL_init (by decide) ⟨fun c _ => ⟨Int.le_refl _, show (0 : Int) ≤ 40 by decide⟩, fun _ _ _ => rfl⟩
  have e3 : r3 (fun _ => 0) = fun _ => 0 := by funext s; simp [r3]
  have e4 : r4 (fun _ => 0) = fun _ => 0 := by funext s; simp [r4]
  have e5 : r5 (fun _ => 0) = fun _ => 0 := by funext s; simp [r5]
  rw [e3, e4, e5] at m
  exact m
/-- as the two constructors leave it -/
theorem jI_00 : jI h00 := by
  have m : mPic (h00 3 0) (h00 4 0) (h00 5 0) (h00 17 0) (h00 18 0) (h00 21 0) (h00 36 0) := by
    rw [z00 (k := 3) (by decide), z00 (k := 4) (by decide), z00 (k := 5) (by decide), z00 (k := 17) (by decide), z00 (k := 18) (by decide), z00 (k := 21) (by decide), z00 (k := 36) (by decide)]
    exact mPic_0
  refine ⟨cOk_of m (fun s hs => ?_) ⟨by decide, by decide⟩ ⟨rfl, by decide, by decide⟩, m, fun s hs => ⟨?_, ?_, fun j hj => ?_⟩, fun k hk => ⟨Or.inl ?_, ?_, fun z => ?_⟩, ⟨rfl, fun p hp => ?_, fun p hp => ?_⟩, ⟨rfl, rfl⟩, fun c hc => ?_⟩
  · have e35 : h00 35 0 s = -1 := if_pos (by omega)
    rw [e35, z00 (k := 34) (by decide), z00 (k := 33) (by decide)]
    exact ⟨by decide, by dsimp only; omega, fun j _ => by dsimp only; omega⟩
  · have e35 : h00 35 0 s = -1 := if_pos (by omega)
    have e46 : h00 46 0 s = -1 := if_pos (by omega)
    rw [e35, e46]
  · rw [z00 (k := 47) (by decide), z00 (k := 34) (by decide)]
  · rw [z00 (k := 48) (by decide), z00 (k := 33) (by decide)]
  · rw [z00 (k := 23) (by decide)]
  · rw [z00 (k := 23) (by decide), z00 (k := 38) (by decide)]
  · rw [z00 (k := 23) (by decide)] at z
    exact absurd (show (0 : Int) = 1 from z) (by decide)
  · rw [z00 (k := 39) (by decide), z00 (k := 13) (by decide)]
  · rw [z00 (k := 39) (by decide)]
    dsimp only; omega
  · rw [z00 (k := 17) (by decide)]
    dsimp only; omega
end
section
theorem jF_g {e g : fwH} (I : jI e) (a : scr e g) : jF e g := by
  unfold jF
  rw [a.1 36 0 rfl (by decide)]
  exact jI_F I
theorem jA_g {e g : fwH} (I : jI e) (a : scr e g) : jA e g := by
  unfold jA
  rw [a.1 36 0 rfl (by decide)]
  exact jI_A I
theorem jS_g {e g : fwH} (I : jI e) (a : scr e g) : jS e g := by
  unfold jS
  rw [a.1 46 0 rfl (by decide), a.1 47 0 rfl (by decide), a.1 48 0 rfl (by decide)]
  exact jI_S I
/-- the same for a heap that the class's act has made: the model's rows stand as they stood -/
theorem jF_h {e g : fwH} (I : jI e) (r : g 36 0 = e 36 0) : jF e g := by
  unfold jF
  rw [r]
  exact jI_F I
theorem jA_h {e g : fwH} (I : jI e) (r : g 36 0 = e 36 0) : jA e g := by
  unfold jA
  rw [r]
  exact jI_A I
theorem jI_h38 {e : fwH} (I : jI e) : ∀ k : Nat, k < 3 → e 38 0 k = 0 ∨ e 38 0 k = 1 := fun k hk => by
  have := I.2.2.2.1 k hk
  rw [this.2.1]
  exact this.1
theorem jI_h23 {e : fwH} (I : jI e) : ∀ k : Nat, k < 3 → e 23 0 k = 0 ∨ e 23 0 k = 1 := fun k hk => (I.2.2.2.1 k hk).1
theorem jI_h44 {e : fwH} (I : jI e) : ∀ k : Nat, k < 3 → e 23 0 k ≠ 0 → e 4 (2 + k) 4 = 0 ∨ e 4 (2 + k) 4 = 1 := fun k hk h0 => by
  obtain ⟨h1, -, h3⟩ := I.2.2.2.1 k hk
  exact (h3 (by omega)).1.2.2.2.2.2.1
theorem jI_h46 {e : fwH} (I : jI e) : ∀ s : Nat, s < 4 → -1 ≤ e 46 0 s ∧ e 46 0 s ≤ 60 := fun s hs => by
  rw [(jI_S I s hs).1]
  exact (I.1.2.2.2.2.2.2.2.2.2.1 s hs).1
theorem jI_h47 {e : fwH} (I : jI e) : ∀ s : Nat, s < 4 → 0 ≤ e 47 0 s ∧ e 47 0 s ≤ 3 := fun s hs => by
  rw [(jI_S I s hs).2.1]
  exact (I.1.2.2.2.2.2.2.2.2.2.1 s hs).2.1
theorem jI_t5 {e : fwH} (I : jI e) : 0 ≤ e 12 0 5 ∧ e 12 0 5 ≤ 900 := by
  rw [I.2.2.2.2.1.1]
  exact I.1.2.2.2.2.2.2.2.2.2.2.1
end
section
/-- the model's call at g1 answers v and keeps the invariant -/
def prM (mm : fwM) (dd : Nat) (as : List fwV) (v : Int) (g1 : fwH) : Prop := ∀ Q2 : Option fwV → fwH → Prop, (∀ g2, jI g2 → Q2 (some (aI v)) g2) → fwCt mm dd (aR 12 0 :: as) g1 Q2
section PAIRS
variable {d d2 : Nat} {e : fwH} {Q : Option fwV → fwH → Prop}
theorem pr_take (I : jI e) (k : ∀ v g1, prM mX12_take (d2 + 6) [] v g1 → Q (some (aI v)) g1) : fwCt mX11_take (d + 3) [aR 0 0] e Q := by
  refine c_X11_take I.1 ⟨fun c => ?_, fun c1 c2 => ?_, fun c1 c2 => ?_⟩
  · exact k _ _ (fun Q2 k2 => c_X12_take (gg := e) I.1 (jI_F I) (jI_A I) ⟨fun _ => k2 _ I, fun z => absurd z c, fun z => absurd z c⟩)
  · exact k _ _ (fun Q2 k2 => c_X12_take (gg := e) I.1 (jI_F I) (jI_A I) ⟨fun z => absurd c1 z, fun _ _ A => k2 _ (jI_scr I (scr_uc (scr_rf (jI_sc I)) rfl (by decide) (by decide) (by decide))), fun _ z => absurd z c2⟩)
  · exact k _ _ (fun Q2 k2 => c_X12_take (gg := e) I.1 (jF_h I rfl) (jA_h I rfl) ⟨fun z => absurd c1 z, fun _ z => absurd c2 z, fun _ _ A => k2 _ (jI_take I A c1 c2.1 c2.2)⟩)
theorem pr_heap (I : jI e) (x : Int) (hx : -2147483648 ≤ x ∧ x < 2147483648) (k : ∀ v g1, prM mX12_heap (d2 + 6) [aI x] v g1 → Q (some (aI v)) g1) : fwCt mX11_heap (d + 4) [aR 0 0, aI x] e Q := by
  refine c_X11_heap x I.1 hx ⟨fun c => ?_, fun c1 c2 => ?_, fun c1 c2 => ?_⟩
  · exact k _ _ (fun Q2 k2 => c_X12_heap (gg := e) x I.1 (jI_F I) (jI_A I) hx ⟨fun _ => k2 _ I, fun z => absurd z c, fun z => absurd z c⟩)
  · exact k _ _ (fun Q2 k2 => c_X12_heap (gg := e) x I.1 (jI_F I) (jI_A I) hx ⟨fun z => absurd c1 z, fun _ _ A => k2 _ (jI_scr I (scr_uc (scr_rf (jI_sc I)) rfl (by decide) (by decide) (by decide))), fun _ z => absurd z c2⟩)
  · exact k _ _ (fun Q2 k2 => c_X12_heap (gg := e) x I.1 (jF_h I rfl) (jA_h I rfl) hx ⟨fun z => absurd c1 z, fun _ z => absurd c2 z, fun _ _ A => k2 _ (jI_heap I A c1 c2.1 c2.2)⟩)
theorem pr_undo (I : jI e) (k : ∀ v g1, prM mX12_undo (d2 + 1) [] v g1 → Q (some (aI v)) g1) : fwCt mX11_undo (d + 3) [aR 0 0] e Q := by
  refine c_X11_undo I.1 (jI_bkV I.2.1) ⟨fun c => ?_, fun c1 c2 => ?_, fun c1 c2 => ?_⟩
  · exact k _ _ (fun Q2 k2 => c_X12_undo (gg := e) I.1 (jI_F I) (jI_A I) ⟨fun _ => k2 _ I, fun z => absurd z c, fun z => absurd z c⟩)
  · exact k _ _ (fun Q2 k2 => c_X12_undo (gg := e) I.1 (jI_F I) (jI_A I) ⟨fun z => absurd c1 z, fun _ _ => k2 _ I, fun _ z => absurd z c2⟩)
  · exact k _ _ (fun Q2 k2 => c_X12_undo (gg := e) I.1 (jF_h I rfl) (jA_h I rfl) ⟨fun z => absurd c1 z, fun _ z => absurd c2 z, fun _ _ => k2 _ (jI_undo I c2)⟩)
theorem pr_anew (I : jI e) (k : ∀ v g1, prM mX12_anew (d2 + 1) [] v g1 → Q (some (aI v)) g1) : fwCt mX11_anew (d + 3) [aR 0 0] e Q := by
  have r : mBkN e (e 3 0 3).toNat 36 0 = e 36 0 := (bkN_pic I _ (Nat.le_refl _)).2 36 0 (by omega)
  refine c_X11_anew I.1 (anew_ok I) ⟨fun c => ?_, fun c1 => ?_⟩
  · exact k _ _ (fun Q2 k2 => c_X12_anew (gg := e) I.1 (jI_F I) (jI_A I) ⟨fun _ => k2 _ I, fun z => absurd z c⟩)
  · exact k _ _ (fun Q2 k2 => c_X12_anew (gg := e) I.1 (jF_h I r) (jA_h I r) ⟨fun z => absurd c1 z, fun _ => k2 _ (jI_anew I)⟩)
theorem pr_tell (I : jI e) (x : Int) (hx : -2147483648 ≤ x ∧ x < 2147483648) (k : ∀ v g1, prM mX12_tell (d2 + 2) [aI x] v g1 → Q (some (aI v)) g1) : fwCt mX11_tell (d + 2) [aR 0 0, aI x] e Q := by
  refine c_X11_tell x I.1 hx ⟨fun c => ?_, fun c1 c2 => ?_, fun c1 c2 => ?_⟩
  · exact k _ _ (fun Q2 k2 => c_X12_tell (gg := e) x I.1 (jI_F I) (jI_A I) hx ⟨fun _ => k2 _ I, fun z => absurd z c, fun z => absurd z c⟩)
  · exact k _ _ (fun Q2 k2 => c_X12_tell (gg := e) x I.1 (jI_F I) (jI_A I) hx ⟨fun z => absurd c1 z, fun _ _ => k2 _ I, fun _ z => absurd c2 z⟩)
  · exact k _ _ (fun Q2 k2 => c_X12_tell (gg := e) x I.1 (jF_h I rfl) (jA_h I rfl) hx ⟨fun z => absurd c1 z, fun _ z => absurd z c2, fun _ _ => k2 _ (jI_tell I c2 c1.2)⟩)
theorem pr_end (I : jI e) (x : Int) (hx : -2147483648 ≤ x ∧ x < 2147483648) (k : ∀ v g1, prM mX12_end (d2 + 1) [aI x] v g1 → Q (some (aI v)) g1) : fwCt mX11_end (d + 0) [aR 0 0, aI x] e Q := by
  have h5 := I.2.2.2.2.1.1
  refine c_X11_end x I.1 hx ⟨fun c => ?_, fun c => ?_⟩
  · exact k _ _ (fun Q2 k2 => c_X12_end x hx (show 0 ≤ e 12 0 5 ∧ e 12 0 5 ≤ 900 from jI_t5 I) ⟨fun _ => k2 _ (jI_end I c), fun z => absurd (show 0 ≤ x ∧ x ≤ e 12 0 5 by omega) z⟩)
  · exact k _ _ (fun Q2 k2 => c_X12_end x hx (jI_t5 I) ⟨fun z => absurd (show 0 ≤ x ∧ x ≤ e 1 0 1 by omega) c, fun _ => k2 _ I⟩)
theorem pr_feed (I : jI e) (a b c p q : Int) (k : ∀ v g1, prM mX12_feed (d2 + 0) [aI a, aI b, aI c, aI p, aI q] v g1 → Q (some (aI v)) g1) : fwCt mX11_feed (d + 1) [aR 0 0, aI a, aI b, aI c, aI p, aI q] e Q := by
  have h5 := I.2.2.2.2.1.1
  have h6 : aI (e 12 0 5 + 20) = aI (e 1 0 1 + 20) := by rw [h5]
  refine c_X11_feed a b c p q I.1 ⟨fun c1 => ?_, fun c1 => ?_⟩
  · exact k _ _ (fun Q2 k2 => c_X12_feed a b c p q (show 0 ≤ e 12 0 5 ∧ e 12 0 5 ≤ 900 from jI_t5 I) ⟨fun _ => Eq.mpr (congrArg (fun z => Q2 (some z) _) h6) (k2 _ (jI_feed I a b c p q _ c1)), fun z => absurd (show e 12 0 5 ≤ 880 by omega) z⟩)
  · exact k _ _ (fun Q2 k2 => c_X12_feed a b c p q (jI_t5 I) ⟨fun z => absurd (show e 1 0 1 ≤ 880 by omega) c1, fun _ => k2 _ I⟩)
theorem pr_likes (I : jI e) (x y z : Int) (hx : -2147483648 ≤ x ∧ x < 2147483648) (hy : -2147483648 ≤ y ∧ y < 2147483648) (hz : -2147483648 ≤ z ∧ z < 2147483648) (k : ∀ v g1, prM mX12_likes (d2 + 2) [aI x, aI y, aI z] v g1 → Q (some (aI v)) g1) : fwCt mX11_likes (d + 1) [aR 0 0, aI x, aI y, aI z] e Q := by
  have h8 := I.1.2.1.1.2
  refine c_X11_likes x y z I.1 hx hy hz ⟨fun c => ?_, fun c1 c2 => ?_, fun c1 c2 => ?_⟩
  · exact k _ _ (fun Q2 k2 => c_X12_likes (gg := e) x y z I.1 (jI_F I) (jI_A I) hx hy hz ⟨fun _ => k2 _ I, fun w => absurd w c, fun w => absurd w c⟩)
  · exact k _ _ (fun Q2 k2 => c_X12_likes (gg := e) x y z I.1 (jI_F I) (jI_A I) hx hy hz ⟨fun w => absurd c1 w, fun _ _ => k2 _ I, fun _ w => absurd c2 w⟩)
  · exact k _ _ (fun Q2 k2 => c_X12_likes (gg := e) x y z I.1 (jF_h I rfl) (jA_h I rfl) hx hy hz ⟨fun w => absurd c1 w, fun _ w => absurd w c2, fun _ _ => k2 _ (jI_likes I c2 (by omega) (by omega) c1.2.2)⟩)
theorem pr_image (I : jI e) (x : Int) (hx : -2147483648 ≤ x ∧ x < 2147483648) (k : ∀ v g1, prM mX12_image (d2 + 1) [aI x] v g1 → Q (some (aI v)) g1) : fwCt mX11_image (d + 2) [aR 0 0, aI x] e Q := by
  refine c_X11_image x I.1 hx ⟨fun c => ?_, fun c1 => ?_⟩
  · exact k _ _ (fun Q2 k2 => c_X12_image x hx ⟨fun _ => k2 _ I, fun w => absurd w c⟩)
  · exact k _ _ (fun Q2 k2 => c_X12_image x hx ⟨fun w => absurd c1 w, fun _ => k2 _ (jI_image I (by omega))⟩)
theorem pr_mount (I : jI e) (k : ∀ v g1, prM mX12_mount (d2 + 11) [] v g1 → Q (some (aI v)) g1) : fwCt mX11_mount (d + 8) [aR 0 0] e Q := by
  have T : tOk e := I.1.2.2.2.2.2.2.2.2.2.2.1
  obtain ⟨t1, t2, t3⟩ := I.2.2.2.2.1
  refine c_X11_mount I.1 I.2.2.2.2.2.2 ⟨fun fk j i W H q hj hH => ?_, fun i W H q hi hH => ?_⟩
  · refine k _ _ (fun Q2 k2 => c_X12_mount (gg := e) T t1 t2 t3 (fun u g w S F => ?_) (fun u V g w S F f36 => ?_))
    · rw [q] at w
      cases w
      exact k2 _ (jI_mountF I hj hH S F)
    · rw [q] at w
      cases w
  · refine k _ _ (fun Q2 k2 => c_X12_mount (gg := e) T t1 t2 t3 (fun u g w S F => ?_) (fun u V g w S F f36 => ?_))
    · rw [q] at w
      cases w
    · rw [q] at w
      cases w
      exact k2 _ (jI_mountG I q hH S F f36)
end PAIRS
end
section
section PAIRS2
variable {d d2 : Nat} {e : fwH} {Q : Option fwV → fwH → Prop}
theorem mSz_pr {f : Nat → Int} {x : Int} (hx : 0 ≤ x ∧ x < 4) : mSz f x = f x.toNat := by
  unfold mSz
  rw [if_pos hx]
theorem pr_back (I : jI e) (x : Int) (hx : -2147483648 ≤ x ∧ x < 2147483648) (k : ∀ v g1, prM mX12_back (d2 + 1) [aI x] v g1 → Q (some (aI v)) g1) : fwCt mX11_back (d + 2) [aR 0 0, aI x] e Q := by
  have h38 : ∀ c : Nat, c < 3 → e 38 0 c = e 23 0 c := fun c hc => (I.2.2.2.1 c hc).2.1
  refine c_X11_back x I.1 hx (jI_h23 I) (jI_h44 I) ⟨fun c => ?_, fun c1 c2 => ?_, fun c1 c2 => ?_⟩
  · exact k _ _ (fun Q2 k2 => c_X12_back x hx (jI_h38 I) ⟨fun _ => k2 _ I, fun w => absurd w c, fun w => absurd w c⟩)
  · exact k _ _ (fun Q2 k2 => c_X12_back x hx (jI_h38 I) ⟨fun w => absurd c1 w, fun _ _ => k2 _ I, fun _ w => absurd ((h38 _ (by omega)).trans c2) w⟩)
  · exact k _ _ (fun Q2 k2 => c_X12_back x hx (show ∀ c : Nat, c < 3 → e 38 0 c = 0 ∨ e 38 0 c = 1 from jI_h38 I) ⟨fun w => absurd c1 w, fun _ w => absurd ((h38 _ (by omega)).symm.trans w) c2, fun _ _ => k2 _ (jI_back I (by omega) c2)⟩)
theorem pr_row (I : jI e) (x y z : Int) (hx : -2147483648 ≤ x ∧ x < 2147483648) (hy : -2147483648 ≤ y ∧ y < 2147483648) (hz : -2147483648 ≤ z ∧ z < 2147483648) (k : ∀ v g1, prM mX12_row (d2 + 2) [aI x, aI y, aI z] v g1 → Q (some (aI v)) g1) : fwCt mX11_row (d + 2) [aR 0 0, aI x, aI y, aI z] e Q := by
  refine c_X11_row x y z I.1 hx hy hz ⟨fun c => ?_, fun c1 c2 => ?_, fun c1 c2 => ?_⟩
  · exact k _ _ (fun Q2 k2 => c_X12_row x y z hx hy hz ⟨fun _ => k2 _ I, fun w => absurd w c, fun w => absurd w c⟩)
  · exact k _ _ (fun Q2 k2 => c_X12_row x y z hx hy hz ⟨fun w => absurd c1 w, fun _ _ => k2 _ I, fun _ w => absurd c2 w⟩)
  · exact k _ _ (fun Q2 k2 => c_X12_row x y z hx hy hz ⟨fun w => absurd c1 w, fun _ w => absurd w c2, fun _ _ => k2 _ (jI_row I (by omega) (by omega) (by omega))⟩)
theorem pr_write (I : jI e) (x y v : Int) (hx : -2147483648 ≤ x ∧ x < 2147483648) (hy : -2147483648 ≤ y ∧ y < 2147483648) (hv : -9223372036854775808 ≤ v ∧ v < 9223372036854775808) (k : ∀ u g1, prM mX12_write (d2 + 2) [aI x, aI y, aJ v] u g1 → Q (some (aI u)) g1) : fwCt mX11_write (d + 2) [aR 0 0, aI x, aI y, aJ v] e Q := by
  have hS := jI_S I
  have hm := jI_h46 I
  refine c_X11_write x y v I.1 hx hy ⟨fun c => ?_, fun c1 c2 => ?_, fun c1 c2 c3 => ?_, fun c1 c2 c3 => ?_⟩
  · exact k _ _ (fun Q2 k2 => c_X12_write x y v hx hy hm ⟨fun _ => k2 _ I, fun w => absurd w c, fun w => absurd w c, fun w => absurd w c⟩)
  · rw [mSz_pr c1] at c2
    have s1 := (hS x.toNat (by omega)).1
    exact k _ _ (fun Q2 k2 => c_X12_write x y v hx hy hm ⟨fun w => absurd c1 w, fun _ _ => k2 _ I, fun _ w => absurd (s1.trans c2) w, fun _ w => absurd (s1.trans c2) w⟩)
  · rw [mSz_pr c1] at c2 c3
    have s1 := (hS x.toNat (by omega)).1
    exact k _ _ (fun Q2 k2 => c_X12_write x y v hx hy hm ⟨fun w => absurd c1 w, fun _ w => absurd (s1.symm.trans w) c2, fun _ _ _ => k2 _ I, fun _ _ w => absurd (by rw [s1] at w; exact w) c3⟩)
  · rw [mSz_pr c1] at c2 c3
    have s1 := (hS x.toNat (by omega)).1
    have h60 := hm x.toNat (by omega)
    exact k _ _ (fun Q2 k2 => c_X12_write x y v hx hy (show ∀ s : Nat, s < 4 → -1 ≤ e 46 0 s ∧ e 46 0 s ≤ 60 from hm) ⟨fun w => absurd c1 w, fun _ w => absurd (s1.symm.trans w) c2, fun _ _ w => absurd (show 0 ≤ y ∧ y < e 46 0 x.toNat by rw [s1]; exact c3) w, fun _ _ _ => k2 _ (jI_write I (by omega) (by omega) hv)⟩)
theorem pr_paste (I : jI e) (x y z u n : Int) (hx : -2147483648 ≤ x ∧ x < 2147483648) (hy : -2147483648 ≤ y ∧ y < 2147483648) (hz : -2147483648 ≤ z ∧ z < 2147483648) (hu : -2147483648 ≤ u ∧ u < 2147483648) (hn : -2147483648 ≤ n ∧ n < 2147483648) (k : ∀ v g1, prM mX12_paste (d2 + 2) [aI x, aI y, aI z, aI u, aI n] v g1 → Q (some (aI v)) g1) : fwCt mX11_paste (d + 3) [aR 0 0, aI x, aI y, aI z, aI u, aI n] e Q := by
  have hS := jI_S I
  have hm := jI_h46 I
  have hw := jI_h47 I
  refine c_X11_paste x y z u n I.1 hx hy hz hu hn ⟨fun c => ?_, fun c1 c2 => ?_, fun c1 c2 c3 => ?_, fun c1 c2 c3 c4 => ?_, fun c1 c2 c3 c4 => ?_⟩
  · exact k _ _ (fun Q2 k2 => c_X12_paste x y z u n hx hy hz hu hn hm hw ⟨fun _ => k2 _ I, fun w => absurd w c, fun w => absurd w c, fun w => absurd w c, fun w => absurd w c⟩)
  · rw [mSz_pr c1.1, mSz_pr c1.2, ← (hS x.toNat (by omega)).1, ← (hS z.toNat (by omega)).1] at c2
    exact k _ _ (fun Q2 k2 => c_X12_paste x y z u n hx hy hz hu hn hm hw ⟨fun w => absurd c1 w, fun _ _ => k2 _ I, fun _ w => absurd w c2, fun _ w => absurd w c2, fun _ w => absurd w c2⟩)
  · rw [mSz_pr c1.1, mSz_pr c1.2, ← (hS x.toNat (by omega)).1, ← (hS z.toNat (by omega)).1] at c2
    rw [mSz_pr c1.1, mSz_pr c1.2, ← (hS x.toNat (by omega)).2.1, ← (hS z.toNat (by omega)).2.1] at c3
    exact k _ _ (fun Q2 k2 => c_X12_paste x y z u n hx hy hz hu hn hm hw ⟨fun w => absurd c1 w, fun _ w => absurd c2 w, fun _ _ _ => k2 _ I, fun _ _ w => absurd w c3, fun _ _ w => absurd w c3⟩)
  · rw [mSz_pr c1.1, mSz_pr c1.2, ← (hS x.toNat (by omega)).1, ← (hS z.toNat (by omega)).1] at c2 c4
    rw [mSz_pr c1.1, mSz_pr c1.2, ← (hS x.toNat (by omega)).2.1, ← (hS z.toNat (by omega)).2.1] at c3
    exact k _ _ (fun Q2 k2 => c_X12_paste x y z u n hx hy hz hu hn hm hw ⟨fun w => absurd c1 w, fun _ w => absurd c2 w, fun _ _ w => absurd c3 w, fun _ _ _ _ => k2 _ I, fun _ _ _ w => absurd (by omega) c4⟩)
  · have q1 := (hS x.toNat (by omega)).1
    have q2 := (hS z.toNat (by omega)).1
    have h60 := hm x.toNat (by omega)
    have h61 := hm z.toNat (by omega)
    rw [mSz_pr c1.1, mSz_pr c1.2, ← q1, ← q2] at c2 c4
    rw [mSz_pr c1.1, mSz_pr c1.2, ← (hS x.toNat (by omega)).2.1, ← (hS z.toNat (by omega)).2.1] at c3
    exact k _ _ (fun Q2 k2 => c_X12_paste x y z u n hx hy hz hu hn (show ∀ s : Nat, s < 4 → -1 ≤ e 46 0 s ∧ e 46 0 s ≤ 60 from hm) (show ∀ s : Nat, s < 4 → 0 ≤ e 47 0 s ∧ e 47 0 s ≤ 3 from hw) ⟨fun w => absurd c1 w, fun _ w => absurd c2 w, fun _ _ w => absurd c3 w, fun _ _ _ w => absurd (show 0 ≤ y ∧ 0 ≤ u ∧ 0 ≤ n ∧ y + n ≤ e 46 0 x.toNat ∧ u + n ≤ e 46 0 z.toNat by omega) w, fun _ _ _ _ F => k2 _ (jI_paste I F (by omega) (by omega) (by omega) (by omega))⟩)
end PAIRS2
end
section
def prW (mm : fwM) (dd : Nat) (as : List fwV) (g1 : fwH) : Prop := ∀ Q2 : Option fwV → fwH → Prop, (∀ v g2, jI g2 → Q2 (some (aI v)) g2) → fwCt mm dd (aR 12 0 :: as) g1 Q2
section PAIRSQ
variable {d d2 : Nat} {e : fwH} {Q : Option fwV → fwH → Prop}
theorem pr_ask (I : jI e) (x : Int) (y : Int) (hx : -2147483648 ≤ x ∧ x < 2147483648) (hy : -2147483648 ≤ y ∧ y < 2147483648) (k : ∀ v g1, prW mX12_ask (d2 + 7) [aI x, aI y] g1 → Q (some (aI v)) g1) : fwCt mX11_ask (d + 5) [aR 0 0, aI x, aI y] e Q :=
  c_X11_ask x y I.1 hx hy (fun g hg => k _ _ (fun Q2 k2 => c_w_ask (gg := e) x y I.1 (jF_g I hg) (jA_g I hg) hg.2.2 (jS_g I hg) hx hy (fun v g2 hg2 => k2 _ _ (jI_scr I (scr_tr hg hg2)))))
theorem pr_basin (I : jI e) (x : Int) (hx : -2147483648 ≤ x ∧ x < 2147483648) (k : ∀ v g1, prM mX12_basin (d2 + 6) [aI x] v g1 → Q (some (aI v)) g1) : fwCt mX11_basin (d + 5) [aR 0 0, aI x] e Q :=
  c_X11_basin x I.1 hx (fun g hg => k _ _ (fun Q2 k2 => c_X12_basin (gg := e) x I.1 (jF_g I hg) (jA_g I hg) hg.2.2 hx (fun g2 hg2 => k2 _ (jI_scr I (scr_tr hg hg2)))))
theorem pr_best (I : jI e)   (k : ∀ v g1, prM mX12_best (d2 + 6) [] v g1 → Q (some (aI v)) g1) : fwCt mX11_best (d + 10) [aR 0 0] e Q :=
  c_X11_best I.1 (fun g hg => k _ _ (fun Q2 k2 => c_X12_best (gg := e) I.1 (jF_g I hg) (jA_g I hg) hg.2.2 (fun g2 hg2 => k2 _ (jI_scr I (scr_tr hg hg2)))))
theorem pr_cliffs (I : jI e)   (k : ∀ v g1, prM mX12_cliffs (d2 + 6) [] v g1 → Q (some (aI v)) g1) : fwCt mX11_cliffs (d + 2) [aR 0 0] e Q :=
  c_X11_cliffs I.1 (fun g hg => k _ _ (fun Q2 k2 => c_X12_cliffs (gg := e) I.1 (jF_g I hg) (jA_g I hg) hg.2.2 (fun g2 hg2 => k2 _ (jI_scr I (scr_tr hg hg2)))))
theorem pr_count (I : jI e) (x : Int) (hx : -2147483648 ≤ x ∧ x < 2147483648) (k : ∀ v g1, prM mX12_count (d2 + 1) [aI x] v g1 → Q (some (aI v)) g1) : fwCt mX11_count (d + 3) [aR 0 0, aI x] e Q :=
  c_X11_count x I.1 hx (fun g hg => k _ _ (fun Q2 k2 => c_X12_count (gg := e) x I.1 (jF_g I hg) (jS_g I hg) (hg.2.1.1.trans I.2.2.2.2.1.1) hx (k2 _ (jI_scr I hg))))
theorem pr_course (I : jI e) (x : Int) (hx : -2147483648 ≤ x ∧ x < 2147483648) (k : ∀ v g1, prM mX12_course (d2 + 7) [aI x] v g1 → Q (some (aI v)) g1) : fwCt mX11_course (d + 6) [aR 0 0, aI x] e Q :=
  c_X11_course x I.1 hx (fun g hg => k _ _ (fun Q2 k2 => c_X12_course (gg := e) x I.1 (jF_g I hg) (jA_g I hg) hg.2.2 hx (fun g2 hg2 => k2 _ (jI_scr I (scr_tr hg hg2)))))
theorem pr_dark (I : jI e) (x : Int) (hx : -2147483648 ≤ x ∧ x < 2147483648) (k : ∀ v g1, prM mX12_dark (d2 + 6) [aI x] v g1 → Q (some (aI v)) g1) : fwCt mX11_dark (d + 3) [aR 0 0, aI x] e Q :=
  c_X11_dark x I.1 hx (fun g hg => k _ _ (fun Q2 k2 => c_X12_dark (gg := e) x I.1 (jF_g I hg) (jA_g I hg) hg.2.2 hx (fun g2 hg2 => k2 _ (jI_scr I (scr_tr hg hg2)))))
theorem pr_doubts (I : jI e) (x : Int) (hx : -2147483648 ≤ x ∧ x < 2147483648) (k : ∀ v g1, prW mX12_doubts (d2 + 7) [aI x] g1 → Q (some (aI v)) g1) : fwCt mX11_doubts (d + 5) [aR 0 0, aI x] e Q :=
  c_X11_doubts x I.1 hx (fun g hg => k _ _ (fun Q2 k2 => c_w_doubts (gg := e) x I.1 (jF_g I hg) (jA_g I hg) hg.2.2 (jS_g I hg) hx (fun v g2 hg2 => k2 _ _ (jI_scr I (scr_tr hg hg2)))))
theorem pr_drawn (I : jI e) (x : Int) (y : Int) (z : Int) (hx : -2147483648 ≤ x ∧ x < 2147483648) (hy : -2147483648 ≤ y ∧ y < 2147483648) (hz : -2147483648 ≤ z ∧ z < 2147483648) (k : ∀ v g1, prM mX12_drawn (d2 + 7) [aI x, aI y, aI z] v g1 → Q (some (aI v)) g1) : fwCt mX11_drawn (d + 5) [aR 0 0, aI x, aI y, aI z] e Q :=
  c_X11_drawn x y z I.1 hx hy hz (fun g hg => k _ _ (fun Q2 k2 => c_X12_drawn (gg := e) x y z I.1 (jF_g I hg) (jA_g I hg) hg.2.2 hx hy hz (fun g2 hg2 => k2 _ (jI_scr I (scr_tr hg hg2)))))
theorem pr_elected (I : jI e)   (k : ∀ v g1, prW mX12_elected (d2 + 6) [] g1 → Q (some (aI v)) g1) : fwCt mX11_elected (d + 5) [aR 0 0] e Q :=
  c_X11_elected I.1 (fun g hg => k _ _ (fun Q2 k2 => c_w_elected (gg := e) I.1 (jF_g I hg) (jA_g I hg) hg.2.2 (fun v g2 hg2 => k2 _ _ (jI_scr I (scr_tr hg hg2)))))
theorem pr_ends (I : jI e) (x : Int) (hx : -2147483648 ≤ x ∧ x < 2147483648) (k : ∀ v g1, prM mX12_ends (d2 + 7) [aI x] v g1 → Q (some (aI v)) g1) : fwCt mX11_ends (d + 6) [aR 0 0, aI x] e Q :=
  c_X11_ends x I.1 hx (fun g hg => k _ _ (fun Q2 k2 => c_X12_ends (gg := e) x I.1 (jF_g I hg) (jA_g I hg) hg.2.2 hx (fun g2 hg2 => k2 _ (jI_scr I (scr_tr hg hg2)))))
theorem pr_first (I : jI e)   (k : ∀ v g1, prM mX12_first (d2 + 7) [] v g1 → Q (some (aI v)) g1) : fwCt mX11_first (d + 5) [aR 0 0] e Q :=
  c_X11_first I.1 (fun g hg => k _ _ (fun Q2 k2 => c_X12_first (gg := e) I.1 (jF_g I hg) (jA_g I hg) hg.2.2 (fun g2 hg2 => k2 _ (jI_scr I (scr_tr hg hg2)))))
theorem pr_firsts (I : jI e)   (k : ∀ v g1, prM mX12_firsts (d2 + 7) [] v g1 → Q (some (aI v)) g1) : fwCt mX11_firsts (d + 5) [aR 0 0] e Q :=
  c_X11_firsts I.1 (fun g hg => k _ _ (fun Q2 k2 => c_X12_firsts (gg := e) I.1 (jF_g I hg) (jA_g I hg) hg.2.2 (fun g2 hg2 => k2 _ (jI_scr I (scr_tr hg hg2)))))
theorem pr_flows (I : jI e) (x : Int) (hx : -2147483648 ≤ x ∧ x < 2147483648) (k : ∀ v g1, prM mX12_flows (d2 + 6) [aI x] v g1 → Q (some (aI v)) g1) : fwCt mX11_flows (d + 4) [aR 0 0, aI x] e Q :=
  c_X11_flows x I.1 hx (fun g hg => k _ _ (fun Q2 k2 => c_X12_flows (gg := e) x I.1 (jF_g I hg) (jA_g I hg) hg.2.2 hx (fun g2 hg2 => k2 _ (jI_scr I (scr_tr hg hg2)))))
theorem pr_folk (I : jI e) (x : Int) (y : Int) (hx : -2147483648 ≤ x ∧ x < 2147483648) (hy : -2147483648 ≤ y ∧ y < 2147483648) (k : ∀ v g1, prM mX12_folk (d2 + 2) [aI x, aI y] v g1 → Q (some (aI v)) g1) : fwCt mX11_folk (d + 1) [aR 0 0, aI x, aI y] e Q :=
  c_X11_folk x y I.1 hx hy (fun g hg => k _ _ (fun Q2 k2 => c_X12_folk (gg := e) x y I.1 (jF_g I hg) (jA_g I hg) hg.2.2 hx hy (fun g2 hg2 => k2 _ (jI_scr I (scr_tr hg hg2)))))
theorem pr_gain (I : jI e) (x : Int) (hx : -2147483648 ≤ x ∧ x < 2147483648) (k : ∀ v g1, prM mX12_gain (d2 + 6) [aI x] v g1 → Q (some (aI v)) g1) : fwCt mX11_gain (d + 4) [aR 0 0, aI x] e Q :=
  c_X11_gain x I.1 hx (fun g hg => k _ _ (fun Q2 k2 => c_X12_gain (gg := e) x I.1 (jF_g I hg) (jA_g I hg) hg.2.2 hx (fun g2 hg2 => k2 _ (jI_scr I (scr_tr hg hg2)))))
theorem pr_gains (I : jI e)   (k : ∀ v g1, prM mX12_gains (d2 + 6) [] v g1 → Q (some (aI v)) g1) : fwCt mX11_gains (d + 4) [aR 0 0] e Q :=
  c_X11_gains I.1 (fun g hg => k _ _ (fun Q2 k2 => c_X12_gains (gg := e) I.1 (jF_g I hg) (jA_g I hg) hg.2.2 (fun g2 hg2 => k2 _ (jI_scr I (scr_tr hg hg2)))))
theorem pr_goes (I : jI e) (x : Int) (y : Int) (z : Int) (hx : -2147483648 ≤ x ∧ x < 2147483648) (hy : -2147483648 ≤ y ∧ y < 2147483648) (hz : -2147483648 ≤ z ∧ z < 2147483648) (k : ∀ v g1, prW mX12_goes (d2 + 8) [aI x, aI y, aI z] g1 → Q (some (aI v)) g1) : fwCt mX11_goes (d + 6) [aR 0 0, aI x, aI y, aI z] e Q :=
  c_X11_goes x y z I.1 hx hy hz (fun g hg => k _ _ (fun Q2 k2 => c_w_goes (gg := e) x y z I.1 (jF_g I hg) (jA_g I hg) hg.2.2 hx hy hz (fun v g2 hg2 => k2 _ _ (jI_scr I (scr_tr hg hg2)))))
theorem pr_height (I : jI e) (x : Int) (hx : -2147483648 ≤ x ∧ x < 2147483648) (k : ∀ v g1, prM mX12_height (d2 + 6) [aI x] v g1 → Q (some (aI v)) g1) : fwCt mX11_height (d + 1) [aR 0 0, aI x] e Q :=
  c_X11_height x I.1 hx (fun g hg => k _ _ (fun Q2 k2 => c_X12_height (gg := e) x I.1 (jF_g I hg) (jA_g I hg) hg.2.2 hx (fun g2 hg2 => k2 _ (jI_scr I (scr_tr hg hg2)))))
theorem pr_hopes (I : jI e) (x : Int) (y : Int) (hx : -2147483648 ≤ x ∧ x < 2147483648) (hy : -2147483648 ≤ y ∧ y < 2147483648) (k : ∀ v g1, prM mX12_hopes (d2 + 7) [aI x, aI y] v g1 → Q (some (aI v)) g1) : fwCt mX11_hopes (d + 5) [aR 0 0, aI x, aI y] e Q :=
  c_X11_hopes x y I.1 hx hy (fun g hg => k _ _ (fun Q2 k2 => c_X12_hopes (gg := e) x y I.1 (jF_g I hg) (jA_g I hg) hg.2.2 hx hy (fun g2 hg2 => k2 _ (jI_scr I (scr_tr hg hg2)))))
theorem pr_law (I : jI e) (x : Int) (hx : -2147483648 ≤ x ∧ x < 2147483648) (k : ∀ v g1, prM mX12_law (d2 + 7) [aI x] v g1 → Q (some (aI v)) g1) : fwCt mX11_law (d + 6) [aR 0 0, aI x] e Q :=
  c_X11_law x I.1 hx (fun g hg => k _ _ (fun Q2 k2 => c_X12_law (gg := e) x I.1 (jF_g I hg) (jA_g I hg) hg.2.2 hx (fun g2 hg2 => k2 _ (jI_scr I (scr_tr hg hg2)))))
theorem pr_leaves (I : jI e) (x : Int) (y : Int) (hx : -2147483648 ≤ x ∧ x < 2147483648) (hy : -2147483648 ≤ y ∧ y < 2147483648) (k : ∀ v g1, prW mX12_leaves (d2 + 7) [aI x, aI y] g1 → Q (some (aI v)) g1) : fwCt mX11_leaves (d + 5) [aR 0 0, aI x, aI y] e Q :=
  c_X11_leaves x y I.1 hx hy (fun g hg => k _ _ (fun Q2 k2 => c_w_leaves (gg := e) x y I.1 (jF_g I hg) (jA_g I hg) hg.2.2 (jS_g I hg) hx hy (fun v g2 hg2 => k2 _ _ (jI_scr I (scr_tr hg hg2)))))
theorem pr_left (I : jI e) (x : Int) (y : Int) (hx : -2147483648 ≤ x ∧ x < 2147483648) (hy : -2147483648 ≤ y ∧ y < 2147483648) (k : ∀ v g1, prM mX12_left (d2 + 7) [aI x, aI y] v g1 → Q (some (aI v)) g1) : fwCt mX11_left (d + 6) [aR 0 0, aI x, aI y] e Q :=
  c_X11_left x y I.1 hx hy (fun g hg => k _ _ (fun Q2 k2 => c_X12_left (gg := e) x y I.1 (jF_g I hg) (jA_g I hg) hg.2.2 hx hy (fun g2 hg2 => k2 _ (jI_scr I (scr_tr hg hg2)))))
theorem pr_light (I : jI e) (x : Int) (hx : -2147483648 ≤ x ∧ x < 2147483648) (k : ∀ v g1, prM mX12_light (d2 + 6) [aI x] v g1 → Q (some (aI v)) g1) : fwCt mX11_light (d + 2) [aR 0 0, aI x] e Q :=
  c_X11_light x I.1 hx (fun g hg => k _ _ (fun Q2 k2 => c_X12_light (gg := e) x I.1 (jF_g I hg) (jA_g I hg) hg.2.2 hx (fun g2 hg2 => k2 _ (jI_scr I (scr_tr hg hg2)))))
theorem pr_lookout (I : jI e)   (k : ∀ v g1, prM mX12_lookout (d2 + 6) [] v g1 → Q (some (aI v)) g1) : fwCt mX11_lookout (d + 4) [aR 0 0] e Q :=
  c_X11_lookout I.1 (fun g hg => k _ _ (fun Q2 k2 => c_X12_lookout (gg := e) I.1 (jF_g I hg) (jA_g I hg) hg.2.2 (fun g2 hg2 => k2 _ (jI_scr I (scr_tr hg hg2)))))
theorem pr_luck (I : jI e) (x : Int) (y : Int) (z : Int) (hx : -2147483648 ≤ x ∧ x < 2147483648) (hy : -2147483648 ≤ y ∧ y < 2147483648) (hz : -2147483648 ≤ z ∧ z < 2147483648) (k : ∀ v g1, prM mX12_luck (d2 + 7) [aI x, aI y, aI z] v g1 → Q (some (aI v)) g1) : fwCt mX11_luck (d + 5) [aR 0 0, aI x, aI y, aI z] e Q :=
  c_X11_luck x y z I.1 hx hy hz (fun g hg => k _ _ (fun Q2 k2 => c_X12_luck (gg := e) x y z I.1 (jF_g I hg) (jA_g I hg) hg.2.2 hx hy hz (fun g2 hg2 => k2 _ (jI_scr I (scr_tr hg hg2)))))
theorem pr_moves (I : jI e) (x : Int) (y : Int) (hx : -2147483648 ≤ x ∧ x < 2147483648) (hy : -2147483648 ≤ y ∧ y < 2147483648) (k : ∀ v g1, prW mX12_moves (d2 + 7) [aI x, aI y] g1 → Q (some (aI v)) g1) : fwCt mX11_moves (d + 31) [aR 0 0, aI x, aI y] e Q :=
  c_X11_moves x y I.1 hx hy (fun g hg => k _ _ (fun Q2 k2 => c_w_moves (gg := e) x y I.1 (jF_g I hg) (jA_g I hg) hg.2.2 hx hy (fun v g2 hg2 => k2 _ _ (jI_scr I (scr_tr hg hg2)))))
theorem pr_names (I : jI e) (x : Int) (hx : -2147483648 ≤ x ∧ x < 2147483648) (k : ∀ v g1, prM mX12_names (d2 + 6) [aI x] v g1 → Q (some (aI v)) g1) : fwCt mX11_names (d + 5) [aR 0 0, aI x] e Q :=
  c_X11_names x I.1 hx (fun g hg => k _ _ (fun Q2 k2 => c_X12_names (gg := e) x I.1 (jF_g I hg) (jA_g I hg) hg.2.2 hx (fun g2 hg2 => k2 _ (jI_scr I (scr_tr hg hg2)))))
theorem pr_needed (I : jI e)   (k : ∀ v g1, prM mX12_needed (d2 + 6) [] v g1 → Q (some (aI v)) g1) : fwCt mX11_needed (d + 5) [aR 0 0] e Q :=
  c_X11_needed I.1 (fun g hg => k _ _ (fun Q2 k2 => c_X12_needed (gg := e) I.1 (jF_g I hg) (jA_g I hg) hg.2.2 (fun g2 hg2 => k2 _ (jI_scr I (scr_tr hg hg2)))))
theorem pr_next (I : jI e) (x : Int) (hx : -2147483648 ≤ x ∧ x < 2147483648) (k : ∀ v g1, prM mX12_next (d2 + 6) [aI x] v g1 → Q (some (aI v)) g1) : fwCt mX11_next (d + 5) [aR 0 0, aI x] e Q :=
  c_X11_next x I.1 hx (fun g hg => k _ _ (fun Q2 k2 => c_X12_next (gg := e) x I.1 (jF_g I hg) (jA_g I hg) hg.2.2 hx (fun g2 hg2 => k2 _ (jI_scr I (scr_tr hg hg2)))))
theorem pr_old (I : jI e) (x : Int) (hx : -2147483648 ≤ x ∧ x < 2147483648) (k : ∀ v g1, prW mX12_old (d2 + 7) [aI x] g1 → Q (some (aI v)) g1) : fwCt mX11_old (d + 5) [aR 0 0, aI x] e Q :=
  c_X11_old x I.1 hx (fun g hg => k _ _ (fun Q2 k2 => c_w_old (gg := e) x I.1 (jF_g I hg) (jA_g I hg) hg.2.2 (jS_g I hg) hx (fun v g2 hg2 => k2 _ _ (jI_scr I (scr_tr hg hg2)))))
theorem pr_play (I : jI e) (x : Int) (y : Int) (hx : -2147483648 ≤ x ∧ x < 2147483648) (hy : -2147483648 ≤ y ∧ y < 2147483648) (k : ∀ v g1, prW mX12_play (d2 + 7) [aI x, aI y] g1 → Q (some (aI v)) g1) : fwCt mX11_play (d + 30) [aR 0 0, aI x, aI y] e Q :=
  c_X11_play x y I.1 hx hy (fun g hg => k _ _ (fun Q2 k2 => c_w_play (gg := e) x y I.1 (jF_g I hg) (jA_g I hg) hg.2.2 hx hy (fun v g2 hg2 => k2 _ _ (jI_scr I (scr_tr hg hg2)))))
theorem pr_raisers (I : jI e)   (k : ∀ v g1, prM mX12_raisers (d2 + 6) [] v g1 → Q (some (aI v)) g1) : fwCt mX11_raisers (d + 4) [aR 0 0] e Q :=
  c_X11_raisers I.1 (fun g hg => k _ _ (fun Q2 k2 => c_X12_raisers (gg := e) I.1 (jF_g I hg) (jA_g I hg) hg.2.2 (fun g2 hg2 => k2 _ (jI_scr I (scr_tr hg hg2)))))
theorem pr_round (I : jI e) (x : Int) (y : Int) (hx : -2147483648 ≤ x ∧ x < 2147483648) (hy : -2147483648 ≤ y ∧ y < 2147483648) (k : ∀ v g1, prW mX12_round (d2 + 8) [aI x, aI y] g1 → Q (some (aI v)) g1) : fwCt mX11_round (d + 6) [aR 0 0, aI x, aI y] e Q :=
  c_X11_round x y I.1 hx hy (fun g hg => k _ _ (fun Q2 k2 => c_w_round (gg := e) x y I.1 (jF_g I hg) (jA_g I hg) hg.2.2 hx hy (fun v g2 hg2 => k2 _ _ (jI_scr I (scr_tr hg hg2)))))
theorem pr_sees (I : jI e) (x : Int) (hx : -2147483648 ≤ x ∧ x < 2147483648) (k : ∀ v g1, prM mX12_sees (d2 + 6) [aI x] v g1 → Q (some (aI v)) g1) : fwCt mX11_sees (d + 3) [aR 0 0, aI x] e Q :=
  c_X11_sees x I.1 hx (fun g hg => k _ _ (fun Q2 k2 => c_X12_sees (gg := e) x I.1 (jF_g I hg) (jA_g I hg) hg.2.2 hx (fun g2 hg2 => k2 _ (jI_scr I (scr_tr hg hg2)))))
theorem pr_shade (I : jI e) (x : Int) (y : Int) (hx : -2147483648 ≤ x ∧ x < 2147483648) (hy : -2147483648 ≤ y ∧ y < 2147483648) (k : ∀ v g1, prM mX12_shade (d2 + 6) [aI x, aI y] v g1 → Q (some (aI v)) g1) : fwCt mX11_shade (d + 2) [aR 0 0, aI x, aI y] e Q :=
  c_X11_shade x y I.1 hx hy (fun g hg => k _ _ (fun Q2 k2 => c_X12_shade (gg := e) x y I.1 (jF_g I hg) (jA_g I hg) hg.2.2 hx hy (fun g2 hg2 => k2 _ (jI_scr I (scr_tr hg hg2)))))
theorem pr_shape (I : jI e) (x : Int) (hx : -2147483648 ≤ x ∧ x < 2147483648) (k : ∀ v g1, prW mX12_shape (d2 + 7) [aI x] g1 → Q (some (aI v)) g1) : fwCt mX11_shape (d + 10) [aR 0 0, aI x] e Q :=
  c_X11_shape x I.1 hx (fun g hg => k _ _ (fun Q2 k2 => c_w_shape (gg := e) x I.1 (jF_g I hg) (jA_g I hg) hg.2.2 hx (fun v g2 hg2 => k2 _ _ (jI_scr I (scr_tr hg hg2)))))
theorem pr_shaped (I : jI e) (x : Int) (y : Int) (hx : -2147483648 ≤ x ∧ x < 2147483648) (hy : -2147483648 ≤ y ∧ y < 2147483648) (k : ∀ v g1, prW mX12_shaped (d2 + 7) [aI x, aI y] g1 → Q (some (aI v)) g1) : fwCt mX11_shaped (d + 10) [aR 0 0, aI x, aI y] e Q :=
  c_X11_shaped x y I.1 hx hy (fun g hg => k _ _ (fun Q2 k2 => c_w_shaped (gg := e) x y I.1 (jF_g I hg) (jA_g I hg) hg.2.2 hx hy (fun v g2 hg2 => k2 _ _ (jI_scr I (scr_tr hg hg2)))))
theorem pr_signers (I : jI e) (x : Int) (hx : -2147483648 ≤ x ∧ x < 2147483648) (k : ∀ v g1, prM mX12_signers (d2 + 6) [aI x] v g1 → Q (some (aI v)) g1) : fwCt mX11_signers (d + 5) [aR 0 0, aI x] e Q :=
  c_X11_signers x I.1 hx (fun g hg => k _ _ (fun Q2 k2 => c_X12_signers (gg := e) x I.1 (jF_g I hg) (jA_g I hg) hg.2.2 hx (fun g2 hg2 => k2 _ (jI_scr I (scr_tr hg hg2)))))
theorem pr_slides (I : jI e) (x : Int) (hx : -2147483648 ≤ x ∧ x < 2147483648) (k : ∀ v g1, prM mX12_slides (d2 + 6) [aI x] v g1 → Q (some (aI v)) g1) : fwCt mX11_slides (d + 4) [aR 0 0, aI x] e Q :=
  c_X11_slides x I.1 hx (fun g hg => k _ _ (fun Q2 k2 => c_X12_slides (gg := e) x I.1 (jF_g I hg) (jA_g I hg) hg.2.2 hx (fun g2 hg2 => k2 _ (jI_scr I (scr_tr hg hg2)))))
theorem pr_snow (I : jI e)   (k : ∀ v g1, prM mX12_snow (d2 + 6) [] v g1 → Q (some (aI v)) g1) : fwCt mX11_snow (d + 2) [aR 0 0] e Q :=
  c_X11_snow I.1 (fun g hg => k _ _ (fun Q2 k2 => c_X12_snow (gg := e) I.1 (jF_g I hg) (jA_g I hg) hg.2.2 (fun g2 hg2 => k2 _ (jI_scr I (scr_tr hg hg2)))))
theorem pr_spoil (I : jI e)   (k : ∀ v g1, prM mX12_spoil (d2 + 6) [] v g1 → Q (some (aI v)) g1) : fwCt mX11_spoil (d + 5) [aR 0 0] e Q :=
  c_X11_spoil I.1 (fun g hg => k _ _ (fun Q2 k2 => c_X12_spoil (gg := e) I.1 (jF_g I hg) (jA_g I hg) hg.2.2 (fun g2 hg2 => k2 _ (jI_scr I (scr_tr hg hg2)))))
theorem pr_springs (I : jI e)   (k : ∀ v g1, prM mX12_springs (d2 + 6) [] v g1 → Q (some (aI v)) g1) : fwCt mX11_springs (d + 5) [aR 0 0] e Q :=
  c_X11_springs I.1 (fun g hg => k _ _ (fun Q2 k2 => c_X12_springs (gg := e) I.1 (jF_g I hg) (jA_g I hg) hg.2.2 (fun g2 hg2 => k2 _ (jI_scr I (scr_tr hg hg2)))))
theorem pr_stands (I : jI e) (x : Int) (hx : -2147483648 ≤ x ∧ x < 2147483648) (k : ∀ v g1, prM mX12_stands (d2 + 3) [aI x] v g1 → Q (some (aI v)) g1) : fwCt mX11_stands (d + 4) [aR 0 0, aI x] e Q :=
  c_X11_stands x I.1 hx (fun g hg => k _ _ (fun Q2 k2 => c_X12_stands (gg := e) x I.1 (jF_g I hg) (jS_g I hg) hx (k2 _ (jI_scr I hg))))
theorem pr_struck (I : jI e) (x : Int) (y : Int) (hx : -2147483648 ≤ x ∧ x < 2147483648) (hy : -2147483648 ≤ y ∧ y < 2147483648) (k : ∀ v g1, prW mX12_struck (d2 + 3) [aI x, aI y] g1 → Q (some (aI v)) g1) : fwCt mX11_struck (d + 4) [aR 0 0, aI x, aI y] e Q :=
  c_X11_struck x y I.1 hx hy (fun g hg => k _ _ (fun Q2 k2 => c_w_struck (gg := e) x y I.1 (jF_g I hg) (jA_g I hg) hg.2.2 (jS_g I hg) hx hy (fun v g2 hg2 => k2 _ _ (jI_scr I (scr_tr hg hg2)))))
theorem pr_top (I : jI e)   (k : ∀ v g1, prM mX12_top (d2 + 6) [] v g1 → Q (some (aI v)) g1) : fwCt mX11_top (d + 2) [aR 0 0] e Q :=
  c_X11_top I.1 (fun g hg => k _ _ (fun Q2 k2 => c_X12_top (gg := e) I.1 (jF_g I hg) (jA_g I hg) hg.2.2 (fun g2 hg2 => k2 _ (jI_scr I (scr_tr hg hg2)))))
theorem pr_two (I : jI e) (x : Int) (y : Int) (z : Int) (hx : -2147483648 ≤ x ∧ x < 2147483648) (hy : -2147483648 ≤ y ∧ y < 2147483648) (hz : -2147483648 ≤ z ∧ z < 2147483648) (k : ∀ v g1, prW mX12_two (d2 + 8) [aI x, aI y, aI z] g1 → Q (some (aI v)) g1) : fwCt mX11_two (d + 6) [aR 0 0, aI x, aI y, aI z] e Q :=
  c_X11_two x y z I.1 hx hy hz (fun g hg => k _ _ (fun Q2 k2 => c_w_two (gg := e) x y z I.1 (jF_g I hg) (jA_g I hg) hg.2.2 hx hy hz (fun v g2 hg2 => k2 _ _ (jI_scr I (scr_tr hg hg2)))))
theorem pr_votes (I : jI e) (x : Int) (y : Int) (hx : -2147483648 ≤ x ∧ x < 2147483648) (hy : -2147483648 ≤ y ∧ y < 2147483648) (k : ∀ v g1, prM mX12_votes (d2 + 6) [aI x, aI y] v g1 → Q (some (aI v)) g1) : fwCt mX11_votes (d + 4) [aR 0 0, aI x, aI y] e Q :=
  c_X11_votes x y I.1 hx hy (fun g hg => k _ _ (fun Q2 k2 => c_X12_votes (gg := e) x y I.1 (jF_g I hg) (jA_g I hg) hg.2.2 hx hy (fun g2 hg2 => k2 _ (jI_scr I (scr_tr hg hg2)))))
theorem pr_willing (I : jI e)   (k : ∀ v g1, prM mX12_willing (d2 + 6) [] v g1 → Q (some (aI v)) g1) : fwCt mX11_willing (d + 4) [aR 0 0] e Q :=
  c_X11_willing I.1 (fun g hg => k _ _ (fun Q2 k2 => c_X12_willing (gg := e) I.1 (jF_g I hg) (jA_g I hg) hg.2.2 (fun g2 hg2 => k2 _ (jI_scr I (scr_tr hg hg2)))))
theorem pr_wishes (I : jI e) (x : Int) (hx : -2147483648 ≤ x ∧ x < 2147483648) (k : ∀ v g1, prM mX12_wishes (d2 + 7) [aI x] v g1 → Q (some (aI v)) g1) : fwCt mX11_wishes (d + 5) [aR 0 0, aI x] e Q :=
  c_X11_wishes x I.1 hx (fun g hg => k _ _ (fun Q2 k2 => c_X12_wishes (gg := e) x I.1 (jF_g I hg) (jA_g I hg) hg.2.2 hx (fun g2 hg2 => k2 _ (jI_scr I (scr_tr hg hg2)))))
theorem pr_fault (I : jI e) (x : Int) (hx : -2147483648 ≤ x ∧ x < 2147483648) (k : ∀ v g1, prM mX12_fault (d2 + 0) [aI x] v g1 → Q (some (aI v)) g1) : fwCt mX11_fault (d + 0) [aR 0 0, aI x] e Q :=
  c_X11_fault x I.1 hx (fun g hg => k _ _ (fun Q2 k2 => c_X12_fault x hx (by
    have z := k2 _ (jI_scr I hg)
    have q : an_fault e x = (if x = 0 then g 12 0 12 else if x = 1 then g 12 0 13 else -1) := by
      rw [hg.2.1.2.1, hg.2.1.2.2, I.2.2.2.2.2.1.1, I.2.2.2.2.2.1.2]
      rfl
    rw [q] at z
    exact z)))
end PAIRSQ
end

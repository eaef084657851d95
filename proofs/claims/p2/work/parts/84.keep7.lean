theorem mt_ne {h : fwH} {m q a b : Nat} (hb : b ≠ m) : mtCopy h m q a b = h a b := by
  unfold mtCopy
  rw [fwUc_ne (fun z => hb z.2), fwUc_ne (fun z => hb z.2), fwUc_ne (fun z => hb z.2), fwUc_ne (fun z => hb z.2), fwUc_ne (fun z => hb z.2), fwUc_ne (fun z => hb z.2)]
theorem mt_o {h : fwH} {m q a b : Nat} (ha : a ≠ 3 ∧ a ≠ 4 ∧ a ≠ 5 ∧ a ≠ 17 ∧ a ≠ 18 ∧ a ≠ 21) : mtCopy h m q a b = h a b := by
  unfold mtCopy
  rw [fwUc_ne (fun z => ha.2.2.2.2.2 z.1), fwUc_ne (fun z => ha.2.2.2.2.1 z.1), fwUc_ne (fun z => ha.2.2.2.1 z.1), fwUc_ne (fun z => ha.2.2.1 z.1), fwUc_ne (fun z => ha.2.1 z.1), fwUc_ne (fun z => ha.1 z.1)]
theorem mt_at {h : fwH} {m q a : Nat} (ha : a = 3 ∨ a = 4 ∨ a = 5 ∨ a = 17 ∨ a = 18 ∨ a = 21) : mtCopy h m q a m = h a q := by
  unfold mtCopy fwUc
  rcases ha with rfl | rfl | rfl | rfl | rfl | rfl <;> simp
theorem jI_image {h : fwH} (I : jI h) {x : Nat} (hx : x < 3) : jI (fwUp (fwUc (fwUp (mtCopy h (2 + x) 0) 23 0 x 1) 37 0 (fun s => if 135 * x ≤ s ∧ s < 135 * x + 135 then h 36 0 (s - 135 * x) else h 37 0 s)) 38 0 x 1) := by
  rw [fwUp_fu (mtCopy h (2 + x) 0) 23 0 x 1, fwUp_fu (fwUc _ 37 0 _) 38 0 x 1]
  generalize hg : fwUc (fwUc (fwUc (mtCopy h (2 + x) 0) 23 0 _) 37 0 _) 38 0 _ = g
  have n : ∀ a b, a ≠ 23 ∧ a ≠ 37 ∧ a ≠ 38 → g a b = mtCopy h (2 + x) 0 a b := fun a b z => by
    rw [← hg, fwUc_ne (fun y => z.2.2 y.1), fwUc_ne (fun y => z.2.1 y.1), fwUc_ne (fun y => z.1 y.1)]
  have n0 : ∀ a b, a ≠ 23 ∧ a ≠ 37 ∧ a ≠ 38 → b ≠ 2 + x → g a b = h a b := fun a b z y => (n a b z).trans (mt_ne y)
  have no : ∀ a b, (a ≠ 23 ∧ a ≠ 37 ∧ a ≠ 38) ∧ (a ≠ 3 ∧ a ≠ 4 ∧ a ≠ 5 ∧ a ≠ 17 ∧ a ≠ 18 ∧ a ≠ 21) → g a b = h a b := fun a b z => (n a b z.1).trans (mt_o z.2)
  have g23 : g 23 0 = fwFu (h 23 0) x 1 := by rw [← hg]; rfl
  have g38 : g 38 0 = fwFu (h 38 0) x 1 := by rw [← hg]; rfl
  have g37 : g 37 0 = fun s => if 135 * x ≤ s ∧ s < 135 * x + 135 then h 36 0 (s - 135 * x) else h 37 0 s := by rw [← hg]; rfl
  clear hg
  obtain ⟨i1, i2, i3, i4, i5, i6, i7⟩ := I
  obtain ⟨j1, j2, j3, j4, j5, j6, j7, j8, j9, j10, j11, j12⟩ := i1
  have m : mPic (g 3 0) (g 4 0) (g 5 0) (g 17 0) (g 18 0) (g 21 0) (g 36 0) := by
    rw [n0 3 0 (by decide) (by omega), n0 4 0 (by decide) (by omega), n0 5 0 (by decide) (by omega), n0 17 0 (by decide) (by omega), n0 18 0 (by decide) (by omega), n0 21 0 (by decide) (by omega), no 36 0 (by decide)]
    exact i2
  refine ⟨cOk_of m ?_ ?_ ?_, m, ?_, ?_, ?_, ?_, ?_⟩
  · intro s hs
    rw [no 35 0 (by decide), no 34 0 (by decide), no 33 s (by decide)]
    exact j10 s hs
  · unfold tOk
    rw [no 1 0 (by decide)]
    exact j11
  · unfold sc
    rw [no 25 0 (by decide), no 8 0 (by decide)]
    exact j12
  · intro s hs
    rw [no 46 0 (by decide), no 47 0 (by decide), no 48 0 (by decide), no 35 0 (by decide), no 34 0 (by decide), no 33 s (by decide)]
    exact i3 s hs
  · intro k hk
    obtain ⟨k1, k2, k3⟩ := i4 k hk
    rw [g23, g38, g37]
    by_cases e : k = x
    · subst e
      rw [fwFu_at, fwFu_at]
      refine ⟨Or.inr rfl, rfl, fun _ => ?_⟩
      rw [n 3 _ (by decide), n 4 _ (by decide), n 5 _ (by decide), n 17 _ (by decide), n 18 _ (by decide), n 21 _ (by decide), mt_at (by omega), mt_at (by omega), mt_at (by omega), mt_at (by omega), mt_at (by omega), mt_at (by omega)]
      refine mPic_W i2 (fun s hs => ?_)
      show (if 135 * k ≤ 135 * k + s ∧ 135 * k + s < 135 * k + 135 then h 36 0 (135 * k + s - 135 * k) else h 37 0 (135 * k + s)) = h 36 0 s
      rw [if_pos (by omega), Nat.add_sub_cancel_left]
    · rw [fwFu_ne e, fwFu_ne e]
      refine ⟨k1, k2, fun q => ?_⟩
      rw [n0 3 _ (by decide) (by omega), n0 4 _ (by decide) (by omega), n0 5 _ (by decide) (by omega), n0 17 _ (by decide) (by omega), n0 18 _ (by decide) (by omega), n0 21 _ (by decide) (by omega)]
      refine mPic_W (k3 q) (fun s hs => ?_)
      show (if 135 * x ≤ 135 * k + s ∧ 135 * k + s < 135 * x + 135 then h 36 0 (135 * k + s - 135 * x) else h 37 0 (135 * k + s)) = h 37 0 (135 * k + s)
      rw [if_neg (by omega)]
  · rw [no 1 0 (by decide), no 39 0 (by decide), no 13 0 (by decide), no 12 0 (by decide)]
    exact i5
  · rw [no 2 0 (by decide), no 12 0 (by decide)]
    exact i6
  · rw [n0 17 1 (by decide) (by omega)]
    exact i7

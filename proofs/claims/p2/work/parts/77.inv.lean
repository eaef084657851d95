def eq10 (H H' : Nat → Int) : Prop := ∀ c : Nat, c < 10 → H c = H' c
theorem mTop_cg {H H' : Nat → Int} (e : eq10 H H') (ls : Int) : ∀ n : Nat, n ≤ 10 → mTop H ls n = mTop H' ls n := by
  intro n
  induction n with
  | zero => intro _; rfl
  | succ n ih =>
    intro hn
    have h1 := ih (by omega)
    have h2 := mTop_rng H' ls n
    have e2 : H (mTop H' ls n).toNat = H' (mTop H' ls n).toNat := e _ (by omega)
    rw [mTop, mTop, h1, e2, e n (by omega)]
theorem mLow_cg {H H' : Nat → Int} (e : eq10 H H') (ls : Int) {n : Nat} (hn : n ≤ 10) : eq10 (mLow n H ls) (mLow n H' ls) := by
  intro c hc
  have h2 := mTop_rng H' ls n
  have e2 : H (mTop H' ls n).toNat = H' (mTop H' ls n).toNat := e _ (by omega)
  unfold mLow
  rw [mTop_cg e ls n hn, e2]
  split
  · unfold fwFu
    rw [e c hc]
  · exact e c hc
theorem hOf_cg {H H' : Nat → Int} (e : eq10 H H') {n : Int} (hn : n ≤ 10) (x : Int) : hOf n H x = hOf n H' x := by
  unfold hOf
  split
  · exact e _ (by omega)
  · rfl
theorem mDown_cg {H H' : Nat → Int} (e : eq10 H H') {n : Int} (hn : n ≤ 10) (x sl : Int) : mDown n H x sl = mDown n H' x sl := by
  unfold mDown
  simp only [hOf_cg e hn]
theorem mDesc_cg {H H' : Nat → Int} (e : eq10 H H') {n : Int} (hn : n ≤ 10) (sl : Int) : ∀ (f : Nat) (x : Int), mDesc n H sl f x = mDesc n H' sl f x := by
  intro f
  induction f with
  | zero => intro x; rfl
  | succ f ih => intro x; rw [mDesc, mDesc, mDown_cg e hn, ih]
theorem mStay_cg {H H' : Nat → Int} (e : eq10 H H') {n : Int} (hn : n ≤ 10) (rs x : Int) : mStay n H rs x = mStay n H' rs x := by
  unfold mStay
  rw [mDesc_cg e hn, hOf_cg e hn]
theorem stp_cg {H H' : Nat → Int} (e : eq10 H H') {n : Int} (hn : 0 ≤ n ∧ n ≤ 10) (ls rs a : Int) (ha : 0 ≤ a ∧ a ≤ n) : eq10 (stp n ls rs H a) (stp n ls rs H' a) := by
  unfold stp
  split
  · exact mLow_cg e ls (by omega)
  · rename_i q
    rw [mStay_cg e hn.2]
    intro c hc
    unfold mRs
    split
    · exact e c hc
    · rename_i q2
      have h3 := mStay_rng (n := n) H' (rs := rs) (x := a - 1) hn (by omega)
      unfold fwFu
      rw [e c hc, e _ (show (mStay n H' rs (a - 1)).toNat < 10 by omega)]
/-- pictures that say the same of the heights up to some act -/
theorem rep_cg {W W' : Nat → Int} (h0 : W' 0 = W 0) (h4 : W' 4 = W 4) (h2 : W' 2 = W 2) (h9 : ∀ c : Nat, c < 10 → W' (9 + c) = W (9 + c)) (hn : 0 ≤ W 0 ∧ W 0 ≤ 10) : ∀ k : Nat, (∀ i : Nat, i < k → W' (75 + i) = W (75 + i) ∧ 0 ≤ W (75 + i) ∧ W (75 + i) ≤ W 0) → eq10 (rep W' k) (rep W k) := by
  intro k
  induction k with
  | zero => intro _ c hc; exact h9 c hc
  | succ k ih =>
    intro hk
    have h1 := ih (fun i hi => hk i (by omega))
    obtain ⟨k1, k2, k3⟩ := hk k (by omega)
    rw [rep, rep, h0, h4, h2, k1]
    exact stp_cg h1 hn _ _ _ ⟨k2, k3⟩
/-- a record of an act takes it back -/
def rcd (n : Int) (W : Nat → Int) (i : Nat) (a : Int) : Prop := (-20 ≤ a ∧ a ≤ 20) ∧ (0 ≤ mBackC a ∧ mBackC a < n) ∧ a ≠ 0 ∧ ∀ z : Nat, (z : Int) < n → rep W i z = if z = (mBackC a).toNat then rep W (i + 1) z + mBackD a else rep W (i + 1) z
/-- a MOUNTAIN's six rows and a picture of it -/
def mPic (r3 r4 r5 r17 r18 r21 W : Nat → Int) : Prop :=
  ((0 ≤ r3 6 ∧ r3 6 ≤ 1000) ∧ (0 ≤ r5 3 ∧ r5 3 ≤ 8) ∧ (0 ≤ r4 1 ∧ r4 1 ≤ 10) ∧ (0 ≤ r4 2 ∧ r4 2 ≤ 40) ∧ (0 ≤ r4 3 ∧ r4 3 ≤ 40) ∧ (r4 4 = 0 ∨ r4 4 = 1) ∧ (∀ c : Nat, c < 10 → 0 ≤ r17 c ∧ r17 c ≤ 99) ∧ (0 < r3 6 → 3 ≤ r4 1) ∧ (r3 6 = 0 → r4 1 = 0 ∧ r5 3 = 0 ∧ r3 3 = 0) ∧ (0 ≤ r3 4 ∧ r3 4 ≤ 999) ∧ (0 < r3 6 → 0 ≤ r3 5 ∧ r3 5 < r4 1) ∧ (0 ≤ r3 3 ∧ r3 3 ≤ 60))
  ∧ (∀ f : Nat, f < 8 → (0 ≤ r18 (7 * f) ∧ r18 (7 * f) < 10) ∧ (0 ≤ r18 (7 * f + 1) ∧ r18 (7 * f + 1) ≤ 99) ∧ (0 ≤ r18 (7 * f + 2) ∧ r18 (7 * f + 2) ≤ 9) ∧ (0 ≤ r18 (7 * f + 3) ∧ r18 (7 * f + 3) ≤ 9) ∧ (0 ≤ r18 (7 * f + 4) ∧ r18 (7 * f + 4) ≤ 9) ∧ (0 ≤ r18 (7 * f + 5) ∧ r18 (7 * f + 5) ≤ 7) ∧ (0 ≤ r18 (7 * f + 6) ∧ r18 (7 * f + 6) ≤ 255))
  ∧ (W 0 = r4 1 ∧ W 1 = r4 2 ∧ W 2 = r4 3 ∧ W 3 = r3 4 ∧ W 4 = r4 4 ∧ W 5 = r3 5 ∧ W 6 = r5 3 ∧ W 7 = r3 6 ∧ W 8 = r3 3 ∧ (∀ j : Nat, j < 56 → W (19 + j) = r18 j) ∧ (∀ f : Nat, (f : Int) < r5 3 → r18 (7 * f) < r4 1) ∧ (0 < r3 6 → 1 ≤ r4 3 ∧ 1 ≤ r3 4))
  ∧ ((∀ i : Nat, (i : Int) ≤ r3 3 → ∀ c : Nat, c < 10 → 0 ≤ rep W i c ∧ rep W i c ≤ 99) ∧ (∀ i : Nat, (i : Int) < r3 3 → 0 ≤ W (75 + i) ∧ W (75 + i) ≤ r4 1) ∧ hiR (r4 1) (rep W (r3 3).toNat) r17)
  ∧ (∀ i : Nat, (i : Int) < r3 3 → rcd (r4 1) W i (r21 i))
/-- what stands between two calls -/
def jI (h : fwH) : Prop := cOk h ∧ mPic (h 3 0) (h 4 0) (h 5 0) (h 17 0) (h 18 0) (h 21 0) (h 36 0) ∧ jS h h
  ∧ (∀ k : Nat, k < 3 → (h 23 0 k = 0 ∨ h 23 0 k = 1) ∧ h 38 0 k = h 23 0 k ∧ (h 23 0 k = 1 → mPic (h 3 (2 + k)) (h 4 (2 + k)) (h 5 (2 + k)) (h 17 (2 + k)) (h 18 (2 + k)) (h 21 (2 + k)) (fun s => h 37 0 (135 * k + s))))
  ∧ (h 12 0 5 = h 1 0 1 ∧ (∀ p : Nat, (p : Int) < h 1 0 1 → h 39 0 p = h 13 0 p) ∧ (∀ p : Nat, p < 900 → -128 ≤ h 39 0 p ∧ h 39 0 p < 128))
  ∧ (h 12 0 12 = h 2 0 6 ∧ h 12 0 13 = h 2 0 7) ∧ rHg (h 17 1)
theorem jI_F {e : fwH} (I : jI e) : jF e e := I.2.1.2.2.1
theorem jI_A {e : fwH} (I : jI e) : jA e e := I.2.1.2.2.2.1
theorem jI_S {h : fwH} (I : jI h) : jS h h := I.2.2.1
theorem jI_sc {h : fwH} (I : jI h) : sc h := I.1.2.2.2.2.2.2.2.2.2.2.2
/-- a question keeps it -/
theorem jI_scr {h g : fwH} (I : jI h) (a : scr h g) : jI g := by
  have r : ∀ x y, fwScr x y = false → x ≠ 12 → g x y = h x y := a.1
  obtain ⟨i1, i2, i3, i4, ⟨i5, i6, i7⟩, ⟨i8, i9⟩, i10⟩ := I
  refine ⟨cOk_scr i1 a, ?_, ?_, ?_, ?_, ?_, ?_⟩
  · rw [r 3 0 rfl (by decide), r 4 0 rfl (by decide), r 5 0 rfl (by decide), r 17 0 rfl (by decide), r 18 0 rfl (by decide), r 21 0 rfl (by decide), r 36 0 rfl (by decide)]
    exact i2
  · unfold jS
    rw [r 46 0 rfl (by decide), r 47 0 rfl (by decide), r 48 0 rfl (by decide), r 34 0 rfl (by decide), r 35 0 rfl (by decide)]
    intro s hs
    rw [r 33 s rfl (by decide)]
    exact i3 s hs
  · intro k hk
    have f4 : fwScr 4 (2 + k) = false := by rcases (show k = 0 ∨ k = 1 ∨ k = 2 by omega) with rfl | rfl | rfl <;> rfl
    have f17 : fwScr 17 (2 + k) = false := by rcases (show k = 0 ∨ k = 1 ∨ k = 2 by omega) with rfl | rfl | rfl <;> rfl
    rw [r 23 0 rfl (by decide), r 38 0 rfl (by decide), r 37 0 rfl (by decide), r 3 (2 + k) rfl (by decide), r 4 (2 + k) f4 (by decide), r 5 (2 + k) rfl (by decide), r 17 (2 + k) f17 (by decide), r 18 (2 + k) rfl (by decide), r 21 (2 + k) rfl (by decide)]
    exact i4 k hk
  · rw [r 1 0 rfl (by decide), r 39 0 rfl (by decide), r 13 0 rfl (by decide), a.2.1.1]
    exact ⟨i5, i6, i7⟩
  · rw [r 2 0 rfl (by decide), a.2.1.2.1, a.2.1.2.2]
    exact ⟨i8, i9⟩
  · rw [r 17 1 rfl (by decide)]
    exact i10

/-- acts on the TAPE alone -/
theorem jI_tp {h g : fwH} (I : jI h) (r : ∀ a b, a ≠ 1 → a ≠ 13 → a ≠ 39 → a ≠ 40 → a ≠ 12 → g a b = h a b) (t : tOk g) (tp : g 12 0 5 = g 1 0 1 ∧ (∀ p : Nat, (p : Int) < g 1 0 1 → g 39 0 p = g 13 0 p) ∧ (∀ p : Nat, p < 900 → -128 ≤ g 39 0 p ∧ g 39 0 p < 128)) (f : g 12 0 12 = h 12 0 12 ∧ g 12 0 13 = h 12 0 13) : jI g := by
  have n : ∀ a b, a ≠ 1 ∧ a ≠ 13 ∧ a ≠ 39 ∧ a ≠ 40 ∧ a ≠ 12 → g a b = h a b := fun a b z => r a b z.1 z.2.1 z.2.2.1 z.2.2.2.1 z.2.2.2.2
  obtain ⟨i1, i2, i3, i4, i5, i6, i7⟩ := I
  obtain ⟨j1, j2, j3, j4, j5, j6, j7, j8, j9, j10, j11, j12⟩ := i1
  have m : mPic (g 3 0) (g 4 0) (g 5 0) (g 17 0) (g 18 0) (g 21 0) (g 36 0) := by
    rw [n 3 0 (by decide), n 4 0 (by decide), n 5 0 (by decide), n 17 0 (by decide), n 18 0 (by decide), n 21 0 (by decide), n 36 0 (by decide)]
    exact i2
  refine ⟨cOk_of m ?_ t ?_, m, ?_, ?_, tp, ?_, ?_⟩
  · intro s hs
    rw [n 35 0 (by decide), n 34 0 (by decide), n 33 s (by decide)]
    exact j10 s hs
  · unfold sc
    rw [n 25 0 (by decide), n 8 0 (by decide)]
    exact j12
  · intro s hs
    rw [n 46 0 (by decide), n 47 0 (by decide), n 48 0 (by decide), n 35 0 (by decide), n 34 0 (by decide), n 33 s (by decide)]
    exact i3 s hs
  · intro k hk
    rw [n 23 0 (by decide), n 38 0 (by decide), n 37 0 (by decide), n 3 _ (by decide), n 4 _ (by decide), n 5 _ (by decide), n 17 _ (by decide), n 18 _ (by decide), n 21 _ (by decide)]
    exact i4 k hk
  · rw [n 2 0 (by decide), f.1, f.2]
    exact i6
  · rw [n 17 1 (by decide)]
    exact i7
theorem jI_end {h : fwH} (I : jI h) {x : Int} (hx : 0 ≤ x ∧ x ≤ h 1 0 1) : jI (fwUp (fwUp h 1 0 1 x) 12 0 5 x) := by
  have T : tOk h := I.1.2.2.2.2.2.2.2.2.2.2.1
  obtain ⟨i5, i6, i7⟩ := I.2.2.2.2.1
  refine jI_tp I (fun a b h1 h2 h3 h4 h5 => ?_) ⟨hx.1, by have := T.2; exact Int.le_trans hx.2 this⟩ ⟨rfl, fun p hp => i6 p (Int.lt_of_lt_of_le hp hx.2), i7⟩ ⟨rfl, rfl⟩
  funext j
  show (if a = 12 ∧ b = 0 ∧ j = 5 then x else if a = 1 ∧ b = 0 ∧ j = 1 then x else h a b j) = h a b j
  rw [if_neg (fun (z : a = 12 ∧ b = 0 ∧ j = 5) => h5 z.1), if_neg (fun (z : a = 1 ∧ b = 0 ∧ j = 1) => h1 z.1)]
theorem mAdN_cg {B B' : Nat → Int} {s : Nat} (x : Int) (e : ∀ p : Nat, p < s → B p = B' p) : ∀ c p : Nat, p < s + c → mAdN B s x c p = mAdN B' s x c p := by
  intro c
  induction c with
  | zero => intro p hp; exact e p (by omega)
  | succ c ih =>
    intro p hp
    rw [mAdN, mAdN]
    unfold fwFu
    split
    · rfl
    · exact ih p (by omega)
theorem mAdN_b {B : Nat → Int} {s : Nat} (x : Int) (e : ∀ p : Nat, p < 900 → -128 ≤ B p ∧ B p < 128) : ∀ c p : Nat, p < 900 → -128 ≤ mAdN B s x c p ∧ mAdN B s x c p < 128 := by
  intro c
  induction c with
  | zero => exact e
  | succ c ih =>
    intro p hp
    rw [mAdN]
    unfold fwFu
    split
    · unfold fwB8
      rw [Int32.toInt_toInt8]
      have h1 := Int.bmod_lt (x := (Int32.ofInt (fwShr x (24 - 8 * (c : Int)))).toInt) (m := 256) (by decide)
      have h2 := Int.le_bmod (x := (Int32.ofInt (fwShr x (24 - 8 * (c : Int)))).toInt) (m := 256) (by decide)
      show -128 ≤ Int.bmod _ 256 ∧ Int.bmod _ 256 < 128
      omega
    · exact ih p hp
theorem mFeed_cg {B B' : Nat → Int} {s : Nat} (a b c p e : Int) (h : ∀ q : Nat, q < s → B q = B' q) : ∀ q : Nat, q < s + 20 → mFeed B s a b c p e q = mFeed B' s a b c p e q := by
  intro q hq
  unfold mFeed
  exact mAdN_cg e (mAdN_cg p (mAdN_cg c (mAdN_cg b (mAdN_cg a h 4) 4) 4) 4) 4 q (by omega)
theorem mFeed_b {B : Nat → Int} {s : Nat} (a b c p e : Int) (h : ∀ q : Nat, q < 900 → -128 ≤ B q ∧ B q < 128) : ∀ q : Nat, q < 900 → -128 ≤ mFeed B s a b c p e q ∧ mFeed B s a b c p e q < 128 := by
  unfold mFeed
  exact mAdN_b e (mAdN_b p (mAdN_b c (mAdN_b b (mAdN_b a h 4) 4) 4) 4) 4
theorem jI_feed {h : fwH} (I : jI h) (a b c p e : Int) (V : Nat → Int) (h8 : h 1 0 1 ≤ 880) : jI (fwUp (fwUc (fwUc (feH h 20 (mFeed (h 13 0) (h 1 0 1).toNat a b c p e)) 40 0 V) 39 0 (mFeed (h 39 0) (h 12 0 5).toNat a b c p e)) 12 0 5 (h 12 0 5 + 20)) := by
  have T : tOk h := I.1.2.2.2.2.2.2.2.2.2.2.1
  obtain ⟨t1, t2⟩ := T
  obtain ⟨i5, i6, i7⟩ := I.2.2.2.2.1
  refine jI_tp I (fun x y h1 h2 h3 h4 h5 => ?_) ?_ ⟨?_, fun q hq => ?_, ?_⟩ ⟨rfl, rfl⟩
  · funext j
    show (if x = 12 ∧ y = 0 ∧ j = 5 then _ else (fwUc (fwUc (feH h 20 (mFeed (h 13 0) (h 1 0 1).toNat a b c p e)) 40 0 V) 39 0 (mFeed (h 39 0) (h 12 0 5).toNat a b c p e)) x y j) = h x y j
    rw [if_neg (fun (z : x = 12 ∧ y = 0 ∧ j = 5) => h5 z.1), fwUc_ne (fun z => h3 z.1), fwUc_ne (fun z => h4 z.1)]
    unfold feH
    rw [fwUc_ne (fun z => h2 z.1), fwUc_ne (fun z => h1 z.1)]
  · show 0 ≤ h 1 0 1 + 20 ∧ h 1 0 1 + 20 ≤ 900
    omega
  · show h 12 0 5 + 20 = h 1 0 1 + 20
    omega
  · have hq2 : (q : Int) < h 1 0 1 + 20 := hq
    show mFeed (h 39 0) (h 12 0 5).toNat a b c p e q = mFeed (h 13 0) (h 1 0 1).toNat a b c p e q
    rw [i5]
    exact mFeed_cg a b c p e (fun z hz => i6 z (by omega)) q (by omega)
  · exact mFeed_b a b c p e i7
/-- acts on the MOUNTAIN alone -/
def isM0 (a b : Nat) : Prop := (a = 3 ∨ a = 4 ∨ a = 5 ∨ a = 17 ∨ a = 18 ∨ a = 21) ∧ b = 0
theorem jI_mt {h g : fwH} (I : jI h) (r : ∀ a b, ¬ isM0 a b → a ≠ 36 → a ≠ 42 → g a b = h a b) (m : mPic (g 3 0) (g 4 0) (g 5 0) (g 17 0) (g 18 0) (g 21 0) (g 36 0)) : jI g := by
  have n : ∀ a b, ¬ isM0 a b ∧ a ≠ 36 ∧ a ≠ 42 → g a b = h a b := fun a b z => r a b z.1 z.2.1 z.2.2
  obtain ⟨i1, i2, i3, i4, i5, i6, i7⟩ := I
  obtain ⟨j1, j2, j3, j4, j5, j6, j7, j8, j9, j10, j11, j12⟩ := i1
  have q : ∀ a b : Nat, (a ≠ 3 ∧ a ≠ 4 ∧ a ≠ 5 ∧ a ≠ 17 ∧ a ≠ 18 ∧ a ≠ 21) → ¬ isM0 a b := fun a b z y => by unfold isM0 at y; omega
  have q2 : ∀ a b : Nat, b ≠ 0 → ¬ isM0 a b := fun a b z y => z y.2
  refine ⟨cOk_of m ?_ ?_ ?_, m, ?_, ?_, ?_, ?_, ?_⟩
  · intro s hs
    rw [n 35 0 ⟨q _ _ (by decide), by decide⟩, n 34 0 ⟨q _ _ (by decide), by decide⟩, n 33 s ⟨q _ _ (by decide), by decide⟩]
    exact j10 s hs
  · unfold tOk
    rw [n 1 0 ⟨q _ _ (by decide), by decide⟩]
    exact j11
  · unfold sc
    rw [n 25 0 ⟨q _ _ (by decide), by decide⟩, n 8 0 ⟨q _ _ (by decide), by decide⟩]
    exact j12
  · intro s hs
    rw [n 46 0 ⟨q _ _ (by decide), by decide⟩, n 47 0 ⟨q _ _ (by decide), by decide⟩, n 48 0 ⟨q _ _ (by decide), by decide⟩, n 35 0 ⟨q _ _ (by decide), by decide⟩, n 34 0 ⟨q _ _ (by decide), by decide⟩, n 33 s ⟨q _ _ (by decide), by decide⟩]
    exact i3 s hs
  · intro k hk
    rw [n 23 0 ⟨q _ _ (by decide), by decide⟩, n 38 0 ⟨q _ _ (by decide), by decide⟩, n 37 0 ⟨q _ _ (by decide), by decide⟩, n 3 _ ⟨q2 _ _ (by omega), by decide⟩, n 4 _ ⟨q2 _ _ (by omega), by decide⟩, n 5 _ ⟨q2 _ _ (by omega), by decide⟩, n 17 _ ⟨q2 _ _ (by omega), by decide⟩, n 18 _ ⟨q2 _ _ (by omega), by decide⟩, n 21 _ ⟨q2 _ _ (by omega), by decide⟩]
    exact i4 k hk
  · rw [n 1 0 ⟨q _ _ (by decide), by decide⟩, n 39 0 ⟨q _ _ (by decide), by decide⟩, n 13 0 ⟨q _ _ (by decide), by decide⟩, n 12 0 ⟨q _ _ (by decide), by decide⟩]
    exact i5
  · rw [n 2 0 ⟨q _ _ (by decide), by decide⟩, n 12 0 ⟨q _ _ (by decide), by decide⟩]
    exact i6
  · rw [n 17 1 ⟨q2 _ _ (by decide), by decide⟩]
    exact i7

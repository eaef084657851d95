section
def eq10 (H H' : Nat → Int) : Prop := ∀ c : Nat, c < 10 → H c = H' c
theorem mTop_cg {H H' : Nat → Int} (e : eq10 H H') (ls : Int) : ∀ n : Nat, n ≤ 10 → mTop H ls n = mTop H' ls n := by
  intro n
  induction n with
  | zero => intro _; rfl
  | succ n ih =>
    intro hn
    have h1 := ih (by omega)
    have h2 := mTop_rng H' ls n
    have e2 : H (mTop H' ls n).toNat = H' (mTop H' ls n).toNat := e _ (by omega)
    rw [mTop, mTop, h1, e2, e n (by omega)]
theorem mLow_cg {H H' : Nat → Int} (e : eq10 H H') (ls : Int) {n : Nat} (hn : n ≤ 10) : eq10 (mLow n H ls) (mLow n H' ls) := by
  intro c hc
  have h2 := mTop_rng H' ls n
  have e2 : H (mTop H' ls n).toNat = H' (mTop H' ls n).toNat := e _ (by omega)
  unfold mLow
  rw [mTop_cg e ls n hn, e2]
  split
  · unfold fwFu
    rw [e c hc]
  · exact e c hc
theorem hOf_cg {H H' : Nat → Int} (e : eq10 H H') {n : Int} (hn : n ≤ 10) (x : Int) : hOf n H x = hOf n H' x := by
  unfold hOf
  split
  · exact e _ (by omega)
  · rfl
theorem mDown_cg {H H' : Nat → Int} (e : eq10 H H') {n : Int} (hn : n ≤ 10) (x sl : Int) : mDown n H x sl = mDown n H' x sl := by
  unfold mDown
  simp only [hOf_cg e hn]
theorem mDesc_cg {H H' : Nat → Int} (e : eq10 H H') {n : Int} (hn : n ≤ 10) (sl : Int) : ∀ (f : Nat) (x : Int), mDesc n H sl f x = mDesc n H' sl f x := by
  intro f
  induction f with
  | zero => intro x; rfl
  | succ f ih => intro x; rw [mDesc, mDesc, mDown_cg e hn, ih]
theorem mStay_cg {H H' : Nat → Int} (e : eq10 H H') {n : Int} (hn : n ≤ 10) (rs x : Int) : mStay n H rs x = mStay n H' rs x := by
  unfold mStay
  rw [mDesc_cg e hn, hOf_cg e hn]
theorem stp_cg {H H' : Nat → Int} (e : eq10 H H') {n : Int} (hn : 0 ≤ n ∧ n ≤ 10) (ls rs a : Int) (ha : 0 ≤ a ∧ a ≤ n) : eq10 (stp n ls rs H a) (stp n ls rs H' a) := by
  unfold stp
  split
  · exact mLow_cg e ls (by omega)
  · rename_i q
    rw [mStay_cg e hn.2]
    intro c hc
    unfold mRs
    split
    · exact e c hc
    · rename_i q2
      have h3 := mStay_rng (n := n) H' (rs := rs) (x := a - 1) hn (by omega)
      unfold fwFu
      rw [e c hc, e _ (show (mStay n H' rs (a - 1)).toNat < 10 by omega)]
/-- pictures that say the same of the heights up to some act -/
theorem rep_cg {W W' : Nat → Int} (h0 : W' 0 = W 0) (h4 : W' 4 = W 4) (h2 : W' 2 = W 2) (h9 : ∀ c : Nat, c < 10 → W' (9 + c) = W (9 + c)) (hn : 0 ≤ W 0 ∧ W 0 ≤ 10) : ∀ k : Nat, (∀ i : Nat, i < k → W' (75 + i) = W (75 + i) ∧ 0 ≤ W (75 + i) ∧ W (75 + i) ≤ W 0) → eq10 (rep W' k) (rep W k) := by
  intro k
  induction k with
  | zero => intro _ c hc; exact h9 c hc
  | succ k ih =>
    intro hk
    have h1 := ih (fun i hi => hk i (by omega))
    obtain ⟨k1, k2, k3⟩ := hk k (by omega)
    rw [rep, rep, h0, h4, h2, k1]
    exact stp_cg h1 hn _ _ _ ⟨k2, k3⟩
/-- a record of an act takes it back -/
def rcd (n : Int) (W : Nat → Int) (i : Nat) (a : Int) : Prop := (-20 ≤ a ∧ a ≤ 20) ∧ (0 ≤ mBackC a ∧ mBackC a < n) ∧ a ≠ 0 ∧ ∀ z : Nat, (z : Int) < n → rep W i z = if z = (mBackC a).toNat then rep W (i + 1) z + mBackD a else rep W (i + 1) z
/-- a MOUNTAIN's six rows and a picture of it -/
def mPic (r3 r4 r5 r17 r18 r21 W : Nat → Int) : Prop :=
  ((0 ≤ r3 6 ∧ r3 6 ≤ 1000) ∧ (0 ≤ r5 3 ∧ r5 3 ≤ 8) ∧ (0 ≤ r4 1 ∧ r4 1 ≤ 10) ∧ (0 ≤ r4 2 ∧ r4 2 ≤ 40) ∧ (0 ≤ r4 3 ∧ r4 3 ≤ 40) ∧ (r4 4 = 0 ∨ r4 4 = 1) ∧ (∀ c : Nat, c < 10 → 0 ≤ r17 c ∧ r17 c ≤ 99) ∧ (0 < r3 6 → 3 ≤ r4 1) ∧ (r3 6 = 0 → r4 1 = 0 ∧ r5 3 = 0 ∧ r3 3 = 0) ∧ (0 ≤ r3 4 ∧ r3 4 ≤ 999) ∧ (0 < r3 6 → 0 ≤ r3 5 ∧ r3 5 < r4 1) ∧ (0 ≤ r3 3 ∧ r3 3 ≤ 60))
  ∧ (∀ f : Nat, f < 8 → (0 ≤ r18 (7 * f) ∧ r18 (7 * f) < 10) ∧ (0 ≤ r18 (7 * f + 1) ∧ r18 (7 * f + 1) ≤ 99) ∧ (0 ≤ r18 (7 * f + 2) ∧ r18 (7 * f + 2) ≤ 9) ∧ (0 ≤ r18 (7 * f + 3) ∧ r18 (7 * f + 3) ≤ 9) ∧ (0 ≤ r18 (7 * f + 4) ∧ r18 (7 * f + 4) ≤ 9) ∧ (0 ≤ r18 (7 * f + 5) ∧ r18 (7 * f + 5) ≤ 7) ∧ (0 ≤ r18 (7 * f + 6) ∧ r18 (7 * f + 6) ≤ 255))
  ∧ (W 0 = r4 1 ∧ W 1 = r4 2 ∧ W 2 = r4 3 ∧ W 3 = r3 4 ∧ W 4 = r4 4 ∧ W 5 = r3 5 ∧ W 6 = r5 3 ∧ W 7 = r3 6 ∧ W 8 = r3 3 ∧ (∀ j : Nat, j < 56 → W (19 + j) = r18 j) ∧ (∀ f : Nat, (f : Int) < r5 3 → r18 (7 * f) < r4 1) ∧ (0 < r3 6 → 1 ≤ r4 3 ∧ 1 ≤ r3 4))
  ∧ ((∀ i : Nat, (i : Int) ≤ r3 3 → ∀ c : Nat, c < 10 → 0 ≤ rep W i c ∧ rep W i c ≤ 99) ∧ (∀ i : Nat, (i : Int) < r3 3 → 0 ≤ W (75 + i) ∧ W (75 + i) ≤ r4 1) ∧ hiR (r4 1) (rep W (r3 3).toNat) r17)
  ∧ (∀ i : Nat, (i : Int) < r3 3 → rcd (r4 1) W i (r21 i))
/-- what stands between two calls -/
def jI (h : fwH) : Prop := cOk h ∧ mPic (h 3 0) (h 4 0) (h 5 0) (h 17 0) (h 18 0) (h 21 0) (h 36 0) ∧ jS h h
  ∧ (∀ k : Nat, k < 3 → (h 23 0 k = 0 ∨ h 23 0 k = 1) ∧ h 38 0 k = h 23 0 k ∧ (h 23 0 k = 1 → mPic (h 3 (2 + k)) (h 4 (2 + k)) (h 5 (2 + k)) (h 17 (2 + k)) (h 18 (2 + k)) (h 21 (2 + k)) (fun s => h 37 0 (135 * k + s))))
  ∧ (h 12 0 5 = h 1 0 1 ∧ (∀ p : Nat, (p : Int) < h 1 0 1 → h 39 0 p = h 13 0 p) ∧ (∀ p : Nat, p < 900 → -128 ≤ h 39 0 p ∧ h 39 0 p < 128))
  ∧ (h 12 0 12 = h 2 0 6 ∧ h 12 0 13 = h 2 0 7) ∧ rHg (h 17 1)
theorem jI_F {e : fwH} (I : jI e) : jF e e := I.2.1.2.2.1
theorem jI_A {e : fwH} (I : jI e) : jA e e := I.2.1.2.2.2.1
theorem jI_S {h : fwH} (I : jI h) : jS h h := I.2.2.1
theorem jI_sc {h : fwH} (I : jI h) : sc h := I.1.2.2.2.2.2.2.2.2.2.2.2
/-- a question keeps it -/
theorem jI_scr {h g : fwH} (I : jI h) (a : scr h g) : jI g := by
  have r : ∀ x y, fwScr x y = false → x ≠ 12 → g x y = h x y := a.1
  obtain ⟨i1, i2, i3, i4, ⟨i5, i6, i7⟩, ⟨i8, i9⟩, i10⟩ := I
  refine ⟨cOk_scr i1 a, ?_, ?_, ?_, ?_, ?_, ?_⟩
  · rw [r 3 0 rfl (by decide), r 4 0 rfl (by decide), r 5 0 rfl (by decide), r 17 0 rfl (by decide), r 18 0 rfl (by decide), r 21 0 rfl (by decide), r 36 0 rfl (by decide)]
    exact i2
  · unfold jS
    rw [r 46 0 rfl (by decide), r 47 0 rfl (by decide), r 48 0 rfl (by decide), r 34 0 rfl (by decide), r 35 0 rfl (by decide)]
    intro s hs
    rw [r 33 s rfl (by decide)]
    exact i3 s hs
  · intro k hk
    have f4 : fwScr 4 (2 + k) = false := by rcases (show k = 0 ∨ k = 1 ∨ k = 2 by omega) with rfl | rfl | rfl <;> rfl
    have f17 : fwScr 17 (2 + k) = false := by rcases (show k = 0 ∨ k = 1 ∨ k = 2 by omega) with rfl | rfl | rfl <;> rfl
    rw [r 23 0 rfl (by decide), r 38 0 rfl (by decide), r 37 0 rfl (by decide), r 3 (2 + k) rfl (by decide), r 4 (2 + k) f4 (by decide), r 5 (2 + k) rfl (by decide), r 17 (2 + k) f17 (by decide), r 18 (2 + k) rfl (by decide), r 21 (2 + k) rfl (by decide)]
    exact i4 k hk
  · rw [r 1 0 rfl (by decide), r 39 0 rfl (by decide), r 13 0 rfl (by decide), a.2.1.1]
    exact ⟨i5, i6, i7⟩
  · rw [r 2 0 rfl (by decide), a.2.1.2.1, a.2.1.2.2]
    exact ⟨i8, i9⟩
  · rw [r 17 1 rfl (by decide)]
    exact i10
end
section
theorem cOk_of {h : fwH} {W : Nat → Int} (m : mPic (h 3 0) (h 4 0) (h 5 0) (h 17 0) (h 18 0) (h 21 0) W) (s : sOk h) (t : tOk h) (c : sc h) : cOk h := by
  obtain ⟨⟨a1, a2, a3, a4, a5, a6, a7, a8, a9, a10, a11, a12⟩, b, -, -, -⟩ := m
  exact ⟨a1, ⟨a2, b⟩, ⟨a3, a4, a5, a6, fun c hc => by have := a7 c hc; omega⟩, a7, a8, a9, a10, a11, a12, s, t, c⟩
def isSl (a : Nat) : Prop := (33 ≤ a ∧ a ≤ 35) ∨ (46 ≤ a ∧ a ≤ 49)
/-- acts on SLOTS alone -/
theorem jI_sl {h g : fwH} (I : jI h) (r : ∀ a b, ¬ isSl a → g a b = h a b) (s : sOk g) (S : jS g g) : jI g := by
  have q : ∀ a b, ¬ isSl a → g a b = h a b := r
  have n : ∀ a : Nat, a < 33 ∨ (36 ≤ a ∧ a < 46) → ¬ isSl a := fun a ha z => by unfold isSl at z; omega
  obtain ⟨i1, i2, i3, i4, i5, i6, i7⟩ := I
  obtain ⟨j1, j2, j3, j4, j5, j6, j7, j8, j9, j10, j11, j12⟩ := i1
  have m : mPic (g 3 0) (g 4 0) (g 5 0) (g 17 0) (g 18 0) (g 21 0) (g 36 0) := by
    rw [q 3 0 (n _ (by omega)), q 4 0 (n _ (by omega)), q 5 0 (n _ (by omega)), q 17 0 (n _ (by omega)), q 18 0 (n _ (by omega)), q 21 0 (n _ (by omega)), q 36 0 (n _ (by omega))]
    exact i2
  refine ⟨cOk_of m s ?_ ?_, m, S, ?_, ?_, ?_, ?_⟩
  · unfold tOk
    rw [q 1 0 (n _ (by omega))]
    exact j11
  · unfold sc
    rw [q 25 0 (n _ (by omega)), q 8 0 (n _ (by omega))]
    exact j12
  · intro k hk
    rw [q 23 0 (n _ (by omega)), q 38 0 (n _ (by omega)), q 37 0 (n _ (by omega)), q 3 _ (n _ (by omega)), q 4 _ (n _ (by omega)), q 5 _ (n _ (by omega)), q 17 _ (n _ (by omega)), q 18 _ (n _ (by omega)), q 21 _ (n _ (by omega))]
    exact i4 k hk
  · rw [q 1 0 (n _ (by omega)), q 39 0 (n _ (by omega)), q 13 0 (n _ (by omega)), q 12 0 (n _ (by omega))]
    exact i5
  · rw [q 2 0 (n _ (by omega)), q 12 0 (n _ (by omega))]
    exact i6
  · rw [q 17 1 (n _ (by omega))]
    exact i7
theorem fwUc_ns {h : fwH} {k i : Nat} {f : Nat → Int} (hk : isSl k) : ∀ a b, ¬ isSl a → fwUc h k i f a b = h a b := fun a b ha => fwUc_ne (fun z => ha (z.1 ▸ hk))
theorem fwUp_ns {h : fwH} {k i j : Nat} {x : Int} (hk : isSl k) : ∀ a b, ¬ isSl a → fwUp h k i j x a b = h a b := fun a b ha => by
  funext s
  show (if a = k ∧ b = i ∧ s = j then x else h a b s) = h a b s
  exact if_neg (fun (z : a = k ∧ b = i ∧ s = j) => ha (z.1 ▸ hk))
theorem ns_tr {h g f : fwH} (a : ∀ x y, ¬ isSl x → g x y = h x y) (b : ∀ x y, ¬ isSl x → f x y = g x y) : ∀ x y, ¬ isSl x → f x y = h x y := fun x y p => (b x y p).trans (a x y p)
theorem mCut_rng {v w : Int} (hv : -9223372036854775808 ≤ v ∧ v < 9223372036854775808) : -9223372036854775808 ≤ mCut v w ∧ mCut v w < 9223372036854775808 := by
  have b8 : ∀ x : Int, -128 ≤ fwB8 x ∧ fwB8 x < 128 := fun x => by
    unfold fwB8
    rw [Int32.toInt_toInt8]
    have := Int.bmod_lt (x := (Int32.ofInt x).toInt) (m := 256) (by decide)
    have := Int.le_bmod (x := (Int32.ofInt x).toInt) (m := 256) (by decide)
    show -128 ≤ Int.bmod _ 256 ∧ Int.bmod _ 256 < 128
    omega
  have b16 : ∀ x : Int, -32768 ≤ fwS16 x ∧ fwS16 x < 32768 := fun x => by
    unfold fwS16
    rw [Int32.toInt_toInt16]
    have := Int.bmod_lt (x := (Int32.ofInt x).toInt) (m := 65536) (by decide)
    have := Int.le_bmod (x := (Int32.ofInt x).toInt) (m := 65536) (by decide)
    show -32768 ≤ Int.bmod _ 65536 ∧ Int.bmod _ 65536 < 32768
    omega
  have b32 : ∀ x : Int, -2147483648 ≤ fwI32 x ∧ fwI32 x < 2147483648 := fun x => by
    unfold fwI32
    rw [Int32.toInt_ofInt]
    have := Int.bmod_lt (x := x) (m := 4294967296) (by decide)
    have := Int.le_bmod (x := x) (m := 4294967296) (by decide)
    show _ ≤ Int.bmod x 4294967296 ∧ Int.bmod x 4294967296 < _
    omega
  have h1 := b8 v
  have h2 := b16 v
  have h3 := b32 v
  unfold mCut
  split
  · omega
  · split
    · omega
    · split <;> omega
/-- row -/
theorem jI_row {h : fwH} (I : jI h) {s : Nat} {y z : Int} (hs : s < 4) (hy : 0 ≤ y ∧ y < 4) (hz : 0 ≤ z ∧ z ≤ 60) : jI (fwUc (fwUp (fwUp (fwUc (fwUp (fwUp h 34 0 s y) 35 0 s z) 33 s (fun _ => 0)) 46 0 s z) 47 0 s y) 48 0 (fun j => if 60 * s ≤ j ∧ j < 60 * s + 60 then 0 else h 48 0 j)) := by
  have l34 : isSl 34 := by unfold isSl; omega
  have l35 : isSl 35 := by unfold isSl; omega
  have l33 : isSl 33 := by unfold isSl; omega
  have l46 : isSl 46 := by unfold isSl; omega
  have l47 : isSl 47 := by unfold isSl; omega
  have l48 : isSl 48 := by unfold isSl; omega
  have S := jI_S I
  have O : sOk h := I.1.2.2.2.2.2.2.2.2.2.1
  refine jI_sl I (ns_tr (ns_tr (ns_tr (ns_tr (ns_tr (fwUp_ns l34) (fwUp_ns l35)) (fwUc_ns l33)) (fwUp_ns l46)) (fwUp_ns l47)) (fwUc_ns l48)) ?_ ?_
  · intro t ht
    obtain ⟨o1, o2, o3⟩ := O t ht
    refine ⟨?_, ?_, fun j hj => ?_⟩
    · show -1 ≤ (if 35 = 35 ∧ 0 = 0 ∧ t = s then z else h 35 0 t) ∧ (if 35 = 35 ∧ 0 = 0 ∧ t = s then z else h 35 0 t) ≤ 60
      split <;> omega
    · show 0 ≤ (if 34 = 34 ∧ 0 = 0 ∧ t = s then y else h 34 0 t) ∧ (if 34 = 34 ∧ 0 = 0 ∧ t = s then y else h 34 0 t) ≤ 3
      split <;> omega
    · have := o3 j hj
      show -9223372036854775808 ≤ (if 33 = 33 ∧ t = s then (fun _ => 0) else h 33 t) j ∧ (if 33 = 33 ∧ t = s then (fun _ => 0) else h 33 t) j < 9223372036854775808
      by_cases e : t = s
      · rw [if_pos ⟨rfl, e⟩]; omega
      · rw [if_neg (fun q => e q.2)]; exact this
  · intro t ht
    obtain ⟨o1, o2, o3⟩ := S t ht
    refine ⟨?_, ?_, fun j hj => ?_⟩
    · show (if 46 = 46 ∧ 0 = 0 ∧ t = s then z else h 46 0 t) = (if 35 = 35 ∧ 0 = 0 ∧ t = s then z else h 35 0 t)
      by_cases e : t = s
      · rw [if_pos ⟨rfl, rfl, e⟩, if_pos ⟨rfl, rfl, e⟩]
      · rw [if_neg (fun q => e q.2.2), if_neg (fun q => e q.2.2)]; exact o1
    · show (if 47 = 47 ∧ 0 = 0 ∧ t = s then y else h 47 0 t) = (if 34 = 34 ∧ 0 = 0 ∧ t = s then y else h 34 0 t)
      by_cases e : t = s
      · rw [if_pos ⟨rfl, rfl, e⟩, if_pos ⟨rfl, rfl, e⟩]
      · rw [if_neg (fun q => e q.2.2), if_neg (fun q => e q.2.2)]; exact o2
    · show (if 60 * s ≤ 60 * t + j ∧ 60 * t + j < 60 * s + 60 then 0 else h 48 0 (60 * t + j)) = (if 33 = 33 ∧ t = s then (fun _ => 0) else h 33 t) j
      by_cases e : t = s
      · rw [if_pos (by omega), if_pos ⟨rfl, e⟩]
      · rw [if_neg (by omega), if_neg (fun q => e q.2)]; exact o3 j hj
/-- write -/
theorem jI_write {h : fwH} (I : jI h) {s i : Nat} {v : Int} (hs : s < 4) (hi : i < 60) (hv : -9223372036854775808 ≤ v ∧ v < 9223372036854775808) : jI (fwUp (fwUp h 33 s i (mCut v (h 34 0 s))) 48 0 (60 * s + i) (mdCut v (h 47 0 s))) := by
  have l33 : isSl 33 := by unfold isSl; omega
  have l48 : isSl 48 := by unfold isSl; omega
  have S := jI_S I
  have O : sOk h := I.1.2.2.2.2.2.2.2.2.2.1
  have ec : mdCut v (h 47 0 s) = mCut v (h 34 0 s) := by rw [(S s hs).2.1]; exact cut_eq hv (by have := (O s hs).2.1; omega)
  have hr := mCut_rng (w := h 34 0 s) hv
  rw [ec]
  generalize mCut v (h 34 0 s) = u at hr ⊢
  refine jI_sl I (ns_tr (fwUp_ns l33) (fwUp_ns l48)) ?_ ?_
  · intro t ht
    obtain ⟨o1, o2, o3⟩ := O t ht
    refine ⟨o1, o2, fun j hj => ?_⟩
    have := o3 j hj
    show -9223372036854775808 ≤ (if 33 = 33 ∧ t = s ∧ j = i then u else h 33 t j) ∧ (if 33 = 33 ∧ t = s ∧ j = i then u else h 33 t j) < 9223372036854775808
    split <;> omega
  · intro t ht
    obtain ⟨o1, o2, o3⟩ := S t ht
    refine ⟨o1, o2, fun j hj => ?_⟩
    show (if 48 = 48 ∧ 0 = 0 ∧ 60 * t + j = 60 * s + i then u else h 48 0 (60 * t + j)) = (if 33 = 33 ∧ t = s ∧ j = i then u else h 33 t j)
    by_cases e : t = s ∧ j = i
    · rw [if_pos ⟨rfl, rfl, by omega⟩, if_pos ⟨rfl, e⟩]
    · rw [if_neg (fun q => e (by omega)), if_neg (fun q => e q.2)]; exact o3 j hj
/-- paste -/
theorem jI_paste {h : fwH} (I : jI h) {s t i k m : Nat} (F : Nat → Int) (hs : s < 4) (ht : t < 4) (hi : i + m ≤ 60) (hk : k + m ≤ 60) : jI (fwUc (fwUc (fwUc h 33 t (va_cpy (h 33 s) (h 33 t) i k m)) 49 0 F) 48 0 (psr (h 48 0) (60 * s + i) (60 * t + k) m)) := by
  have l33 : isSl 33 := by unfold isSl; omega
  have l48 : isSl 48 := by unfold isSl; omega
  have l49 : isSl 49 := by unfold isSl; omega
  have S := jI_S I
  have O : sOk h := I.1.2.2.2.2.2.2.2.2.2.1
  refine jI_sl I (ns_tr (ns_tr (fwUc_ns l33) (fwUc_ns l49)) (fwUc_ns l48)) ?_ ?_
  · intro q hq
    obtain ⟨o1, o2, o3⟩ := O q hq
    refine ⟨o1, o2, fun j hj => ?_⟩
    show -9223372036854775808 ≤ (if 33 = 33 ∧ q = t then va_cpy (h 33 s) (h 33 t) i k m else h 33 q) j ∧ (if 33 = 33 ∧ q = t then va_cpy (h 33 s) (h 33 t) i k m else h 33 q) j < 9223372036854775808
    by_cases e : q = t
    · rw [if_pos ⟨rfl, e⟩]
      unfold va_cpy
      split
      · exact (O s hs).2.2 _ (by omega)
      · exact (O t ht).2.2 j hj
    · rw [if_neg (fun z => e z.2)]
      exact o3 j hj
  · intro q hq
    obtain ⟨o1, o2, o3⟩ := S q hq
    refine ⟨o1, o2, fun j hj => ?_⟩
    show psr (h 48 0) (60 * s + i) (60 * t + k) m (60 * q + j) = (if 33 = 33 ∧ q = t then va_cpy (h 33 s) (h 33 t) i k m else h 33 q) j
    by_cases e : q = t
    · subst e
      rw [if_pos ⟨rfl, rfl⟩]
      unfold psr va_cpy
      by_cases z : k ≤ j ∧ j < k + m
      · rw [if_pos (by omega), if_pos z, show 60 * s + i + (60 * q + j - (60 * q + k)) = 60 * s + (i + (j - k)) by omega]
        exact (S s hs).2.2 _ (by omega)
      · rw [if_neg (by omega), if_neg z]
        exact o3 j hj
    · rw [if_neg (fun z => e z.2)]
      unfold psr
      rw [if_neg (by omega)]
      exact o3 j hj
end
section
/-- acts on the TAPE alone -/
theorem jI_tp {h g : fwH} (I : jI h) (r : ∀ a b, a ≠ 1 → a ≠ 13 → a ≠ 39 → a ≠ 40 → a ≠ 12 → g a b = h a b) (t : tOk g) (tp : g 12 0 5 = g 1 0 1 ∧ (∀ p : Nat, (p : Int) < g 1 0 1 → g 39 0 p = g 13 0 p) ∧ (∀ p : Nat, p < 900 → -128 ≤ g 39 0 p ∧ g 39 0 p < 128)) (f : g 12 0 12 = h 12 0 12 ∧ g 12 0 13 = h 12 0 13) : jI g := by
  have n : ∀ a b, a ≠ 1 ∧ a ≠ 13 ∧ a ≠ 39 ∧ a ≠ 40 ∧ a ≠ 12 → g a b = h a b := fun a b z => r a b z.1 z.2.1 z.2.2.1 z.2.2.2.1 z.2.2.2.2
  obtain ⟨i1, i2, i3, i4, i5, i6, i7⟩ := I
  obtain ⟨j1, j2, j3, j4, j5, j6, j7, j8, j9, j10, j11, j12⟩ := i1
  have m : mPic (g 3 0) (g 4 0) (g 5 0) (g 17 0) (g 18 0) (g 21 0) (g 36 0) := by
    rw [n 3 0 (by decide), n 4 0 (by decide), n 5 0 (by decide), n 17 0 (by decide), n 18 0 (by decide), n 21 0 (by decide), n 36 0 (by decide)]
    exact i2
  refine ⟨cOk_of m ?_ t ?_, m, ?_, ?_, tp, ?_, ?_⟩
  · intro s hs
    rw [n 35 0 (by decide), n 34 0 (by decide), n 33 s (by decide)]
    exact j10 s hs
  · unfold sc
    rw [n 25 0 (by decide), n 8 0 (by decide)]
    exact j12
  · intro s hs
    rw [n 46 0 (by decide), n 47 0 (by decide), n 48 0 (by decide), n 35 0 (by decide), n 34 0 (by decide), n 33 s (by decide)]
    exact i3 s hs
  · intro k hk
    rw [n 23 0 (by decide), n 38 0 (by decide), n 37 0 (by decide), n 3 _ (by decide), n 4 _ (by decide), n 5 _ (by decide), n 17 _ (by decide), n 18 _ (by decide), n 21 _ (by decide)]
    exact i4 k hk
  · rw [n 2 0 (by decide), f.1, f.2]
    exact i6
  · rw [n 17 1 (by decide)]
    exact i7
theorem jI_end {h : fwH} (I : jI h) {x : Int} (hx : 0 ≤ x ∧ x ≤ h 1 0 1) : jI (fwUp (fwUp h 1 0 1 x) 12 0 5 x) := by
  have T : tOk h := I.1.2.2.2.2.2.2.2.2.2.2.1
  obtain ⟨i5, i6, i7⟩ := I.2.2.2.2.1
  refine jI_tp I (fun a b h1 h2 h3 h4 h5 => ?_) ⟨hx.1, by have := T.2; exact Int.le_trans hx.2 this⟩ ⟨rfl, fun p hp => i6 p (Int.lt_of_lt_of_le hp hx.2), i7⟩ ⟨rfl, rfl⟩
  funext j
  show (if a = 12 ∧ b = 0 ∧ j = 5 then x else if a = 1 ∧ b = 0 ∧ j = 1 then x else h a b j) = h a b j
  rw [if_neg (fun (z : a = 12 ∧ b = 0 ∧ j = 5) => h5 z.1), if_neg (fun (z : a = 1 ∧ b = 0 ∧ j = 1) => h1 z.1)]
theorem mAdN_cg {B B' : Nat → Int} {s : Nat} (x : Int) (e : ∀ p : Nat, p < s → B p = B' p) : ∀ c p : Nat, p < s + c → mAdN B s x c p = mAdN B' s x c p := by
  intro c
  induction c with
  | zero => intro p hp; exact e p (by omega)
  | succ c ih =>
    intro p hp
    rw [mAdN, mAdN]
    unfold fwFu
    split
    · rfl
    · exact ih p (by omega)
theorem mAdN_b {B : Nat → Int} {s : Nat} (x : Int) (e : ∀ p : Nat, p < 900 → -128 ≤ B p ∧ B p < 128) : ∀ c p : Nat, p < 900 → -128 ≤ mAdN B s x c p ∧ mAdN B s x c p < 128 := by
  intro c
  induction c with
  | zero => exact e
  | succ c ih =>
    intro p hp
    rw [mAdN]
    unfold fwFu
    split
    · unfold fwB8
      rw [Int32.toInt_toInt8]
      have h1 := Int.bmod_lt (x := (Int32.ofInt (fwShr x (24 - 8 * (c : Int)))).toInt) (m := 256) (by decide)
      have h2 := Int.le_bmod (x := (Int32.ofInt (fwShr x (24 - 8 * (c : Int)))).toInt) (m := 256) (by decide)
      show -128 ≤ Int.bmod _ 256 ∧ Int.bmod _ 256 < 128
      omega
    · exact ih p hp
theorem mFeed_cg {B B' : Nat → Int} {s : Nat} (a b c p e : Int) (h : ∀ q : Nat, q < s → B q = B' q) : ∀ q : Nat, q < s + 20 → mFeed B s a b c p e q = mFeed B' s a b c p e q := by
  intro q hq
  unfold mFeed
  exact mAdN_cg e (mAdN_cg p (mAdN_cg c (mAdN_cg b (mAdN_cg a h 4) 4) 4) 4) 4 q (by omega)
theorem mFeed_b {B : Nat → Int} {s : Nat} (a b c p e : Int) (h : ∀ q : Nat, q < 900 → -128 ≤ B q ∧ B q < 128) : ∀ q : Nat, q < 900 → -128 ≤ mFeed B s a b c p e q ∧ mFeed B s a b c p e q < 128 := by
  unfold mFeed
  exact mAdN_b e (mAdN_b p (mAdN_b c (mAdN_b b (mAdN_b a h 4) 4) 4) 4) 4
theorem jI_feed {h : fwH} (I : jI h) (a b c p e : Int) (V : Nat → Int) (h8 : h 1 0 1 ≤ 880) : jI (fwUp (fwUc (fwUc (feH h 20 (mFeed (h 13 0) (h 1 0 1).toNat a b c p e)) 40 0 V) 39 0 (mFeed (h 39 0) (h 12 0 5).toNat a b c p e)) 12 0 5 (h 12 0 5 + 20)) := by
  have T : tOk h := I.1.2.2.2.2.2.2.2.2.2.2.1
  obtain ⟨t1, t2⟩ := T
  obtain ⟨i5, i6, i7⟩ := I.2.2.2.2.1
  refine jI_tp I (fun x y h1 h2 h3 h4 h5 => ?_) ?_ ⟨?_, fun q hq => ?_, ?_⟩ ⟨rfl, rfl⟩
  · funext j
    show (if x = 12 ∧ y = 0 ∧ j = 5 then _ else (fwUc (fwUc (feH h 20 (mFeed (h 13 0) (h 1 0 1).toNat a b c p e)) 40 0 V) 39 0 (mFeed (h 39 0) (h 12 0 5).toNat a b c p e)) x y j) = h x y j
    rw [if_neg (fun (z : x = 12 ∧ y = 0 ∧ j = 5) => h5 z.1), fwUc_ne (fun z => h3 z.1), fwUc_ne (fun z => h4 z.1)]
    unfold feH
    rw [fwUc_ne (fun z => h2 z.1), fwUc_ne (fun z => h1 z.1)]
  · show 0 ≤ h 1 0 1 + 20 ∧ h 1 0 1 + 20 ≤ 900
    omega
  · show h 12 0 5 + 20 = h 1 0 1 + 20
    omega
  · have hq2 : (q : Int) < h 1 0 1 + 20 := hq
    show mFeed (h 39 0) (h 12 0 5).toNat a b c p e q = mFeed (h 13 0) (h 1 0 1).toNat a b c p e q
    rw [i5]
    exact mFeed_cg a b c p e (fun z hz => i6 z (by omega)) q (by omega)
  · exact mFeed_b a b c p e i7
/-- acts on the MOUNTAIN alone -/
def isM0 (a b : Nat) : Prop := (a = 3 ∨ a = 4 ∨ a = 5 ∨ a = 17 ∨ a = 18 ∨ a = 21) ∧ b = 0
theorem jI_mt {h g : fwH} (I : jI h) (r : ∀ a b, ¬ isM0 a b → a ≠ 36 → a ≠ 42 → g a b = h a b) (m : mPic (g 3 0) (g 4 0) (g 5 0) (g 17 0) (g 18 0) (g 21 0) (g 36 0)) : jI g := by
  have n : ∀ a b, ¬ isM0 a b ∧ a ≠ 36 ∧ a ≠ 42 → g a b = h a b := fun a b z => r a b z.1 z.2.1 z.2.2
  obtain ⟨i1, i2, i3, i4, i5, i6, i7⟩ := I
  obtain ⟨j1, j2, j3, j4, j5, j6, j7, j8, j9, j10, j11, j12⟩ := i1
  have q : ∀ a b : Nat, (a ≠ 3 ∧ a ≠ 4 ∧ a ≠ 5 ∧ a ≠ 17 ∧ a ≠ 18 ∧ a ≠ 21) → ¬ isM0 a b := fun a b z y => by unfold isM0 at y; omega
  have q2 : ∀ a b : Nat, b ≠ 0 → ¬ isM0 a b := fun a b z y => z y.2
  refine ⟨cOk_of m ?_ ?_ ?_, m, ?_, ?_, ?_, ?_, ?_⟩
  · intro s hs
    rw [n 35 0 ⟨q _ _ (by decide), by decide⟩, n 34 0 ⟨q _ _ (by decide), by decide⟩, n 33 s ⟨q _ _ (by decide), by decide⟩]
    exact j10 s hs
  · unfold tOk
    rw [n 1 0 ⟨q _ _ (by decide), by decide⟩]
    exact j11
  · unfold sc
    rw [n 25 0 ⟨q _ _ (by decide), by decide⟩, n 8 0 ⟨q _ _ (by decide), by decide⟩]
    exact j12
  · intro s hs
    rw [n 46 0 ⟨q _ _ (by decide), by decide⟩, n 47 0 ⟨q _ _ (by decide), by decide⟩, n 48 0 ⟨q _ _ (by decide), by decide⟩, n 35 0 ⟨q _ _ (by decide), by decide⟩, n 34 0 ⟨q _ _ (by decide), by decide⟩, n 33 s ⟨q _ _ (by decide), by decide⟩]
    exact i3 s hs
  · intro k hk
    rw [n 23 0 ⟨q _ _ (by decide), by decide⟩, n 38 0 ⟨q _ _ (by decide), by decide⟩, n 37 0 ⟨q _ _ (by decide), by decide⟩, n 3 _ ⟨q2 _ _ (by omega), by decide⟩, n 4 _ ⟨q2 _ _ (by omega), by decide⟩, n 5 _ ⟨q2 _ _ (by omega), by decide⟩, n 17 _ ⟨q2 _ _ (by omega), by decide⟩, n 18 _ ⟨q2 _ _ (by omega), by decide⟩, n 21 _ ⟨q2 _ _ (by omega), by decide⟩]
    exact i4 k hk
  · rw [n 1 0 ⟨q _ _ (by decide), by decide⟩, n 39 0 ⟨q _ _ (by decide), by decide⟩, n 13 0 ⟨q _ _ (by decide), by decide⟩, n 12 0 ⟨q _ _ (by decide), by decide⟩]
    exact i5
  · rw [n 2 0 ⟨q _ _ (by decide), by decide⟩, n 12 0 ⟨q _ _ (by decide), by decide⟩]
    exact i6
  · rw [n 17 1 ⟨q2 _ _ (by decide), by decide⟩]
    exact i7
end
section
theorem mPic_tell {r3 r4 r5 r17 r18 r21 W : Nat → Int} (m : mPic r3 r4 r5 r17 r18 r21 W) {x : Int} (h3 : r3 3 = 0) (hx : 1 ≤ x ∧ x ≤ 999) : mPic (fwFu r3 4 x) r4 r5 r17 r18 r21 (fwFu W 3 x) := by
  obtain ⟨⟨a1, a2, a3, a4, a5, a6, a7, a8, a9, a10, a11, a12⟩, b, ⟨c1, c2, c3, c4, c5, c6, c7, c8, c9, c10, c11, c12⟩, ⟨d1, d2, d3⟩, e⟩ := m
  have r0 : ∀ c : Nat, rep (fwFu W 3 x) 0 c = rep W 0 c := fun c => fwFu_ne (show 9 + c ≠ 3 by omega)
  refine ⟨⟨a1, a2, a3, a4, a5, a6, a7, a8, a9, ⟨by show 0 ≤ x; omega, hx.2⟩, a11, a12⟩, b, ⟨c1, c2, c3, rfl, c5, c6, c7, c8, c9, fun j hj => ?_, c11, fun h => ⟨(c12 h).1, hx.1⟩⟩, ⟨fun i hi c hc => ?_, fun i hi => ?_, ?_⟩, fun i hi => ?_⟩
  · rw [fwFu_ne (by omega)]
    exact c10 j hj
  · have hi2 : (i : Int) ≤ r3 3 := hi
    have e0 : i = 0 := by omega
    subst e0
    rw [r0]
    exact d1 0 (by omega) c hc
  · have hi2 : (i : Int) < r3 3 := hi
    omega
  · show hiR (r4 1) (rep (fwFu W 3 x) (r3 3).toNat) r17
    rw [h3] at d3 ⊢
    intro c hc
    exact (r0 c).trans (d3 c hc)
  · have hi2 : (i : Int) < r3 3 := hi
    omega
theorem jI_tell {h : fwH} (I : jI h) {x : Int} (h3 : ¬ 0 < h 3 0 3) (hx : 1 ≤ x ∧ x ≤ 999) : jI (fwUp (fwUp h 3 0 4 x) 36 0 3 x) := by
  have h0 : h 3 0 3 = 0 := by have := I.1.2.2.2.2.2.2.2.2.1; omega
  rw [fwUp_fu h 3 0 4 x, fwUp_fu _ 36 0 3 x]
  refine jI_mt I (fun a b n1 n2 n3 => ?_) (mPic_tell I.2.1 h0 hx)
  rw [fwUc_ne (fun z => n2 z.1), fwUc_ne (fun z => n1 ⟨Or.inl z.1, z.2⟩)]
theorem mPic_likes {r3 r4 r5 r17 r18 r21 W : Nat → Int} (m : mPic r3 r4 r5 r17 r18 r21 W) {f y : Nat} {z : Int} (h3 : r3 3 = 0) (hf : f < 8) (hy : y ≤ 2) (hz : 0 ≤ z ∧ z ≤ 9) : mPic r3 r4 r5 r17 (fwFu r18 (7 * f + (2 + y)) z) r21 (fwFu W (19 + (7 * f + (2 + y))) z) := by
  obtain ⟨a, b, ⟨c1, c2, c3, c4, c5, c6, c7, c8, c9, c10, c11, c12⟩, ⟨d1, d2, d3⟩, e⟩ := m
  have rd : ∀ s : Nat, s < 19 → fwFu W (19 + (7 * f + (2 + y))) z s = W s := fun s hs => fwFu_ne (by omega)
  have r0 : ∀ c : Nat, c < 10 → rep (fwFu W (19 + (7 * f + (2 + y))) z) 0 c = rep W 0 c := fun c hc => rd (9 + c) (by omega)
  have sp : ∀ (s : Nat) (u : Int), 9 ≤ u → (0 ≤ r18 s ∧ r18 s ≤ u) → (0 ≤ fwFu r18 (7 * f + (2 + y)) z s ∧ fwFu r18 (7 * f + (2 + y)) z s ≤ u) := fun s u hu h => by unfold fwFu; split <;> omega
  refine ⟨a, fun g hg => ?_, ⟨(rd 0 (by omega)).trans c1, (rd 1 (by omega)).trans c2, (rd 2 (by omega)).trans c3, (rd 3 (by omega)).trans c4, (rd 4 (by omega)).trans c5, (rd 5 (by omega)).trans c6, (rd 6 (by omega)).trans c7, (rd 7 (by omega)).trans c8, (rd 8 (by omega)).trans c9, fun j hj => ?_, fun g hg => ?_, c12⟩, ⟨fun i hi c hc => ?_, fun i hi => ?_, ?_⟩, fun i hi => ?_⟩
  · obtain ⟨b1, b2, b3, b4, b5, b6, b7⟩ := b g hg
    refine ⟨?_, ?_, sp _ 9 (by omega) b3, sp _ 9 (by omega) b4, sp _ 9 (by omega) b5, ?_, ?_⟩
    · rw [fwFu_ne (by omega)]; exact b1
    · rw [fwFu_ne (by omega)]; exact b2
    · rw [fwFu_ne (by omega)]; exact b6
    · rw [fwFu_ne (by omega)]; exact b7
  · unfold fwFu
    by_cases q : j = 7 * f + (2 + y)
    · rw [if_pos (by omega), if_pos q]
    · rw [if_neg (by omega), if_neg q]
      exact c10 j hj
  · rw [fwFu_ne (by omega)]
    exact c11 g hg
  · have e0 : i = 0 := by omega
    subst e0
    rw [r0 c hc]
    exact d1 0 (by omega) c hc
  · omega
  · rw [h3] at d3 ⊢
    intro c hc
    exact (r0 c (by have := a.2.2.1.2; omega)).trans (d3 c hc)
  · omega
theorem jI_likes {h : fwH} (I : jI h) {f y : Nat} {z : Int} (h3 : ¬ 0 < h 3 0 3) (hf : f < 8) (hy : y ≤ 2) (hz : 0 ≤ z ∧ z ≤ 9) : jI (fwUp (fwUp h 18 0 (7 * f + (2 + y)) z) 36 0 (19 + (7 * f + (2 + y))) z) := by
  have h0 : h 3 0 3 = 0 := by have := I.1.2.2.2.2.2.2.2.2.1; omega
  rw [fwUp_fu h 18 0 _ z, fwUp_fu _ 36 0 _ z]
  refine jI_mt I (fun a b n1 n2 n3 => ?_) (mPic_likes I.2.1 h0 hf hy hz)
  rw [fwUc_ne (fun z => n2 z.1), fwUc_ne (fun z => n1 ⟨Or.inr (Or.inr (Or.inr (Or.inr (Or.inl z.1)))), z.2⟩)]
end
section
theorem mPic_act {r3 r4 r5 r17 r18 r21 W : Nat → Int} (m : mPic r3 r4 r5 r17 r18 r21 W) (h60 : r3 3 < 60) (hm : 0 < r3 6) {T : Nat} {y av : Int} (hT : (T : Int) < r4 1) (hy : y = 1 ∨ y = -1) (hav : 0 ≤ av ∧ av ≤ r4 1) (hs : ∀ c : Nat, c < 10 → stp (W 0) (W 4) (W 2) (rep W (r3 3).toNat) av c = if c = T then rep W (r3 3).toNat c + y else rep W (r3 3).toNat c) (hb : ∀ c : Nat, c < 10 → 0 ≤ stp (W 0) (W 4) (W 2) (rep W (r3 3).toNat) av c ∧ stp (W 0) (W 4) (W 2) (rep W (r3 3).toNat) av c ≤ 99) : mPic (fwFu r3 3 (r3 3 + 1)) r4 r5 (fwFu r17 T (r17 T + y)) r18 (fwFu r21 (r3 3).toNat (y * ((T : Int) + 1))) (fwFu (fwFu W (75 + (r3 3).toNat) av) 8 (r3 3 + 1)) := by
  obtain ⟨⟨a1, a2, a3, a4, a5, a6, a7, a8, a9, a10, a11, a12⟩, b, ⟨c1, c2, c3, c4, c5, c6, c7, c8, c9, c10, c11, c12⟩, ⟨d1, d2, d3⟩, e⟩ := m
  obtain ⟨k, hk⟩ : ∃ k : Nat, r3 3 = (k : Int) := ⟨(r3 3).toNat, by omega⟩
  have hk0 : (r3 3).toNat = k := by omega
  rw [hk0] at hs hb d3 ⊢
  generalize hW' : fwFu (fwFu W (75 + k) av) 8 (r3 3 + 1) = W'
  have rd : ∀ s : Nat, s ≠ 8 → s ≠ 75 + k → W' s = W s := fun s h1 h2 => by rw [← hW', fwFu_ne h1, fwFu_ne h2]
  have w8 : W' 8 = r3 3 + 1 := by rw [← hW', fwFu_at]
  have wk : W' (75 + k) = av := by rw [← hW', fwFu_ne (by omega), fwFu_at]
  have cg : ∀ j : Nat, j ≤ k → eq10 (rep W' j) (rep W j) := fun j hj => rep_cg (rd 0 (by omega) (by omega)) (rd 4 (by omega) (by omega)) (rd 2 (by omega) (by omega)) (fun c hc => rd _ (by omega) (by omega)) (by rw [c1]; exact a3) j (fun i hi => ⟨rd _ (by omega) (by omega), by have := d2 i (by omega); rw [c1]; exact this⟩)
  have ck : eq10 (rep W' (k + 1)) (stp (W 0) (W 4) (W 2) (rep W k) av) := by
    rw [rep, rd 0 (by omega) (by omega), rd 4 (by omega) (by omega), rd 2 (by omega) (by omega), wk]
    exact stp_cg (cg k (Nat.le_refl _)) (by rw [c1]; exact a3) _ _ _ (by rw [c1]; exact hav)
  have hT2 := hb T (by omega)
  rw [hs T (by omega), if_pos rfl, d3 T hT] at hT2
  refine ⟨⟨a1, a2, a3, a4, a5, a6, fun c hc => ?_, a8, fun z => ?_, a10, a11, ?_⟩, b, ⟨(rd 0 (by omega) (by omega)).trans c1, (rd 1 (by omega) (by omega)).trans c2, (rd 2 (by omega) (by omega)).trans c3, (rd 3 (by omega) (by omega)).trans c4, (rd 4 (by omega) (by omega)).trans c5, (rd 5 (by omega) (by omega)).trans c6, (rd 6 (by omega) (by omega)).trans c7, (rd 7 (by omega) (by omega)).trans c8, w8, fun j hj => (rd (19 + j) (by omega) (by omega)).trans (c10 j hj), c11, c12⟩, ⟨fun i hi c hc => ?_, fun i hi => ?_, ?_⟩, fun i hi => ?_⟩
  · have := a7 c hc
    unfold fwFu
    split
    · exact hT2
    · exact this
  · have z2 : r3 6 = 0 := z
    omega
  · show 0 ≤ r3 3 + 1 ∧ r3 3 + 1 ≤ 60
    omega
  · have hi2 : (i : Int) ≤ r3 3 + 1 := hi
    rcases Nat.lt_or_ge k i with q | q
    · rw [show i = k + 1 by omega, ck c hc]
      exact hb c hc
    · rw [cg i q c hc]
      exact d1 i (by omega) c hc
  · have hi2 : (i : Int) < r3 3 + 1 := hi
    rcases Nat.lt_or_ge i k with q | q
    · rw [rd _ (by omega) (by omega)]
      exact d2 i (by omega)
    · rw [show i = k by omega, wk]
      exact hav
  · show hiR (r4 1) (rep W' (r3 3 + 1).toNat) (fwFu r17 T (r17 T + y))
    intro c hc
    rw [show (r3 3 + 1).toNat = k + 1 by omega, ck c (by omega), hs c (by omega), d3 c hc]
    unfold fwFu
    split
    · rename_i q; rw [q]
    · rfl
  · have hi2 : (i : Int) < r3 3 + 1 := hi
    rcases Nat.lt_or_ge i k with q | q
    · obtain ⟨e1, e2, e3, e4⟩ := e i (by omega)
      rw [fwFu_ne (by omega)]
      refine ⟨e1, e2, e3, fun z hz => ?_⟩
      rw [cg i (by omega) z (by omega), cg (i + 1) (by omega) z (by omega)]
      exact e4 z hz
    · rw [show i = k by omega, fwFu_at]
      have bc : mBackC (y * ((T : Int) + 1)) = (T : Int) := by
        unfold mBackC
        rcases hy with rfl | rfl
        · rw [if_neg (by omega)]; omega
        · rw [if_pos (by omega)]; omega
      have bd : mBackD (y * ((T : Int) + 1)) = -y := by
        unfold mBackD
        rcases hy with rfl | rfl
        · rw [if_neg (by omega)]
        · rw [if_pos (by omega)]; rfl
      refine ⟨by rcases hy with rfl | rfl <;> omega, by rw [bc]; omega, by rcases hy with rfl | rfl <;> omega, fun z hz => ?_⟩
      rw [bc, bd, Int.toNat_natCast, cg k (Nat.le_refl _) z (by omega), ck z (by omega), hs z (by omega)]
      split <;> omega
theorem jI_act {h : fwH} (I : jI h) (h60 : h 3 0 3 < 60) (hm : 0 < h 3 0 6) {x y av : Int} (A : Nat → Int) (hx : 0 ≤ x ∧ x < h 4 0 1) (hy : y = 1 ∨ y = -1) (hav : 0 ≤ av ∧ av ≤ h 4 0 1) (hs : ∀ c : Nat, c < 10 → stp (h 36 0 0) (h 36 0 4) (h 36 0 2) (rep (h 36 0) (h 3 0 3).toNat) av c = if c = x.toNat then rep (h 36 0) (h 3 0 3).toNat c + y else rep (h 36 0) (h 3 0 3).toNat c) (hb : ∀ c : Nat, c < 10 → 0 ≤ stp (h 36 0 0) (h 36 0 4) (h 36 0 2) (rep (h 36 0) (h 3 0 3).toNat) av c ∧ stp (h 36 0 0) (h 36 0 4) (h 36 0 2) (rep (h 36 0) (h 3 0 3).toNat) av c ≤ 99) : jI (fwUp (fwUp (fwUc (actH h x y) 42 0 A) 36 0 (75 + (h 3 0 3).toNat) av) 36 0 8 (h 3 0 3 + 1)) := by
  have mp := mPic_act I.2.1 h60 hm (T := x.toNat) (y := y) (av := av) (by omega) hy hav hs hb
  rw [show ((x.toNat : Nat) : Int) = x by omega] at mp
  unfold actH
  rw [fwUp_fu (fwUc h 17 0 _) 21 0 _ _, fwUp_fu (fwUc (fwUc h 17 0 _) 21 0 _) 3 0 _ _, fwUp_fu (fwUc _ 42 0 A) 36 0 _ _, fwUp_uc]
  refine jI_mt I (fun a b n1 n2 n3 => ?_) mp
  rw [fwUc_ne (fun z => n2 z.1), fwUc_ne (fun z => n3 z.1), fwUc_ne (fun z => n1 ⟨Or.inl z.1, z.2⟩), fwUc_ne (fun z => n1 ⟨Or.inr (Or.inr (Or.inr (Or.inr (Or.inr z.1)))), z.2⟩), fwUc_ne (fun z => n1 ⟨Or.inr (Or.inr (Or.inr (Or.inl z.1))), z.2⟩)]
end
section
theorem mTop_ch {H H' : Nat → Int} {n : Nat} (e : ∀ c : Nat, c < n → H c = H' c) (ls : Int) : ∀ u : Nat, u ≤ n → mTop H ls u = mTop H' ls u := by
  intro u
  induction u with
  | zero => intro _; rfl
  | succ u ih =>
    intro hu
    have h1 := ih (by omega)
    have h2 := mTop_rng H' ls u
    rcases Nat.eq_zero_or_pos u with q | q
    · subst q
      rw [mTop, mTop]
      rfl
    · have e2 : H (mTop H' ls u).toNat = H' (mTop H' ls u).toNat := e _ (by omega)
      rw [mTop, mTop, h1, e2, e u (by omega)]
theorem hOf_ch {H H' : Nat → Int} {n : Int} (e : hiR n H H') (x : Int) : hOf n H x = hOf n H' x := by
  unfold hOf
  split
  · exact e _ (by omega)
  · rfl
theorem mDesc_ch {H H' : Nat → Int} {n : Int} (e : hiR n H H') (sl : Int) : ∀ (f : Nat) (x : Int), mDesc n H sl f x = mDesc n H' sl f x := by
  have dn : ∀ x : Int, mDown n H x sl = mDown n H' x sl := fun x => by
    unfold mDown
    simp only [hOf_ch e]
  intro f
  induction f with
  | zero => intro x; rfl
  | succ f ih => intro x; rw [mDesc, mDesc, dn, ih]
theorem mStay_ch {H H' : Nat → Int} {n : Int} (e : hiR n H H') (rs x : Int) : mStay n H rs x = mStay n H' rs x := by
  unfold mStay
  rw [mDesc_ch e, hOf_ch e]
theorem jI_take {h : fwH} (I : jI h) (A : Nat → Int) (hm : 0 < h 3 0 6) (h60 : h 3 0 3 < 60) (hx : mMax (h 17 0) (h 4 0 1).toNat ≠ 0) : jI (fwUp (fwUp (fwUc (actH h (mTop (h 17 0) (h 4 0 4) (h 4 0 1).toNat) (-1)) 42 0 A) 36 0 (75 + (h 3 0 3).toNat) 0) 36 0 8 (h 3 0 3 + 1)) := by
  have m := I.2.1
  obtain ⟨⟨a1, a2, a3, a4, a5, a6, a7, a8, a9, a10, a11, a12⟩, b, ⟨c1, c2, c3, c4, c5, c6, c7, c8, c9, c10, c11, c12⟩, ⟨d1, d2, d3⟩, e⟩ := m
  have n3 := a8 hm
  have dk := d1 (h 3 0 3).toNat (by omega)
  have tt : mTop (rep (h 36 0) (h 3 0 3).toNat) (h 4 0 4) (h 4 0 1).toNat = mTop (h 17 0) (h 4 0 4) (h 4 0 1).toNat := mTop_ch (n := (h 4 0 1).toNat) (fun c hc => d3 c (by omega)) _ _ (Nat.le_refl _)
  have tr := mTop_r2 (h 17 0) (h 4 0 4) (h 4 0 1).toNat (by omega)
  have mx := mMax_top (H := h 17 0) (ls := h 4 0 4) (h 4 0 1).toNat (by omega) (fun c hc => (a7 c (by omega)).1)
  have hl : stp (h 36 0 0) (h 36 0 4) (h 36 0 2) (rep (h 36 0) (h 3 0 3).toNat) 0 = mLow (h 4 0 1).toNat (rep (h 36 0) (h 3 0 3).toNat) (h 4 0 4) := by
    unfold stp
    rw [if_pos rfl, c1, c5]
  refine jI_act I h60 hm A (by omega) (Or.inr rfl) ⟨by omega, by omega⟩ (fun c hc => ?_) (fun c hc => ?_)
  · rw [hl]
    unfold mLow
    rw [tt, d3 _ (by omega), if_pos ⟨by omega, by rw [← mx]; exact hx⟩]
    unfold fwFu
    split
    · rename_i q; rw [q, d3 _ (by omega)]
    · rfl
  · rw [hl]
    exact mLow_rng (by omega) dk c hc
theorem jI_heap {h : fwH} (I : jI h) (A : Nat → Int) {x : Int} (hx : 0 ≤ x ∧ x < h 4 0 1) (h60 : h 3 0 3 < 60) (hs : mStay (h 4 0 1) (h 17 0) (h 4 0 3) x ≠ -1) : jI (fwUp (fwUp (fwUc (actH h (mStay (h 4 0 1) (h 17 0) (h 4 0 3) x) 1) 42 0 A) 36 0 (75 + (h 3 0 3).toNat) (1 + x)) 36 0 8 (h 3 0 3 + 1)) := by
  have m := I.2.1
  obtain ⟨⟨a1, a2, a3, a4, a5, a6, a7, a8, a9, a10, a11, a12⟩, b, ⟨c1, c2, c3, c4, c5, c6, c7, c8, c9, c10, c11, c12⟩, ⟨d1, d2, d3⟩, e⟩ := m
  have hm : 0 < h 3 0 6 := by
    rcases Int.lt_or_le 0 (h 3 0 6) with q | q
    · exact q
    · have := (a9 (by omega)).1
      omega
  have dk := d1 (h 3 0 3).toNat (by omega)
  have tt : mStay (h 4 0 1) (rep (h 36 0) (h 3 0 3).toNat) (h 4 0 3) x = mStay (h 4 0 1) (h 17 0) (h 4 0 3) x := mStay_ch d3 _ _
  have tr := mStay_rng (h 17 0) (rs := h 4 0 3) (n := h 4 0 1) (x := x) a3 hx
  have hl : stp (h 36 0 0) (h 36 0 4) (h 36 0 2) (rep (h 36 0) (h 3 0 3).toNat) (1 + x) = mRs (rep (h 36 0) (h 3 0 3).toNat) (mStay (h 4 0 1) (rep (h 36 0) (h 3 0 3).toNat) (h 4 0 3) x) := by
    unfold stp
    rw [if_neg (by omega), c1, c3, show 1 + x - 1 = x by omega]
  refine jI_act I h60 hm A (by omega) (Or.inl rfl) ⟨by omega, by omega⟩ (fun c hc => ?_) (fun c hc => ?_)
  · rw [hl, tt]
    unfold mRs
    rw [if_neg hs]
    unfold fwFu
    split
    · rename_i q; rw [q]
    · rfl
  · rw [hl]
    exact mRs_rng a3 hx (by omega) dk c hc
/-- the last act taken back -/
theorem mPic_undo {r3 r4 r5 r17 r18 r21 W : Nat → Int} (m : mPic r3 r4 r5 r17 r18 r21 W) (hp : 0 < r3 3) : mPic (fwFu r3 3 (r3 3 - 1)) r4 r5 (fwFu r17 (mBackC (r21 (r3 3 - 1).toNat)).toNat (r17 (mBackC (r21 (r3 3 - 1).toNat)).toNat + mBackD (r21 (r3 3 - 1).toNat))) r18 r21 (fwFu W 8 (r3 3 - 1)) := by
  obtain ⟨⟨a1, a2, a3, a4, a5, a6, a7, a8, a9, a10, a11, a12⟩, b, ⟨c1, c2, c3, c4, c5, c6, c7, c8, c9, c10, c11, c12⟩, ⟨d1, d2, d3⟩, e⟩ := m
  obtain ⟨k, hk⟩ : ∃ k : Nat, r3 3 = (k : Int) + 1 := ⟨(r3 3 - 1).toNat, by omega⟩
  have hk0 : (r3 3 - 1).toNat = k := by omega
  have hk1 : (r3 3).toNat = k + 1 := by omega
  rw [hk0]
  rw [hk1] at d3
  obtain ⟨e1, e2, e3, e4⟩ := e k (by omega)
  generalize r21 k = a at e1 e2 e3 e4 ⊢
  generalize hW' : fwFu W 8 (r3 3 - 1) = W'
  have rd : ∀ s : Nat, s ≠ 8 → W' s = W s := fun s h1 => by rw [← hW', fwFu_ne h1]
  have w8 : W' 8 = r3 3 - 1 := by rw [← hW', fwFu_at]
  have cg : ∀ j : Nat, j ≤ k + 1 → eq10 (rep W' j) (rep W j) := fun j hj => rep_cg (rd 0 (by omega)) (rd 4 (by omega)) (rd 2 (by omega)) (fun c hc => rd _ (by omega)) (by rw [c1]; exact a3) j (fun i hi => ⟨rd _ (by omega), by have := d2 i (by omega); rw [c1]; exact this⟩)
  have r17e : ∀ c : Nat, (c : Int) < r4 1 → fwFu r17 (mBackC a).toNat (r17 (mBackC a).toNat + mBackD a) c = rep W k c := fun c hc => by
    rw [e4 c hc, d3 c hc]
    unfold fwFu
    split
    · rename_i q; rw [q]
    · rfl
  refine ⟨⟨a1, a2, a3, a4, a5, a6, fun c hc => ?_, a8, fun z => ?_, a10, a11, ?_⟩, b, ⟨(rd 0 (by omega)).trans c1, (rd 1 (by omega)).trans c2, (rd 2 (by omega)).trans c3, (rd 3 (by omega)).trans c4, (rd 4 (by omega)).trans c5, (rd 5 (by omega)).trans c6, (rd 6 (by omega)).trans c7, (rd 7 (by omega)).trans c8, w8, fun j hj => (rd (19 + j) (by omega)).trans (c10 j hj), c11, c12⟩, ⟨fun i hi c hc => ?_, fun i hi => ?_, ?_⟩, fun i hi => ?_⟩
  · by_cases q : c = (mBackC a).toNat
    · rw [r17e c (by omega)]
      exact d1 k (by omega) c hc
    · rw [fwFu_ne q]
      exact a7 c hc
  · have z2 : r3 6 = 0 := z
    have := (a9 z2).2.2
    omega
  · show 0 ≤ r3 3 - 1 ∧ r3 3 - 1 ≤ 60
    omega
  · have hi2 : (i : Int) ≤ r3 3 - 1 := hi
    rw [cg i (by omega) c hc]
    exact d1 i (by omega) c hc
  · have hi2 : (i : Int) < r3 3 - 1 := hi
    rw [rd _ (by omega)]
    exact d2 i (by omega)
  · show hiR (r4 1) (rep W' (r3 3 - 1).toNat) _
    rw [hk0]
    intro c hc
    rw [r17e c hc]
    exact cg k (by omega) c (by omega)
  · have hi2 : (i : Int) < r3 3 - 1 := hi
    obtain ⟨f1, f2, f3, f4⟩ := e i (by omega)
    refine ⟨f1, f2, f3, fun z hz => ?_⟩
    rw [cg i (by omega) z (by omega), cg (i + 1) (by omega) z (by omega)]
    exact f4 z hz
theorem jI_undo {h : fwH} (I : jI h) (hp : 0 < h 3 0 3) : jI (fwUp (mBack h) 36 0 8 (h 3 0 3 - 1)) := by
  have mp := mPic_undo I.2.1 hp
  unfold mBack
  rw [fwUp_fu h 3 0 3 _, fwUp_fu (fwUc _ 17 0 _) 36 0 8 _]
  refine jI_mt I (fun a b n1 n2 n3 => ?_) mp
  rw [fwUc_ne (fun z => n2 z.1), fwUc_ne (fun z => n1 ⟨Or.inr (Or.inr (Or.inr (Or.inl z.1))), z.2⟩), fwUc_ne (fun z => n1 ⟨Or.inl z.1, z.2⟩)]
theorem jI_bkV {r3 r4 r5 r17 r18 r21 W : Nat → Int} (m : mPic r3 r4 r5 r17 r18 r21 W) : 0 < r3 3 → ((-20 ≤ r21 (r3 3 - 1).toNat ∧ r21 (r3 3 - 1).toNat ≤ 20) ∧ (r21 (r3 3 - 1).toNat < 0 → 0 ≤ -(r21 (r3 3 - 1).toNat) - 1 ∧ -(r21 (r3 3 - 1).toNat) - 1 < r4 1) ∧ (0 ≤ r21 (r3 3 - 1).toNat → 0 ≤ r21 (r3 3 - 1).toNat - 1 ∧ r21 (r3 3 - 1).toNat - 1 < r4 1)) := by
  intro hp
  obtain ⟨e1, e2, e3, -⟩ := m.2.2.2.2 (r3 3 - 1).toNat (by omega)
  unfold mBackC at e2
  refine ⟨e1, fun q => ?_, fun q => ?_⟩
  · rw [if_pos q] at e2; exact e2
  · rw [if_neg (by omega)] at e2; exact e2
end
section
theorem bkN_pic {h : fwH} (I : jI h) : ∀ i : Nat, i ≤ (h 3 0 3).toNat → mPic (mBkN h i 3 0) (mBkN h i 4 0) (mBkN h i 5 0) (mBkN h i 17 0) (mBkN h i 18 0) (mBkN h i 21 0) (fwFu (h 36 0) 8 (h 3 0 3 - (i : Int))) ∧ ∀ a b, ¬ ((a = 3 ∨ a = 17) ∧ b = 0) → mBkN h i a b = h a b := by
  intro i
  induction i with
  | zero =>
    intro _
    have e8 : fwFu (h 36 0) 8 (h 3 0 3 - ((0 : Nat) : Int)) = h 36 0 := fwFu_same _ _ (by have := I.2.1.2.2.1.2.2.2.2.2.2.2.2.1; omega)
    rw [e8]
    exact ⟨I.2.1, fun _ _ _ => rfl⟩
  | succ i ih =>
    intro hi
    obtain ⟨p, f⟩ := ih (by omega)
    have h3 := mBkN_3 h i
    have p2 := mPic_undo p (by omega)
    rw [fwFu_fu, h3, show h 3 0 3 - (i : Int) - 1 = h 3 0 3 - ((i + 1 : Nat) : Int) by omega] at p2
    have e : mBkN h (i + 1) = fwUc (fwUc (mBkN h i) 3 0 (fwFu (mBkN h i 3 0) 3 (h 3 0 3 - ((i + 1 : Nat) : Int)))) 17 0 (fwFu (mBkN h i 17 0) (mBackC (mBkN h i 21 0 (h 3 0 3 - ((i + 1 : Nat) : Int)).toNat)).toNat (mBkN h i 17 0 (mBackC (mBkN h i 21 0 (h 3 0 3 - ((i + 1 : Nat) : Int)).toNat)).toNat + mBackD (mBkN h i 21 0 (h 3 0 3 - ((i + 1 : Nat) : Int)).toNat))) := by
      rw [mBkN]
      unfold mBack
      rw [fwUp_fu, h3, show h 3 0 3 - (i : Int) - 1 = h 3 0 3 - ((i + 1 : Nat) : Int) by omega]
    rw [e]
    refine ⟨p2, fun a b n => ?_⟩
    rw [fwUc_ne (fun z => n ⟨Or.inr z.1, z.2⟩), fwUc_ne (fun z => n ⟨Or.inl z.1, z.2⟩)]
    exact f a b n
theorem jI_anew {h : fwH} (I : jI h) : jI (fwUp (mBkN h (h 3 0 3).toNat) 36 0 8 0) := by
  have h9 := I.1.2.2.2.2.2.2.2.2.1
  obtain ⟨p, f⟩ := bkN_pic I (h 3 0 3).toNat (Nat.le_refl _)
  rw [show h 3 0 3 - (((h 3 0 3).toNat : Nat) : Int) = 0 by omega] at p
  rw [fwUp_fu]
  refine jI_mt I (fun a b n1 n2 n3 => ?_) ?_
  · rw [fwUc_ne (fun z => n2 z.1)]
    exact f a b (fun z => n1 ⟨by rcases z.1 with q | q; exact Or.inl q; exact Or.inr (Or.inr (Or.inr (Or.inl q))), z.2⟩)
  · have e36 : mBkN h (h 3 0 3).toNat 36 0 = h 36 0 := f 36 0 (by omega)
    rw [e36]
    exact p
theorem anew_ok {h : fwH} (I : jI h) : ∀ i : Nat, i < (h 3 0 3).toNat → gOk (mBkN h i) 0 ∧ bkV (mBkN h i) := by
  intro i hi
  obtain ⟨p, f⟩ := bkN_pic I i (by omega)
  refine ⟨?_, jI_bkV p⟩
  obtain ⟨⟨a1, a2, a3, a4, a5, a6, a7, -⟩, -⟩ := p
  exact ⟨a3, a4, a5, a6, fun c hc => by have := a7 c hc; omega⟩
/-- a picture counts below 135 alone -/
theorem mPic_W {r3 r4 r5 r17 r18 r21 W W' : Nat → Int} (m : mPic r3 r4 r5 r17 r18 r21 W) (w : ∀ s : Nat, s < 135 → W' s = W s) : mPic r3 r4 r5 r17 r18 r21 W' := by
  obtain ⟨a, b, ⟨c1, c2, c3, c4, c5, c6, c7, c8, c9, c10, c11, c12⟩, ⟨d1, d2, d3⟩, e⟩ := m
  have a3 := a.2.2.1
  have a12 := a.2.2.2.2.2.2.2.2.2.2.2
  have cg : ∀ j : Nat, (j : Int) ≤ r3 3 → eq10 (rep W' j) (rep W j) := fun j hj => rep_cg (w 0 (by omega)) (w 4 (by omega)) (w 2 (by omega)) (fun c hc => w _ (by omega)) (by rw [c1]; exact a3) j (fun i hi => ⟨w _ (by omega), by have := d2 i (by omega); rw [c1]; exact this⟩)
  refine ⟨a, b, ⟨(w 0 (by omega)).trans c1, (w 1 (by omega)).trans c2, (w 2 (by omega)).trans c3, (w 3 (by omega)).trans c4, (w 4 (by omega)).trans c5, (w 5 (by omega)).trans c6, (w 6 (by omega)).trans c7, (w 7 (by omega)).trans c8, (w 8 (by omega)).trans c9, fun j hj => (w _ (by omega)).trans (c10 j hj), c11, c12⟩, ⟨fun i hi c hc => ?_, fun i hi => ?_, fun c hc => ?_⟩, fun i hi => ?_⟩
  · rw [cg i hi c hc]
    exact d1 i hi c hc
  · rw [w _ (by omega)]
    exact d2 i hi
  · rw [cg _ (by omega) c (by omega)]
    exact d3 c hc
  · obtain ⟨f1, f2, f3, f4⟩ := e i hi
    refine ⟨f1, f2, f3, fun z hz => ?_⟩
    rw [cg i (by omega) z (by omega), cg (i + 1) (by omega) z (by omega)]
    exact f4 z hz
theorem jI_back {h : fwH} (I : jI h) {k : Nat} (hk : k < 3) (h1 : h 23 0 k ≠ 0) : jI (fwUc (mtCopy h 0 (2 + k)) 36 0 (fwFl (fun s => h 37 0 (135 * k + s)) (h 36 0) 135)) := by
  have i4 := I.2.2.2.1 k hk
  have m := i4.2.2 (by omega)
  refine jI_mt I (fun a b n1 n2 n3 => ?_) (mPic_W m (fun s hs => if_pos hs))
  unfold mtCopy
  rw [fwUc_ne (fun z => n2 z.1), fwUc_ne (fun z => n1 ⟨Or.inr (Or.inr (Or.inr (Or.inr (Or.inr z.1)))), z.2⟩), fwUc_ne (fun z => n1 ⟨Or.inr (Or.inr (Or.inr (Or.inr (Or.inl z.1)))), z.2⟩), fwUc_ne (fun z => n1 ⟨Or.inr (Or.inr (Or.inr (Or.inl z.1))), z.2⟩), fwUc_ne (fun z => n1 ⟨Or.inr (Or.inr (Or.inl z.1)), z.2⟩), fwUc_ne (fun z => n1 ⟨Or.inr (Or.inl z.1), z.2⟩), fwUc_ne (fun z => n1 ⟨Or.inl z.1, z.2⟩)]
end
section
theorem mt_ne {h : fwH} {m q a b : Nat} (hb : b ≠ m) : mtCopy h m q a b = h a b := by
  unfold mtCopy
  rw [fwUc_ne (fun z => hb z.2), fwUc_ne (fun z => hb z.2), fwUc_ne (fun z => hb z.2), fwUc_ne (fun z => hb z.2), fwUc_ne (fun z => hb z.2), fwUc_ne (fun z => hb z.2)]
theorem mt_o {h : fwH} {m q a b : Nat} (ha : a ≠ 3 ∧ a ≠ 4 ∧ a ≠ 5 ∧ a ≠ 17 ∧ a ≠ 18 ∧ a ≠ 21) : mtCopy h m q a b = h a b := by
  unfold mtCopy
  rw [fwUc_ne (fun z => ha.2.2.2.2.2 z.1), fwUc_ne (fun z => ha.2.2.2.2.1 z.1), fwUc_ne (fun z => ha.2.2.2.1 z.1), fwUc_ne (fun z => ha.2.2.1 z.1), fwUc_ne (fun z => ha.2.1 z.1), fwUc_ne (fun z => ha.1 z.1)]
theorem mt_at {h : fwH} {m q a : Nat} (ha : a = 3 ∨ a = 4 ∨ a = 5 ∨ a = 17 ∨ a = 18 ∨ a = 21) : mtCopy h m q a m = h a q := by
  unfold mtCopy fwUc
  rcases ha with rfl | rfl | rfl | rfl | rfl | rfl <;> simp
theorem jI_image {h : fwH} (I : jI h) {x : Nat} (hx : x < 3) : jI (fwUp (fwUc (fwUp (mtCopy h (2 + x) 0) 23 0 x 1) 37 0 (fun s => if 135 * x ≤ s ∧ s < 135 * x + 135 then h 36 0 (s - 135 * x) else h 37 0 s)) 38 0 x 1) := by
  rw [fwUp_fu (mtCopy h (2 + x) 0) 23 0 x 1, fwUp_fu (fwUc _ 37 0 _) 38 0 x 1]
  generalize hg : fwUc (fwUc (fwUc (mtCopy h (2 + x) 0) 23 0 _) 37 0 _) 38 0 _ = g
  have n : ∀ a b, a ≠ 23 ∧ a ≠ 37 ∧ a ≠ 38 → g a b = mtCopy h (2 + x) 0 a b := fun a b z => by
    rw [← hg, fwUc_ne (fun y => z.2.2 y.1), fwUc_ne (fun y => z.2.1 y.1), fwUc_ne (fun y => z.1 y.1)]
  have n0 : ∀ a b, a ≠ 23 ∧ a ≠ 37 ∧ a ≠ 38 → b ≠ 2 + x → g a b = h a b := fun a b z y => (n a b z).trans (mt_ne y)
  have no : ∀ a b, (a ≠ 23 ∧ a ≠ 37 ∧ a ≠ 38) ∧ (a ≠ 3 ∧ a ≠ 4 ∧ a ≠ 5 ∧ a ≠ 17 ∧ a ≠ 18 ∧ a ≠ 21) → g a b = h a b := fun a b z => (n a b z.1).trans (mt_o z.2)
  have g23 : g 23 0 = fwFu (h 23 0) x 1 := by rw [← hg]; rfl
  have g38 : g 38 0 = fwFu (h 38 0) x 1 := by rw [← hg]; rfl
  have g37 : g 37 0 = fun s => if 135 * x ≤ s ∧ s < 135 * x + 135 then h 36 0 (s - 135 * x) else h 37 0 s := by rw [← hg]; rfl
  clear hg
  obtain ⟨i1, i2, i3, i4, i5, i6, i7⟩ := I
  obtain ⟨j1, j2, j3, j4, j5, j6, j7, j8, j9, j10, j11, j12⟩ := i1
  have m : mPic (g 3 0) (g 4 0) (g 5 0) (g 17 0) (g 18 0) (g 21 0) (g 36 0) := by
    rw [n0 3 0 (by decide) (by omega), n0 4 0 (by decide) (by omega), n0 5 0 (by decide) (by omega), n0 17 0 (by decide) (by omega), n0 18 0 (by decide) (by omega), n0 21 0 (by decide) (by omega), no 36 0 (by decide)]
    exact i2
  refine ⟨cOk_of m ?_ ?_ ?_, m, ?_, ?_, ?_, ?_, ?_⟩
  · intro s hs
    rw [no 35 0 (by decide), no 34 0 (by decide), no 33 s (by decide)]
    exact j10 s hs
  · unfold tOk
    rw [no 1 0 (by decide)]
    exact j11
  · unfold sc
    rw [no 25 0 (by decide), no 8 0 (by decide)]
    exact j12
  · intro s hs
    rw [no 46 0 (by decide), no 47 0 (by decide), no 48 0 (by decide), no 35 0 (by decide), no 34 0 (by decide), no 33 s (by decide)]
    exact i3 s hs
  · intro k hk
    obtain ⟨k1, k2, k3⟩ := i4 k hk
    rw [g23, g38, g37]
    by_cases e : k = x
    · subst e
      rw [fwFu_at, fwFu_at]
      refine ⟨Or.inr rfl, rfl, fun _ => ?_⟩
      rw [n 3 _ (by decide), n 4 _ (by decide), n 5 _ (by decide), n 17 _ (by decide), n 18 _ (by decide), n 21 _ (by decide), mt_at (by omega), mt_at (by omega), mt_at (by omega), mt_at (by omega), mt_at (by omega), mt_at (by omega)]
      refine mPic_W i2 (fun s hs => ?_)
      show (if 135 * k ≤ 135 * k + s ∧ 135 * k + s < 135 * k + 135 then h 36 0 (135 * k + s - 135 * k) else h 37 0 (135 * k + s)) = h 36 0 s
      rw [if_pos (by omega), Nat.add_sub_cancel_left]
    · rw [fwFu_ne e, fwFu_ne e]
      refine ⟨k1, k2, fun q => ?_⟩
      rw [n0 3 _ (by decide) (by omega), n0 4 _ (by decide) (by omega), n0 5 _ (by decide) (by omega), n0 17 _ (by decide) (by omega), n0 18 _ (by decide) (by omega), n0 21 _ (by decide) (by omega)]
      refine mPic_W (k3 q) (fun s hs => ?_)
      show (if 135 * x ≤ 135 * k + s ∧ 135 * k + s < 135 * x + 135 then h 36 0 (135 * k + s - 135 * x) else h 37 0 (135 * k + s)) = h 37 0 (135 * k + s)
      rw [if_neg (by omega)]
  · rw [no 1 0 (by decide), no 39 0 (by decide), no 13 0 (by decide), no 12 0 (by decide)]
    exact i5
  · rw [no 2 0 (by decide), no 12 0 (by decide)]
    exact i6
  · rw [n0 17 1 (by decide) (by omega)]
    exact i7
end
section
theorem qRun_ok {K V : Nat → Int} : ∀ (n i : Nat) (W : Nat → Int), qRun K V n = .inr (i, W) → wL W ∧ W 7 ≤ (n : Int) := by
  intro n
  induction n with
  | zero =>
    intro i W e
    have e2 : (Sum.inr (0, fun _ => 0) : fwPq) = .inr (i, W) := e
    cases e2
    exact ⟨wL_init, Int.le_refl _⟩
  | succ n ih =>
    intro i W e
    cases hq : qRun K V n with
    | inl x => rw [qRun, hq] at e; cases e
    | inr x =>
      obtain ⟨h1, h2⟩ := ih x.1 x.2 hq
      by_cases hk : K x.1 = 0
      · have e3 := qRun_stay (i := x.1) (W := x.2) hq hk 1
        rw [e3] at e
        cases e
        exact ⟨h1, by omega⟩
      · rw [qRun_next (i := x.1) (W := x.2) hq hk] at e
        cases hl : qLine K V x.1 x.2 with
        | inl y => rw [hl] at e; cases e
        | inr y =>
          rw [hl] at e
          have e4 : (Sum.inr (y.1, fwFu y.2 7 (y.2 7 + 1)) : fwPq) = .inr (i, W) := e
          obtain ⟨-, l2, l3⟩ := qRun_wL (i2 := y.1) (W2 := y.2) h1 hl
          cases e4
          refine ⟨l2, ?_⟩
          rw [fwFu_at, l3]
          omega
theorem mPic_read {W H r21 : Nat → Int} (hW : wL W) (h7 : W 7 ≤ 900) (hH : rHr W H) : mPic (r3 W) (r4 W) (r5 W) H (fun j => W (19 + j)) r21 W := by
  have hg := hH.1
  have r0 : ∀ c : Nat, rep W 0 c = W (9 + c) := fun _ => rfl
  rcases hW with ⟨w7, rfl⟩ | ⟨w7, hW, w8⟩
  · refine ⟨⟨by decide, by decide, by decide, by decide, by decide, Or.inl rfl, fun c hc => by have := hg c hc; omega, fun z => absurd z (by decide), fun _ => ⟨rfl, rfl, rfl⟩, by decide, fun z => absurd z (by decide), by decide⟩, fun f hf => by dsimp only; omega, ⟨rfl, rfl, rfl, rfl, rfl, rfl, rfl, rfl, rfl, fun _ _ => rfl, fun f hf => ?_, fun z => absurd z (by decide)⟩, ⟨fun i hi c hc => ?_, fun i hi => ?_, fun c hc => ?_⟩, fun i hi => ?_⟩
    · have h2 : (f : Int) < 0 := hf
      omega
    · have h2 : (i : Int) ≤ 0 := hi
      have e0 : i = 0 := by omega
      subst e0
      exact ⟨Int.le_refl _, show (0 : Int) ≤ 99 by decide⟩
    · have h2 : (i : Int) < 0 := hi
      omega
    · have h2 : (c : Int) < 0 := hc
      omega
    · have h2 : (i : Int) < 0 := hi
      omega
  · obtain ⟨g1, g2, g3, g4, g5, g6, g7, g8, g9, g10⟩ := hW
    refine ⟨⟨⟨by show 0 ≤ W 7; omega, by show W 7 ≤ 1000; omega⟩, g8, ⟨by show 0 ≤ W 0; omega, g1.2⟩, g3, ⟨by show 0 ≤ W 2; omega, g4.2⟩, g6, fun c hc => by have := hg c hc; omega, fun _ => g1.1, fun z => ?_, ⟨by show 0 ≤ W 3; omega, g5.2⟩, fun _ => g7, show (0 : Int) ≤ 0 ∧ (0 : Int) ≤ 60 by decide⟩, fun f hf => ?_, ⟨rfl, rfl, rfl, rfl, rfl, rfl, rfl, rfl, w8, fun _ _ => rfl, fun f hf => ?_, fun _ => ⟨g4.1, g5.1⟩⟩, ⟨fun i hi c hc => ?_, fun i hi => ?_, fun c hc => ?_⟩, fun i hi => ?_⟩
    · have z2 : W 7 = 0 := z
      omega
    · obtain ⟨f1, f2⟩ := g9 f hf
      exact ⟨⟨f1.1, by have := f1.2; show W (19 + (7 * f + 0)) < 10; omega⟩, f2⟩
    · have h2 : (f : Int) < W 6 := hf
      exact (g9 f (by omega)).1.2
    · have h2 : (i : Int) ≤ 0 := hi
      have e0 : i = 0 := by omega
      subst e0
      have := g2 c hc
      rw [r0]
      omega
    · have h2 : (i : Int) < 0 := hi
      omega
    · have h2 : (c : Int) < W 0 := hc
      exact (hH.2 c h2 (by omega)).symm
    · have h2 : (i : Int) < 0 := hi
      omega
/-- behind a reading -/
theorem jI_rd {h g : fwH} (I : jI h) (r : ∀ a b, (a ≠ 1 ∧ a ≠ 2 ∧ a ≠ 12 ∧ a ≠ 14 ∧ a ≠ 15 ∧ a ≠ 16 ∧ a ≠ 41 ∧ a ≠ 36) → (b ≠ 0 ∧ b ≠ 1 ∨ (a ≠ 3 ∧ a ≠ 4 ∧ a ≠ 5 ∧ a ≠ 17 ∧ a ≠ 18 ∧ a ≠ 21)) → g a b = h a b) (t : g 1 0 1 = 0) (t5 : g 12 0 5 = 0) (f : g 12 0 12 = g 2 0 6 ∧ g 12 0 13 = g 2 0 7) (hH : rHg (g 17 1)) (m : mPic (g 3 0) (g 4 0) (g 5 0) (g 17 0) (g 18 0) (g 21 0) (g 36 0)) : jI g := by
  have no : ∀ a b, (a ≠ 1 ∧ a ≠ 2 ∧ a ≠ 12 ∧ a ≠ 14 ∧ a ≠ 15 ∧ a ≠ 16 ∧ a ≠ 41 ∧ a ≠ 36) ∧ (a ≠ 3 ∧ a ≠ 4 ∧ a ≠ 5 ∧ a ≠ 17 ∧ a ≠ 18 ∧ a ≠ 21) → g a b = h a b := fun a b z => r a b z.1 (Or.inr z.2)
  obtain ⟨i1, i2, i3, i4, i5, i6, i7⟩ := I
  obtain ⟨j1, j2, j3, j4, j5, j6, j7, j8, j9, j10, j11, j12⟩ := i1
  refine ⟨cOk_of m ?_ ?_ ?_, m, ?_, ?_, ?_, f, hH⟩
  · intro s hs
    rw [no 35 0 (by decide), no 34 0 (by decide), no 33 s (by decide)]
    exact j10 s hs
  · unfold tOk
    rw [t]
    omega
  · unfold sc
    rw [no 25 0 (by decide), no 8 0 (by decide)]
    exact j12
  · intro s hs
    rw [no 46 0 (by decide), no 47 0 (by decide), no 48 0 (by decide), no 35 0 (by decide), no 34 0 (by decide), no 33 s (by decide)]
    exact i3 s hs
  · intro k hk
    rw [no 23 0 (by decide), no 38 0 (by decide), no 37 0 (by decide), r 3 _ (by decide) (by omega), r 4 _ (by decide) (by omega), r 5 _ (by decide) (by omega), r 17 _ (by decide) (by omega), r 18 _ (by decide) (by omega), r 21 _ (by decide) (by omega)]
    exact i4 k hk
  · rw [t, t5, no 39 0 (by decide)]
    exact ⟨rfl, fun p hp => by omega, i5.2.2⟩
theorem rH_ne {h : fwH} {i : Nat} {fk fp : Int} {W H : Nat → Int} {a b : Nat} (n2 : a ≠ 2) (n : b ≠ 1 ∨ (a ≠ 3 ∧ a ≠ 4 ∧ a ≠ 5 ∧ a ≠ 17 ∧ a ≠ 18)) : rH h i fk fp W H a b = h a b := by
  unfold rH
  rw [fwUc_ne (fun z => by omega), fwUc_ne (fun z => by omega), fwUc_ne (fun z => by omega), fwUc_ne (fun z => by omega), fwUc_ne (fun z => by omega), fwUc_ne (fun z => n2 z.1)]
theorem cutH_ne {h : fwH} {a b : Nat} (n : a ≠ 1 ∧ a ≠ 14 ∧ a ≠ 15 ∧ a ≠ 16) : cutH h a b = h a b := by
  unfold cutH
  rw [fwUc_ne (fun z => n.2.2.2 z.1), fwUc_ne (fun z => n.2.2.1 z.1), fwUc_ne (fun z => n.2.1 z.1), fwUc_ne (fun z => n.1 z.1)]
theorem tok_15 {h : fwH} (hT : tOk h) {j : Nat} (hj : j ≤ tkN h) : cutH h 15 0 j = (tokP (mBy h) j : Int) := by
  obtain ⟨k1, k2, k3, k4, -⟩ := cut_at hT
  rcases Nat.lt_or_ge j (tkN h) with q | q
  · exact (k1 j q).2.1
  · rw [show j = tkN h by omega, k4, k2]
/-- mount, of a faulty text -/
theorem jI_mountF {h g : fwH} (I : jI h) {fk : Int} {j i : Nat} {W H : Nat → Int} (hj : j ≤ tkN h) (hH : rHg H) (S : mSt h (.inl (fk, j)) g) (F : mFr (fwUp (rH (cutH h) i fk (cutH h 15 0 j) W H) 1 0 1 0) g) : jI g := by
  have T : tOk h := I.1.2.2.2.2.2.2.2.2.2.2.1
  obtain ⟨-, s2, s3, s4⟩ := mSt_l S
  rw [fwUp_fu] at F
  have r : ∀ a b, (a ≠ 1 ∧ a ≠ 2 ∧ a ≠ 12 ∧ a ≠ 14 ∧ a ≠ 15 ∧ a ≠ 16 ∧ a ≠ 41) → (b ≠ 1 ∨ (a ≠ 3 ∧ a ≠ 4 ∧ a ≠ 5 ∧ a ≠ 17 ∧ a ≠ 18)) → g a b = h a b := fun a b z y => by
    rw [F a b z.2.2.1 z.2.2.2.2.2.2, fwUc_ne (fun q => z.1 q.1), rH_ne z.2.1 y, cutH_ne ⟨z.1, z.2.2.2.1, z.2.2.2.2.1, z.2.2.2.2.2.1⟩]
  have e1 : g 1 0 1 = 0 := by rw [F 1 0 (by decide) (by decide)]; rfl
  have e6 : g 2 0 6 = fk := by rw [F 2 0 (by decide) (by decide)]; rfl
  have e7 : g 2 0 7 = cutH h 15 0 j := by rw [F 2 0 (by decide) (by decide)]; rfl
  have e17 : g 17 1 = H := by rw [F 17 1 (by decide) (by decide)]; rfl
  refine jI_rd I (fun a b z y => r a b (by omega) (by omega)) e1 S.2.1 ⟨by rw [e6]; exact s3, by rw [e7, tok_15 T hj]; exact s4⟩ (by rw [e17]; exact hH) ?_
  rw [r 3 0 (by decide) (by omega), r 4 0 (by decide) (by omega), r 5 0 (by decide) (by omega), r 17 0 (by decide) (by omega), r 18 0 (by decide) (by omega), r 21 0 (by decide) (by omega), r 36 0 (by decide) (by omega)]
  exact I.2.1
/-- mount, of a text without a fault -/
theorem jI_mountG {h g : fwH} (I : jI h) {i : Nat} {W H : Nat → Int} (e : qRun (cutH h 14 0) (cutH h 16 0) 900 = .inr (i, W)) (hH : rHr W H) (S : mSt h (.inr (i, W)) g) (F : ∀ a b, a ≠ 12 → a ≠ 41 → a ≠ 36 → g a b = mouH h i W H a b) (w : ∀ z : Nat, z < 135 → g 36 0 z = W z) : jI g := by
  obtain ⟨hW, h7⟩ := qRun_ok 900 i W e
  obtain ⟨-, -, s3, s4, -⟩ := mSt_r S
  unfold mouH at F
  rw [fwUp_fu] at F
  have r : ∀ a b, (a ≠ 1 ∧ a ≠ 2 ∧ a ≠ 12 ∧ a ≠ 14 ∧ a ≠ 15 ∧ a ≠ 16 ∧ a ≠ 41 ∧ a ≠ 36) → (b ≠ 0 ∧ b ≠ 1 ∨ (a ≠ 3 ∧ a ≠ 4 ∧ a ≠ 5 ∧ a ≠ 17 ∧ a ≠ 18 ∧ a ≠ 21)) → g a b = h a b := fun a b z y => by
    rw [F a b z.2.2.1 z.2.2.2.2.2.2.1 z.2.2.2.2.2.2.2]
    have q : mtCopy (fwUc (rH (cutH h) i 0 (-1) W H) 1 0 (fwFu (rH (cutH h) i 0 (-1) W H 1 0) 1 0)) 0 1 a b = (fwUc (rH (cutH h) i 0 (-1) W H) 1 0 (fwFu (rH (cutH h) i 0 (-1) W H 1 0) 1 0)) a b := by
      rcases y with y | y
      · exact mt_ne y.1
      · exact mt_o y
    rw [q, fwUc_ne (fun q => z.1 q.1), rH_ne z.2.1 (by omega), cutH_ne ⟨z.1, z.2.2.2.1, z.2.2.2.2.1, z.2.2.2.2.2.1⟩]
  have e1 : g 1 0 1 = 0 := by rw [F 1 0 (by decide) (by decide) (by decide)]; rfl
  have e6 : g 2 0 6 = 0 := by rw [F 2 0 (by decide) (by decide) (by decide)]; rfl
  have e7 : g 2 0 7 = -1 := by rw [F 2 0 (by decide) (by decide) (by decide)]; rfl
  have e17 : g 17 1 = H := by rw [F 17 1 (by decide) (by decide) (by decide)]; rfl
  have m : mPic (g 3 0) (g 4 0) (g 5 0) (g 17 0) (g 18 0) (g 21 0) (g 36 0) := by
    rw [F 3 0 (by decide) (by decide) (by decide), F 4 0 (by decide) (by decide) (by decide), F 5 0 (by decide) (by decide) (by decide), F 17 0 (by decide) (by decide) (by decide), F 18 0 (by decide) (by decide) (by decide), F 21 0 (by decide) (by decide) (by decide)]
    exact mPic_W (mPic_read hW h7 hH) w
  exact jI_rd I r e1 S.2.1 ⟨by rw [e6]; exact s3, by rw [e7]; exact s4⟩ (by rw [e17]; exact hH.1) m
end
section
theorem z00 {k b : Nat} (n : k ≠ 2 ∧ k ≠ 12 ∧ k ≠ 35 ∧ k ≠ 46) : h00 k b = fun _ => 0 := by
  funext j
  exact if_neg (by omega)
theorem mPic_0 : mPic (fun _ => 0) (fun _ => 0) (fun _ => 0) (fun _ => 0) (fun _ => 0) (fun _ => 0) (fun _ => 0) := by
  have m := mPic_read (W := fun _ => 0) (H := fun _ => 0) (r21 := fun _ => 0) wL_init (by decide) ⟨fun c _ => ⟨Int.le_refl _, show (0 : Int) ≤ 40 by decide⟩, fun _ _ _ => rfl⟩
  have e3 : r3 (fun _ => 0) = fun _ => 0 := by funext s; simp [r3]
  have e4 : r4 (fun _ => 0) = fun _ => 0 := by funext s; simp [r4]
  have e5 : r5 (fun _ => 0) = fun _ => 0 := by funext s; simp [r5]
  rw [e3, e4, e5] at m
  exact m
/-- as the two constructors leave it -/
theorem jI_00 : jI h00 := by
  have m : mPic (h00 3 0) (h00 4 0) (h00 5 0) (h00 17 0) (h00 18 0) (h00 21 0) (h00 36 0) := by
    rw [z00 (k := 3) (by decide), z00 (k := 4) (by decide), z00 (k := 5) (by decide), z00 (k := 17) (by decide), z00 (k := 18) (by decide), z00 (k := 21) (by decide), z00 (k := 36) (by decide)]
    exact mPic_0
  refine ⟨cOk_of m (fun s hs => ?_) ⟨by decide, by decide⟩ ⟨rfl, by decide, by decide⟩, m, fun s hs => ⟨?_, ?_, fun j hj => ?_⟩, fun k hk => ⟨Or.inl ?_, ?_, fun z => ?_⟩, ⟨rfl, fun p hp => ?_, fun p hp => ?_⟩, ⟨rfl, rfl⟩, fun c hc => ?_⟩
  · have e35 : h00 35 0 s = -1 := if_pos (by omega)
    rw [e35, z00 (k := 34) (by decide), z00 (k := 33) (by decide)]
    exact ⟨by decide, by dsimp only; omega, fun j _ => by dsimp only; omega⟩
  · have e35 : h00 35 0 s = -1 := if_pos (by omega)
    have e46 : h00 46 0 s = -1 := if_pos (by omega)
    rw [e35, e46]
  · rw [z00 (k := 47) (by decide), z00 (k := 34) (by decide)]
  · rw [z00 (k := 48) (by decide), z00 (k := 33) (by decide)]
  · rw [z00 (k := 23) (by decide)]
  · rw [z00 (k := 23) (by decide), z00 (k := 38) (by decide)]
  · rw [z00 (k := 23) (by decide)] at z
    exact absurd (show (0 : Int) = 1 from z) (by decide)
  · rw [z00 (k := 39) (by decide), z00 (k := 13) (by decide)]
  · rw [z00 (k := 39) (by decide)]
    dsimp only; omega
  · rw [z00 (k := 17) (by decide)]
    dsimp only; omega
end
section
theorem jF_g {e g : fwH} (I : jI e) (a : scr e g) : jF e g := by
  unfold jF
  rw [a.1 36 0 rfl (by decide)]
  exact jI_F I
theorem jA_g {e g : fwH} (I : jI e) (a : scr e g) : jA e g := by
  unfold jA
  rw [a.1 36 0 rfl (by decide)]
  exact jI_A I
theorem jS_g {e g : fwH} (I : jI e) (a : scr e g) : jS e g := by
  unfold jS
  rw [a.1 46 0 rfl (by decide), a.1 47 0 rfl (by decide), a.1 48 0 rfl (by decide)]
  exact jI_S I
/-- the same for a heap that the class's act has made: the model's rows stand as they stood -/
theorem jF_h {e g : fwH} (I : jI e) (r : g 36 0 = e 36 0) : jF e g := by
  unfold jF
  rw [r]
  exact jI_F I
theorem jA_h {e g : fwH} (I : jI e) (r : g 36 0 = e 36 0) : jA e g := by
  unfold jA
  rw [r]
  exact jI_A I
theorem jI_h38 {e : fwH} (I : jI e) : ∀ k : Nat, k < 3 → e 38 0 k = 0 ∨ e 38 0 k = 1 := fun k hk => by
  have := I.2.2.2.1 k hk
  rw [this.2.1]
  exact this.1
theorem jI_h23 {e : fwH} (I : jI e) : ∀ k : Nat, k < 3 → e 23 0 k = 0 ∨ e 23 0 k = 1 := fun k hk => (I.2.2.2.1 k hk).1
theorem jI_h44 {e : fwH} (I : jI e) : ∀ k : Nat, k < 3 → e 23 0 k ≠ 0 → e 4 (2 + k) 4 = 0 ∨ e 4 (2 + k) 4 = 1 := fun k hk h0 => by
  obtain ⟨h1, -, h3⟩ := I.2.2.2.1 k hk
  exact (h3 (by omega)).1.2.2.2.2.2.1
theorem jI_h46 {e : fwH} (I : jI e) : ∀ s : Nat, s < 4 → -1 ≤ e 46 0 s ∧ e 46 0 s ≤ 60 := fun s hs => by
  rw [(jI_S I s hs).1]
  exact (I.1.2.2.2.2.2.2.2.2.2.1 s hs).1
theorem jI_h47 {e : fwH} (I : jI e) : ∀ s : Nat, s < 4 → 0 ≤ e 47 0 s ∧ e 47 0 s ≤ 3 := fun s hs => by
  rw [(jI_S I s hs).2.1]
  exact (I.1.2.2.2.2.2.2.2.2.2.1 s hs).2.1
theorem jI_t5 {e : fwH} (I : jI e) : 0 ≤ e 12 0 5 ∧ e 12 0 5 ≤ 900 := by
  rw [I.2.2.2.2.1.1]
  exact I.1.2.2.2.2.2.2.2.2.2.2.1
end
section
/-- the model's call at g1 answers v and keeps the invariant -/
def prM (mm : fwM) (dd : Nat) (as : List fwV) (v : Int) (g1 : fwH) : Prop := ∀ Q2 : Option fwV → fwH → Prop, (∀ g2, jI g2 → Q2 (some (aI v)) g2) → fwCt mm dd (aR 12 0 :: as) g1 Q2
section PAIRS
variable {d d2 : Nat} {e : fwH} {Q : Option fwV → fwH → Prop}
theorem pr_take (I : jI e) (k : ∀ v g1, prM mX12_take (d2 + 6) [] v g1 → Q (some (aI v)) g1) : fwCt mX11_take (d + 3) [aR 0 0] e Q := by
  refine c_X11_take I.1 ⟨fun c => ?_, fun c1 c2 => ?_, fun c1 c2 => ?_⟩
  · exact k _ _ (fun Q2 k2 => c_X12_take (gg := e) I.1 (jI_F I) (jI_A I) ⟨fun _ => k2 _ I, fun z => absurd z c, fun z => absurd z c⟩)
  · exact k _ _ (fun Q2 k2 => c_X12_take (gg := e) I.1 (jI_F I) (jI_A I) ⟨fun z => absurd c1 z, fun _ _ A => k2 _ (jI_scr I (scr_uc (scr_rf (jI_sc I)) rfl (by decide) (by decide) (by decide))), fun _ z => absurd z c2⟩)
  · exact k _ _ (fun Q2 k2 => c_X12_take (gg := e) I.1 (jF_h I rfl) (jA_h I rfl) ⟨fun z => absurd c1 z, fun _ z => absurd c2 z, fun _ _ A => k2 _ (jI_take I A c1 c2.1 c2.2)⟩)
theorem pr_heap (I : jI e) (x : Int) (hx : -2147483648 ≤ x ∧ x < 2147483648) (k : ∀ v g1, prM mX12_heap (d2 + 6) [aI x] v g1 → Q (some (aI v)) g1) : fwCt mX11_heap (d + 4) [aR 0 0, aI x] e Q := by
  refine c_X11_heap x I.1 hx ⟨fun c => ?_, fun c1 c2 => ?_, fun c1 c2 => ?_⟩
  · exact k _ _ (fun Q2 k2 => c_X12_heap (gg := e) x I.1 (jI_F I) (jI_A I) hx ⟨fun _ => k2 _ I, fun z => absurd z c, fun z => absurd z c⟩)
  · exact k _ _ (fun Q2 k2 => c_X12_heap (gg := e) x I.1 (jI_F I) (jI_A I) hx ⟨fun z => absurd c1 z, fun _ _ A => k2 _ (jI_scr I (scr_uc (scr_rf (jI_sc I)) rfl (by decide) (by decide) (by decide))), fun _ z => absurd z c2⟩)
  · exact k _ _ (fun Q2 k2 => c_X12_heap (gg := e) x I.1 (jF_h I rfl) (jA_h I rfl) hx ⟨fun z => absurd c1 z, fun _ z => absurd c2 z, fun _ _ A => k2 _ (jI_heap I A c1 c2.1 c2.2)⟩)
theorem pr_undo (I : jI e) (k : ∀ v g1, prM mX12_undo (d2 + 1) [] v g1 → Q (some (aI v)) g1) : fwCt mX11_undo (d + 3) [aR 0 0] e Q := by
  refine c_X11_undo I.1 (jI_bkV I.2.1) ⟨fun c => ?_, fun c1 c2 => ?_, fun c1 c2 => ?_⟩
  · exact k _ _ (fun Q2 k2 => c_X12_undo (gg := e) I.1 (jI_F I) (jI_A I) ⟨fun _ => k2 _ I, fun z => absurd z c, fun z => absurd z c⟩)
  · exact k _ _ (fun Q2 k2 => c_X12_undo (gg := e) I.1 (jI_F I) (jI_A I) ⟨fun z => absurd c1 z, fun _ _ => k2 _ I, fun _ z => absurd z c2⟩)
  · exact k _ _ (fun Q2 k2 => c_X12_undo (gg := e) I.1 (jF_h I rfl) (jA_h I rfl) ⟨fun z => absurd c1 z, fun _ z => absurd c2 z, fun _ _ => k2 _ (jI_undo I c2)⟩)
theorem pr_anew (I : jI e) (k : ∀ v g1, prM mX12_anew (d2 + 1) [] v g1 → Q (some (aI v)) g1) : fwCt mX11_anew (d + 3) [aR 0 0] e Q := by
  have r : mBkN e (e 3 0 3).toNat 36 0 = e 36 0 := (bkN_pic I _ (Nat.le_refl _)).2 36 0 (by omega)
  refine c_X11_anew I.1 (anew_ok I) ⟨fun c => ?_, fun c1 => ?_⟩
  · exact k _ _ (fun Q2 k2 => c_X12_anew (gg := e) I.1 (jI_F I) (jI_A I) ⟨fun _ => k2 _ I, fun z => absurd z c⟩)
  · exact k _ _ (fun Q2 k2 => c_X12_anew (gg := e) I.1 (jF_h I r) (jA_h I r) ⟨fun z => absurd c1 z, fun _ => k2 _ (jI_anew I)⟩)
theorem pr_tell (I : jI e) (x : Int) (hx : -2147483648 ≤ x ∧ x < 2147483648) (k : ∀ v g1, prM mX12_tell (d2 + 2) [aI x] v g1 → Q (some (aI v)) g1) : fwCt mX11_tell (d + 2) [aR 0 0, aI x] e Q := by
  refine c_X11_tell x I.1 hx ⟨fun c => ?_, fun c1 c2 => ?_, fun c1 c2 => ?_⟩
  · exact k _ _ (fun Q2 k2 => c_X12_tell (gg := e) x I.1 (jI_F I) (jI_A I) hx ⟨fun _ => k2 _ I, fun z => absurd z c, fun z => absurd z c⟩)
  · exact k _ _ (fun Q2 k2 => c_X12_tell (gg := e) x I.1 (jI_F I) (jI_A I) hx ⟨fun z => absurd c1 z, fun _ _ => k2 _ I, fun _ z => absurd c2 z⟩)
  · exact k _ _ (fun Q2 k2 => c_X12_tell (gg := e) x I.1 (jF_h I rfl) (jA_h I rfl) hx ⟨fun z => absurd c1 z, fun _ z => absurd z c2, fun _ _ => k2 _ (jI_tell I c2 c1.2)⟩)
theorem pr_end (I : jI e) (x : Int) (hx : -2147483648 ≤ x ∧ x < 2147483648) (k : ∀ v g1, prM mX12_end (d2 + 1) [aI x] v g1 → Q (some (aI v)) g1) : fwCt mX11_end (d + 0) [aR 0 0, aI x] e Q := by
  have h5 := I.2.2.2.2.1.1
  refine c_X11_end x I.1 hx ⟨fun c => ?_, fun c => ?_⟩
  · exact k _ _ (fun Q2 k2 => c_X12_end x hx (show 0 ≤ e 12 0 5 ∧ e 12 0 5 ≤ 900 from jI_t5 I) ⟨fun _ => k2 _ (jI_end I c), fun z => absurd (show 0 ≤ x ∧ x ≤ e 12 0 5 by omega) z⟩)
  · exact k _ _ (fun Q2 k2 => c_X12_end x hx (jI_t5 I) ⟨fun z => absurd (show 0 ≤ x ∧ x ≤ e 1 0 1 by omega) c, fun _ => k2 _ I⟩)
theorem pr_feed (I : jI e) (a b c p q : Int) (k : ∀ v g1, prM mX12_feed (d2 + 0) [aI a, aI b, aI c, aI p, aI q] v g1 → Q (some (aI v)) g1) : fwCt mX11_feed (d + 1) [aR 0 0, aI a, aI b, aI c, aI p, aI q] e Q := by
  have h5 := I.2.2.2.2.1.1
  have h6 : aI (e 12 0 5 + 20) = aI (e 1 0 1 + 20) := by rw [h5]
  refine c_X11_feed a b c p q I.1 ⟨fun c1 => ?_, fun c1 => ?_⟩
  · exact k _ _ (fun Q2 k2 => c_X12_feed a b c p q (show 0 ≤ e 12 0 5 ∧ e 12 0 5 ≤ 900 from jI_t5 I) ⟨fun _ => Eq.mpr (congrArg (fun z => Q2 (some z) _) h6) (k2 _ (jI_feed I a b c p q _ c1)), fun z => absurd (show e 12 0 5 ≤ 880 by omega) z⟩)
  · exact k _ _ (fun Q2 k2 => c_X12_feed a b c p q (jI_t5 I) ⟨fun z => absurd (show e 1 0 1 ≤ 880 by omega) c1, fun _ => k2 _ I⟩)
theorem pr_likes (I : jI e) (x y z : Int) (hx : -2147483648 ≤ x ∧ x < 2147483648) (hy : -2147483648 ≤ y ∧ y < 2147483648) (hz : -2147483648 ≤ z ∧ z < 2147483648) (k : ∀ v g1, prM mX12_likes (d2 + 2) [aI x, aI y, aI z] v g1 → Q (some (aI v)) g1) : fwCt mX11_likes (d + 1) [aR 0 0, aI x, aI y, aI z] e Q := by
  have h8 := I.1.2.1.1.2
  refine c_X11_likes x y z I.1 hx hy hz ⟨fun c => ?_, fun c1 c2 => ?_, fun c1 c2 => ?_⟩
  · exact k _ _ (fun Q2 k2 => c_X12_likes (gg := e) x y z I.1 (jI_F I) (jI_A I) hx hy hz ⟨fun _ => k2 _ I, fun w => absurd w c, fun w => absurd w c⟩)
  · exact k _ _ (fun Q2 k2 => c_X12_likes (gg := e) x y z I.1 (jI_F I) (jI_A I) hx hy hz ⟨fun w => absurd c1 w, fun _ _ => k2 _ I, fun _ w => absurd c2 w⟩)
  · exact k _ _ (fun Q2 k2 => c_X12_likes (gg := e) x y z I.1 (jF_h I rfl) (jA_h I rfl) hx hy hz ⟨fun w => absurd c1 w, fun _ w => absurd w c2, fun _ _ => k2 _ (jI_likes I c2 (by omega) (by omega) c1.2.2)⟩)
theorem pr_image (I : jI e) (x : Int) (hx : -2147483648 ≤ x ∧ x < 2147483648) (k : ∀ v g1, prM mX12_image (d2 + 1) [aI x] v g1 → Q (some (aI v)) g1) : fwCt mX11_image (d + 2) [aR 0 0, aI x] e Q := by
  refine c_X11_image x I.1 hx ⟨fun c => ?_, fun c1 => ?_⟩
  · exact k _ _ (fun Q2 k2 => c_X12_image x hx ⟨fun _ => k2 _ I, fun w => absurd w c⟩)
  · exact k _ _ (fun Q2 k2 => c_X12_image x hx ⟨fun w => absurd c1 w, fun _ => k2 _ (jI_image I (by omega))⟩)
theorem pr_mount (I : jI e) (k : ∀ v g1, prM mX12_mount (d2 + 11) [] v g1 → Q (some (aI v)) g1) : fwCt mX11_mount (d + 8) [aR 0 0] e Q := by
  have T : tOk e := I.1.2.2.2.2.2.2.2.2.2.2.1
  obtain ⟨t1, t2, t3⟩ := I.2.2.2.2.1
  refine c_X11_mount I.1 I.2.2.2.2.2.2 ⟨fun fk j i W H q hj hH => ?_, fun i W H q hi hH => ?_⟩
  · refine k _ _ (fun Q2 k2 => c_X12_mount (gg := e) T t1 t2 t3 (fun u g w S F => ?_) (fun u V g w S F f36 => ?_))
    · rw [q] at w
      cases w
      exact k2 _ (jI_mountF I hj hH S F)
    · rw [q] at w
      cases w
  · refine k _ _ (fun Q2 k2 => c_X12_mount (gg := e) T t1 t2 t3 (fun u g w S F => ?_) (fun u V g w S F f36 => ?_))
    · rw [q] at w
      cases w
    · rw [q] at w
      cases w
      exact k2 _ (jI_mountG I q hH S F f36)
end PAIRS
end
section
section PAIRS2
variable {d d2 : Nat} {e : fwH} {Q : Option fwV → fwH → Prop}
theorem mSz_pr {f : Nat → Int} {x : Int} (hx : 0 ≤ x ∧ x < 4) : mSz f x = f x.toNat := by
  unfold mSz
  rw [if_pos hx]
theorem pr_back (I : jI e) (x : Int) (hx : -2147483648 ≤ x ∧ x < 2147483648) (k : ∀ v g1, prM mX12_back (d2 + 1) [aI x] v g1 → Q (some (aI v)) g1) : fwCt mX11_back (d + 2) [aR 0 0, aI x] e Q := by
  have h38 : ∀ c : Nat, c < 3 → e 38 0 c = e 23 0 c := fun c hc => (I.2.2.2.1 c hc).2.1
  refine c_X11_back x I.1 hx (jI_h23 I) (jI_h44 I) ⟨fun c => ?_, fun c1 c2 => ?_, fun c1 c2 => ?_⟩
  · exact k _ _ (fun Q2 k2 => c_X12_back x hx (jI_h38 I) ⟨fun _ => k2 _ I, fun w => absurd w c, fun w => absurd w c⟩)
  · exact k _ _ (fun Q2 k2 => c_X12_back x hx (jI_h38 I) ⟨fun w => absurd c1 w, fun _ _ => k2 _ I, fun _ w => absurd ((h38 _ (by omega)).trans c2) w⟩)
  · exact k _ _ (fun Q2 k2 => c_X12_back x hx (show ∀ c : Nat, c < 3 → e 38 0 c = 0 ∨ e 38 0 c = 1 from jI_h38 I) ⟨fun w => absurd c1 w, fun _ w => absurd ((h38 _ (by omega)).symm.trans w) c2, fun _ _ => k2 _ (jI_back I (by omega) c2)⟩)
theorem pr_row (I : jI e) (x y z : Int) (hx : -2147483648 ≤ x ∧ x < 2147483648) (hy : -2147483648 ≤ y ∧ y < 2147483648) (hz : -2147483648 ≤ z ∧ z < 2147483648) (k : ∀ v g1, prM mX12_row (d2 + 2) [aI x, aI y, aI z] v g1 → Q (some (aI v)) g1) : fwCt mX11_row (d + 2) [aR 0 0, aI x, aI y, aI z] e Q := by
  refine c_X11_row x y z I.1 hx hy hz ⟨fun c => ?_, fun c1 c2 => ?_, fun c1 c2 => ?_⟩
  · exact k _ _ (fun Q2 k2 => c_X12_row x y z hx hy hz ⟨fun _ => k2 _ I, fun w => absurd w c, fun w => absurd w c⟩)
  · exact k _ _ (fun Q2 k2 => c_X12_row x y z hx hy hz ⟨fun w => absurd c1 w, fun _ _ => k2 _ I, fun _ w => absurd c2 w⟩)
  · exact k _ _ (fun Q2 k2 => c_X12_row x y z hx hy hz ⟨fun w => absurd c1 w, fun _ w => absurd w c2, fun _ _ => k2 _ (jI_row I (by omega) (by omega) (by omega))⟩)
theorem pr_write (I : jI e) (x y v : Int) (hx : -2147483648 ≤ x ∧ x < 2147483648) (hy : -2147483648 ≤ y ∧ y < 2147483648) (hv : -9223372036854775808 ≤ v ∧ v < 9223372036854775808) (k : ∀ u g1, prM mX12_write (d2 + 2) [aI x, aI y, aJ v] u g1 → Q (some (aI u)) g1) : fwCt mX11_write (d + 2) [aR 0 0, aI x, aI y, aJ v] e Q := by
  have hS := jI_S I
  have hm := jI_h46 I
  refine c_X11_write x y v I.1 hx hy ⟨fun c => ?_, fun c1 c2 => ?_, fun c1 c2 c3 => ?_, fun c1 c2 c3 => ?_⟩
  · exact k _ _ (fun Q2 k2 => c_X12_write x y v hx hy hm ⟨fun _ => k2 _ I, fun w => absurd w c, fun w => absurd w c, fun w => absurd w c⟩)
  · rw [mSz_pr c1] at c2
    have s1 := (hS x.toNat (by omega)).1
    exact k _ _ (fun Q2 k2 => c_X12_write x y v hx hy hm ⟨fun w => absurd c1 w, fun _ _ => k2 _ I, fun _ w => absurd (s1.trans c2) w, fun _ w => absurd (s1.trans c2) w⟩)
  · rw [mSz_pr c1] at c2 c3
    have s1 := (hS x.toNat (by omega)).1
    exact k _ _ (fun Q2 k2 => c_X12_write x y v hx hy hm ⟨fun w => absurd c1 w, fun _ w => absurd (s1.symm.trans w) c2, fun _ _ _ => k2 _ I, fun _ _ w => absurd (by rw [s1] at w; exact w) c3⟩)
  · rw [mSz_pr c1] at c2 c3
    have s1 := (hS x.toNat (by omega)).1
    have h60 := hm x.toNat (by omega)
    exact k _ _ (fun Q2 k2 => c_X12_write x y v hx hy (show ∀ s : Nat, s < 4 → -1 ≤ e 46 0 s ∧ e 46 0 s ≤ 60 from hm) ⟨fun w => absurd c1 w, fun _ w => absurd (s1.symm.trans w) c2, fun _ _ w => absurd (show 0 ≤ y ∧ y < e 46 0 x.toNat by rw [s1]; exact c3) w, fun _ _ _ => k2 _ (jI_write I (by omega) (by omega) hv)⟩)
theorem pr_paste (I : jI e) (x y z u n : Int) (hx : -2147483648 ≤ x ∧ x < 2147483648) (hy : -2147483648 ≤ y ∧ y < 2147483648) (hz : -2147483648 ≤ z ∧ z < 2147483648) (hu : -2147483648 ≤ u ∧ u < 2147483648) (hn : -2147483648 ≤ n ∧ n < 2147483648) (k : ∀ v g1, prM mX12_paste (d2 + 2) [aI x, aI y, aI z, aI u, aI n] v g1 → Q (some (aI v)) g1) : fwCt mX11_paste (d + 3) [aR 0 0, aI x, aI y, aI z, aI u, aI n] e Q := by
  have hS := jI_S I
  have hm := jI_h46 I
  have hw := jI_h47 I
  refine c_X11_paste x y z u n I.1 hx hy hz hu hn ⟨fun c => ?_, fun c1 c2 => ?_, fun c1 c2 c3 => ?_, fun c1 c2 c3 c4 => ?_, fun c1 c2 c3 c4 => ?_⟩
  · exact k _ _ (fun Q2 k2 => c_X12_paste x y z u n hx hy hz hu hn hm hw ⟨fun _ => k2 _ I, fun w => absurd w c, fun w => absurd w c, fun w => absurd w c, fun w => absurd w c⟩)
  · rw [mSz_pr c1.1, mSz_pr c1.2, ← (hS x.toNat (by omega)).1, ← (hS z.toNat (by omega)).1] at c2
    exact k _ _ (fun Q2 k2 => c_X12_paste x y z u n hx hy hz hu hn hm hw ⟨fun w => absurd c1 w, fun _ _ => k2 _ I, fun _ w => absurd w c2, fun _ w => absurd w c2, fun _ w => absurd w c2⟩)
  · rw [mSz_pr c1.1, mSz_pr c1.2, ← (hS x.toNat (by omega)).1, ← (hS z.toNat (by omega)).1] at c2
    rw [mSz_pr c1.1, mSz_pr c1.2, ← (hS x.toNat (by omega)).2.1, ← (hS z.toNat (by omega)).2.1] at c3
    exact k _ _ (fun Q2 k2 => c_X12_paste x y z u n hx hy hz hu hn hm hw ⟨fun w => absurd c1 w, fun _ w => absurd c2 w, fun _ _ _ => k2 _ I, fun _ _ w => absurd w c3, fun _ _ w => absurd w c3⟩)
  · rw [mSz_pr c1.1, mSz_pr c1.2, ← (hS x.toNat (by omega)).1, ← (hS z.toNat (by omega)).1] at c2 c4
    rw [mSz_pr c1.1, mSz_pr c1.2, ← (hS x.toNat (by omega)).2.1, ← (hS z.toNat (by omega)).2.1] at c3
    exact k _ _ (fun Q2 k2 => c_X12_paste x y z u n hx hy hz hu hn hm hw ⟨fun w => absurd c1 w, fun _ w => absurd c2 w, fun _ _ w => absurd c3 w, fun _ _ _ _ => k2 _ I, fun _ _ _ w => absurd (by omega) c4⟩)
  · have q1 := (hS x.toNat (by omega)).1
    have q2 := (hS z.toNat (by omega)).1
    have h60 := hm x.toNat (by omega)
    have h61 := hm z.toNat (by omega)
    rw [mSz_pr c1.1, mSz_pr c1.2, ← q1, ← q2] at c2 c4
    rw [mSz_pr c1.1, mSz_pr c1.2, ← (hS x.toNat (by omega)).2.1, ← (hS z.toNat (by omega)).2.1] at c3
    exact k _ _ (fun Q2 k2 => c_X12_paste x y z u n hx hy hz hu hn (show ∀ s : Nat, s < 4 → -1 ≤ e 46 0 s ∧ e 46 0 s ≤ 60 from hm) (show ∀ s : Nat, s < 4 → 0 ≤ e 47 0 s ∧ e 47 0 s ≤ 3 from hw) ⟨fun w => absurd c1 w, fun _ w => absurd c2 w, fun _ _ w => absurd c3 w, fun _ _ _ w => absurd (show 0 ≤ y ∧ 0 ≤ u ∧ 0 ≤ n ∧ y + n ≤ e 46 0 x.toNat ∧ u + n ≤ e 46 0 z.toNat by omega) w, fun _ _ _ _ F => k2 _ (jI_paste I F (by omega) (by omega) (by omega) (by omega))⟩)
end PAIRS2
end
section
def prW (mm : fwM) (dd : Nat) (as : List fwV) (g1 : fwH) : Prop := ∀ Q2 : Option fwV → fwH → Prop, (∀ v g2, jI g2 → Q2 (some (aI v)) g2) → fwCt mm dd (aR 12 0 :: as) g1 Q2
section PAIRSQ
variable {d d2 : Nat} {e : fwH} {Q : Option fwV → fwH → Prop}
theorem pr_ask (I : jI e) (x : Int) (y : Int) (hx : -2147483648 ≤ x ∧ x < 2147483648) (hy : -2147483648 ≤ y ∧ y < 2147483648) (k : ∀ v g1, prW mX12_ask (d2 + 7) [aI x, aI y] g1 → Q (some (aI v)) g1) : fwCt mX11_ask (d + 5) [aR 0 0, aI x, aI y] e Q :=
  c_X11_ask x y I.1 hx hy (fun g hg => k _ _ (fun Q2 k2 => c_w_ask (gg := e) x y I.1 (jF_g I hg) (jA_g I hg) hg.2.2 (jS_g I hg) hx hy (fun v g2 hg2 => k2 _ _ (jI_scr I (scr_tr hg hg2)))))
theorem pr_basin (I : jI e) (x : Int) (hx : -2147483648 ≤ x ∧ x < 2147483648) (k : ∀ v g1, prM mX12_basin (d2 + 6) [aI x] v g1 → Q (some (aI v)) g1) : fwCt mX11_basin (d + 5) [aR 0 0, aI x] e Q :=
  c_X11_basin x I.1 hx (fun g hg => k _ _ (fun Q2 k2 => c_X12_basin (gg := e) x I.1 (jF_g I hg) (jA_g I hg) hg.2.2 hx (fun g2 hg2 => k2 _ (jI_scr I (scr_tr hg hg2)))))
theorem pr_best (I : jI e)   (k : ∀ v g1, prM mX12_best (d2 + 6) [] v g1 → Q (some (aI v)) g1) : fwCt mX11_best (d + 10) [aR 0 0] e Q :=
  c_X11_best I.1 (fun g hg => k _ _ (fun Q2 k2 => c_X12_best (gg := e) I.1 (jF_g I hg) (jA_g I hg) hg.2.2 (fun g2 hg2 => k2 _ (jI_scr I (scr_tr hg hg2)))))
theorem pr_cliffs (I : jI e)   (k : ∀ v g1, prM mX12_cliffs (d2 + 6) [] v g1 → Q (some (aI v)) g1) : fwCt mX11_cliffs (d + 2) [aR 0 0] e Q :=
  c_X11_cliffs I.1 (fun g hg => k _ _ (fun Q2 k2 => c_X12_cliffs (gg := e) I.1 (jF_g I hg) (jA_g I hg) hg.2.2 (fun g2 hg2 => k2 _ (jI_scr I (scr_tr hg hg2)))))
theorem pr_count (I : jI e) (x : Int) (hx : -2147483648 ≤ x ∧ x < 2147483648) (k : ∀ v g1, prM mX12_count (d2 + 1) [aI x] v g1 → Q (some (aI v)) g1) : fwCt mX11_count (d + 3) [aR 0 0, aI x] e Q :=
  c_X11_count x I.1 hx (fun g hg => k _ _ (fun Q2 k2 => c_X12_count (gg := e) x I.1 (jF_g I hg) (jS_g I hg) (hg.2.1.1.trans I.2.2.2.2.1.1) hx (k2 _ (jI_scr I hg))))
theorem pr_course (I : jI e) (x : Int) (hx : -2147483648 ≤ x ∧ x < 2147483648) (k : ∀ v g1, prM mX12_course (d2 + 7) [aI x] v g1 → Q (some (aI v)) g1) : fwCt mX11_course (d + 6) [aR 0 0, aI x] e Q :=
  c_X11_course x I.1 hx (fun g hg => k _ _ (fun Q2 k2 => c_X12_course (gg := e) x I.1 (jF_g I hg) (jA_g I hg) hg.2.2 hx (fun g2 hg2 => k2 _ (jI_scr I (scr_tr hg hg2)))))
theorem pr_dark (I : jI e) (x : Int) (hx : -2147483648 ≤ x ∧ x < 2147483648) (k : ∀ v g1, prM mX12_dark (d2 + 6) [aI x] v g1 → Q (some (aI v)) g1) : fwCt mX11_dark (d + 3) [aR 0 0, aI x] e Q :=
  c_X11_dark x I.1 hx (fun g hg => k _ _ (fun Q2 k2 => c_X12_dark (gg := e) x I.1 (jF_g I hg) (jA_g I hg) hg.2.2 hx (fun g2 hg2 => k2 _ (jI_scr I (scr_tr hg hg2)))))
theorem pr_doubts (I : jI e) (x : Int) (hx : -2147483648 ≤ x ∧ x < 2147483648) (k : ∀ v g1, prW mX12_doubts (d2 + 7) [aI x] g1 → Q (some (aI v)) g1) : fwCt mX11_doubts (d + 5) [aR 0 0, aI x] e Q :=
  c_X11_doubts x I.1 hx (fun g hg => k _ _ (fun Q2 k2 => c_w_doubts (gg := e) x I.1 (jF_g I hg) (jA_g I hg) hg.2.2 (jS_g I hg) hx (fun v g2 hg2 => k2 _ _ (jI_scr I (scr_tr hg hg2)))))
theorem pr_drawn (I : jI e) (x : Int) (y : Int) (z : Int) (hx : -2147483648 ≤ x ∧ x < 2147483648) (hy : -2147483648 ≤ y ∧ y < 2147483648) (hz : -2147483648 ≤ z ∧ z < 2147483648) (k : ∀ v g1, prM mX12_drawn (d2 + 7) [aI x, aI y, aI z] v g1 → Q (some (aI v)) g1) : fwCt mX11_drawn (d + 5) [aR 0 0, aI x, aI y, aI z] e Q :=
  c_X11_drawn x y z I.1 hx hy hz (fun g hg => k _ _ (fun Q2 k2 => c_X12_drawn (gg := e) x y z I.1 (jF_g I hg) (jA_g I hg) hg.2.2 hx hy hz (fun g2 hg2 => k2 _ (jI_scr I (scr_tr hg hg2)))))
theorem pr_elected (I : jI e)   (k : ∀ v g1, prW mX12_elected (d2 + 6) [] g1 → Q (some (aI v)) g1) : fwCt mX11_elected (d + 5) [aR 0 0] e Q :=
  c_X11_elected I.1 (fun g hg => k _ _ (fun Q2 k2 => c_w_elected (gg := e) I.1 (jF_g I hg) (jA_g I hg) hg.2.2 (fun v g2 hg2 => k2 _ _ (jI_scr I (scr_tr hg hg2)))))
theorem pr_ends (I : jI e) (x : Int) (hx : -2147483648 ≤ x ∧ x < 2147483648) (k : ∀ v g1, prM mX12_ends (d2 + 7) [aI x] v g1 → Q (some (aI v)) g1) : fwCt mX11_ends (d + 6) [aR 0 0, aI x] e Q :=
  c_X11_ends x I.1 hx (fun g hg => k _ _ (fun Q2 k2 => c_X12_ends (gg := e) x I.1 (jF_g I hg) (jA_g I hg) hg.2.2 hx (fun g2 hg2 => k2 _ (jI_scr I (scr_tr hg hg2)))))
theorem pr_first (I : jI e)   (k : ∀ v g1, prM mX12_first (d2 + 7) [] v g1 → Q (some (aI v)) g1) : fwCt mX11_first (d + 5) [aR 0 0] e Q :=
  c_X11_first I.1 (fun g hg => k _ _ (fun Q2 k2 => c_X12_first (gg := e) I.1 (jF_g I hg) (jA_g I hg) hg.2.2 (fun g2 hg2 => k2 _ (jI_scr I (scr_tr hg hg2)))))
theorem pr_firsts (I : jI e)   (k : ∀ v g1, prM mX12_firsts (d2 + 7) [] v g1 → Q (some (aI v)) g1) : fwCt mX11_firsts (d + 5) [aR 0 0] e Q :=
  c_X11_firsts I.1 (fun g hg => k _ _ (fun Q2 k2 => c_X12_firsts (gg := e) I.1 (jF_g I hg) (jA_g I hg) hg.2.2 (fun g2 hg2 => k2 _ (jI_scr I (scr_tr hg hg2)))))
theorem pr_flows (I : jI e) (x : Int) (hx : -2147483648 ≤ x ∧ x < 2147483648) (k : ∀ v g1, prM mX12_flows (d2 + 6) [aI x] v g1 → Q (some (aI v)) g1) : fwCt mX11_flows (d + 4) [aR 0 0, aI x] e Q :=
  c_X11_flows x I.1 hx (fun g hg => k _ _ (fun Q2 k2 => c_X12_flows (gg := e) x I.1 (jF_g I hg) (jA_g I hg) hg.2.2 hx (fun g2 hg2 => k2 _ (jI_scr I (scr_tr hg hg2)))))
theorem pr_folk (I : jI e) (x : Int) (y : Int) (hx : -2147483648 ≤ x ∧ x < 2147483648) (hy : -2147483648 ≤ y ∧ y < 2147483648) (k : ∀ v g1, prM mX12_folk (d2 + 2) [aI x, aI y] v g1 → Q (some (aI v)) g1) : fwCt mX11_folk (d + 1) [aR 0 0, aI x, aI y] e Q :=
  c_X11_folk x y I.1 hx hy (fun g hg => k _ _ (fun Q2 k2 => c_X12_folk (gg := e) x y I.1 (jF_g I hg) (jA_g I hg) hg.2.2 hx hy (fun g2 hg2 => k2 _ (jI_scr I (scr_tr hg hg2)))))
theorem pr_gain (I : jI e) (x : Int) (hx : -2147483648 ≤ x ∧ x < 2147483648) (k : ∀ v g1, prM mX12_gain (d2 + 6) [aI x] v g1 → Q (some (aI v)) g1) : fwCt mX11_gain (d + 4) [aR 0 0, aI x] e Q :=
  c_X11_gain x I.1 hx (fun g hg => k _ _ (fun Q2 k2 => c_X12_gain (gg := e) x I.1 (jF_g I hg) (jA_g I hg) hg.2.2 hx (fun g2 hg2 => k2 _ (jI_scr I (scr_tr hg hg2)))))
theorem pr_gains (I : jI e)   (k : ∀ v g1, prM mX12_gains (d2 + 6) [] v g1 → Q (some (aI v)) g1) : fwCt mX11_gains (d + 4) [aR 0 0] e Q :=
  c_X11_gains I.1 (fun g hg => k _ _ (fun Q2 k2 => c_X12_gains (gg := e) I.1 (jF_g I hg) (jA_g I hg) hg.2.2 (fun g2 hg2 => k2 _ (jI_scr I (scr_tr hg hg2)))))
theorem pr_goes (I : jI e) (x : Int) (y : Int) (z : Int) (hx : -2147483648 ≤ x ∧ x < 2147483648) (hy : -2147483648 ≤ y ∧ y < 2147483648) (hz : -2147483648 ≤ z ∧ z < 2147483648) (k : ∀ v g1, prW mX12_goes (d2 + 8) [aI x, aI y, aI z] g1 → Q (some (aI v)) g1) : fwCt mX11_goes (d + 6) [aR 0 0, aI x, aI y, aI z] e Q :=
  c_X11_goes x y z I.1 hx hy hz (fun g hg => k _ _ (fun Q2 k2 => c_w_goes (gg := e) x y z I.1 (jF_g I hg) (jA_g I hg) hg.2.2 hx hy hz (fun v g2 hg2 => k2 _ _ (jI_scr I (scr_tr hg hg2)))))
theorem pr_height (I : jI e) (x : Int) (hx : -2147483648 ≤ x ∧ x < 2147483648) (k : ∀ v g1, prM mX12_height (d2 + 6) [aI x] v g1 → Q (some (aI v)) g1) : fwCt mX11_height (d + 1) [aR 0 0, aI x] e Q :=
  c_X11_height x I.1 hx (fun g hg => k _ _ (fun Q2 k2 => c_X12_height (gg := e) x I.1 (jF_g I hg) (jA_g I hg) hg.2.2 hx (fun g2 hg2 => k2 _ (jI_scr I (scr_tr hg hg2)))))
theorem pr_hopes (I : jI e) (x : Int) (y : Int) (hx : -2147483648 ≤ x ∧ x < 2147483648) (hy : -2147483648 ≤ y ∧ y < 2147483648) (k : ∀ v g1, prM mX12_hopes (d2 + 7) [aI x, aI y] v g1 → Q (some (aI v)) g1) : fwCt mX11_hopes (d + 5) [aR 0 0, aI x, aI y] e Q :=
  c_X11_hopes x y I.1 hx hy (fun g hg => k _ _ (fun Q2 k2 => c_X12_hopes (gg := e) x y I.1 (jF_g I hg) (jA_g I hg) hg.2.2 hx hy (fun g2 hg2 => k2 _ (jI_scr I (scr_tr hg hg2)))))
theorem pr_law (I : jI e) (x : Int) (hx : -2147483648 ≤ x ∧ x < 2147483648) (k : ∀ v g1, prM mX12_law (d2 + 7) [aI x] v g1 → Q (some (aI v)) g1) : fwCt mX11_law (d + 6) [aR 0 0, aI x] e Q :=
  c_X11_law x I.1 hx (fun g hg => k _ _ (fun Q2 k2 => c_X12_law (gg := e) x I.1 (jF_g I hg) (jA_g I hg) hg.2.2 hx (fun g2 hg2 => k2 _ (jI_scr I (scr_tr hg hg2)))))
theorem pr_leaves (I : jI e) (x : Int) (y : Int) (hx : -2147483648 ≤ x ∧ x < 2147483648) (hy : -2147483648 ≤ y ∧ y < 2147483648) (k : ∀ v g1, prW mX12_leaves (d2 + 7) [aI x, aI y] g1 → Q (some (aI v)) g1) : fwCt mX11_leaves (d + 5) [aR 0 0, aI x, aI y] e Q :=
  c_X11_leaves x y I.1 hx hy (fun g hg => k _ _ (fun Q2 k2 => c_w_leaves (gg := e) x y I.1 (jF_g I hg) (jA_g I hg) hg.2.2 (jS_g I hg) hx hy (fun v g2 hg2 => k2 _ _ (jI_scr I (scr_tr hg hg2)))))
theorem pr_left (I : jI e) (x : Int) (y : Int) (hx : -2147483648 ≤ x ∧ x < 2147483648) (hy : -2147483648 ≤ y ∧ y < 2147483648) (k : ∀ v g1, prM mX12_left (d2 + 7) [aI x, aI y] v g1 → Q (some (aI v)) g1) : fwCt mX11_left (d + 6) [aR 0 0, aI x, aI y] e Q :=
  c_X11_left x y I.1 hx hy (fun g hg => k _ _ (fun Q2 k2 => c_X12_left (gg := e) x y I.1 (jF_g I hg) (jA_g I hg) hg.2.2 hx hy (fun g2 hg2 => k2 _ (jI_scr I (scr_tr hg hg2)))))
theorem pr_light (I : jI e) (x : Int) (hx : -2147483648 ≤ x ∧ x < 2147483648) (k : ∀ v g1, prM mX12_light (d2 + 6) [aI x] v g1 → Q (some (aI v)) g1) : fwCt mX11_light (d + 2) [aR 0 0, aI x] e Q :=
  c_X11_light x I.1 hx (fun g hg => k _ _ (fun Q2 k2 => c_X12_light (gg := e) x I.1 (jF_g I hg) (jA_g I hg) hg.2.2 hx (fun g2 hg2 => k2 _ (jI_scr I (scr_tr hg hg2)))))
theorem pr_lookout (I : jI e)   (k : ∀ v g1, prM mX12_lookout (d2 + 6) [] v g1 → Q (some (aI v)) g1) : fwCt mX11_lookout (d + 4) [aR 0 0] e Q :=
  c_X11_lookout I.1 (fun g hg => k _ _ (fun Q2 k2 => c_X12_lookout (gg := e) I.1 (jF_g I hg) (jA_g I hg) hg.2.2 (fun g2 hg2 => k2 _ (jI_scr I (scr_tr hg hg2)))))
theorem pr_luck (I : jI e) (x : Int) (y : Int) (z : Int) (hx : -2147483648 ≤ x ∧ x < 2147483648) (hy : -2147483648 ≤ y ∧ y < 2147483648) (hz : -2147483648 ≤ z ∧ z < 2147483648) (k : ∀ v g1, prM mX12_luck (d2 + 7) [aI x, aI y, aI z] v g1 → Q (some (aI v)) g1) : fwCt mX11_luck (d + 5) [aR 0 0, aI x, aI y, aI z] e Q :=
  c_X11_luck x y z I.1 hx hy hz (fun g hg => k _ _ (fun Q2 k2 => c_X12_luck (gg := e) x y z I.1 (jF_g I hg) (jA_g I hg) hg.2.2 hx hy hz (fun g2 hg2 => k2 _ (jI_scr I (scr_tr hg hg2)))))
theorem pr_moves (I : jI e) (x : Int) (y : Int) (hx : -2147483648 ≤ x ∧ x < 2147483648) (hy : -2147483648 ≤ y ∧ y < 2147483648) (k : ∀ v g1, prW mX12_moves (d2 + 7) [aI x, aI y] g1 → Q (some (aI v)) g1) : fwCt mX11_moves (d + 31) [aR 0 0, aI x, aI y] e Q :=
  c_X11_moves x y I.1 hx hy (fun g hg => k _ _ (fun Q2 k2 => c_w_moves (gg := e) x y I.1 (jF_g I hg) (jA_g I hg) hg.2.2 hx hy (fun v g2 hg2 => k2 _ _ (jI_scr I (scr_tr hg hg2)))))
theorem pr_names (I : jI e) (x : Int) (hx : -2147483648 ≤ x ∧ x < 2147483648) (k : ∀ v g1, prM mX12_names (d2 + 6) [aI x] v g1 → Q (some (aI v)) g1) : fwCt mX11_names (d + 5) [aR 0 0, aI x] e Q :=
  c_X11_names x I.1 hx (fun g hg => k _ _ (fun Q2 k2 => c_X12_names (gg := e) x I.1 (jF_g I hg) (jA_g I hg) hg.2.2 hx (fun g2 hg2 => k2 _ (jI_scr I (scr_tr hg hg2)))))
theorem pr_needed (I : jI e)   (k : ∀ v g1, prM mX12_needed (d2 + 6) [] v g1 → Q (some (aI v)) g1) : fwCt mX11_needed (d + 5) [aR 0 0] e Q :=
  c_X11_needed I.1 (fun g hg => k _ _ (fun Q2 k2 => c_X12_needed (gg := e) I.1 (jF_g I hg) (jA_g I hg) hg.2.2 (fun g2 hg2 => k2 _ (jI_scr I (scr_tr hg hg2)))))
theorem pr_next (I : jI e) (x : Int) (hx : -2147483648 ≤ x ∧ x < 2147483648) (k : ∀ v g1, prM mX12_next (d2 + 6) [aI x] v g1 → Q (some (aI v)) g1) : fwCt mX11_next (d + 5) [aR 0 0, aI x] e Q :=
  c_X11_next x I.1 hx (fun g hg => k _ _ (fun Q2 k2 => c_X12_next (gg := e) x I.1 (jF_g I hg) (jA_g I hg) hg.2.2 hx (fun g2 hg2 => k2 _ (jI_scr I (scr_tr hg hg2)))))
theorem pr_old (I : jI e) (x : Int) (hx : -2147483648 ≤ x ∧ x < 2147483648) (k : ∀ v g1, prW mX12_old (d2 + 7) [aI x] g1 → Q (some (aI v)) g1) : fwCt mX11_old (d + 5) [aR 0 0, aI x] e Q :=
  c_X11_old x I.1 hx (fun g hg => k _ _ (fun Q2 k2 => c_w_old (gg := e) x I.1 (jF_g I hg) (jA_g I hg) hg.2.2 (jS_g I hg) hx (fun v g2 hg2 => k2 _ _ (jI_scr I (scr_tr hg hg2)))))
theorem pr_play (I : jI e) (x : Int) (y : Int) (hx : -2147483648 ≤ x ∧ x < 2147483648) (hy : -2147483648 ≤ y ∧ y < 2147483648) (k : ∀ v g1, prW mX12_play (d2 + 7) [aI x, aI y] g1 → Q (some (aI v)) g1) : fwCt mX11_play (d + 30) [aR 0 0, aI x, aI y] e Q :=
  c_X11_play x y I.1 hx hy (fun g hg => k _ _ (fun Q2 k2 => c_w_play (gg := e) x y I.1 (jF_g I hg) (jA_g I hg) hg.2.2 hx hy (fun v g2 hg2 => k2 _ _ (jI_scr I (scr_tr hg hg2)))))
theorem pr_raisers (I : jI e)   (k : ∀ v g1, prM mX12_raisers (d2 + 6) [] v g1 → Q (some (aI v)) g1) : fwCt mX11_raisers (d + 4) [aR 0 0] e Q :=
  c_X11_raisers I.1 (fun g hg => k _ _ (fun Q2 k2 => c_X12_raisers (gg := e) I.1 (jF_g I hg) (jA_g I hg) hg.2.2 (fun g2 hg2 => k2 _ (jI_scr I (scr_tr hg hg2)))))
theorem pr_round (I : jI e) (x : Int) (y : Int) (hx : -2147483648 ≤ x ∧ x < 2147483648) (hy : -2147483648 ≤ y ∧ y < 2147483648) (k : ∀ v g1, prW mX12_round (d2 + 8) [aI x, aI y] g1 → Q (some (aI v)) g1) : fwCt mX11_round (d + 6) [aR 0 0, aI x, aI y] e Q :=
  c_X11_round x y I.1 hx hy (fun g hg => k _ _ (fun Q2 k2 => c_w_round (gg := e) x y I.1 (jF_g I hg) (jA_g I hg) hg.2.2 hx hy (fun v g2 hg2 => k2 _ _ (jI_scr I (scr_tr hg hg2)))))
theorem pr_sees (I : jI e) (x : Int) (hx : -2147483648 ≤ x ∧ x < 2147483648) (k : ∀ v g1, prM mX12_sees (d2 + 6) [aI x] v g1 → Q (some (aI v)) g1) : fwCt mX11_sees (d + 3) [aR 0 0, aI x] e Q :=
  c_X11_sees x I.1 hx (fun g hg => k _ _ (fun Q2 k2 => c_X12_sees (gg := e) x I.1 (jF_g I hg) (jA_g I hg) hg.2.2 hx (fun g2 hg2 => k2 _ (jI_scr I (scr_tr hg hg2)))))
theorem pr_shade (I : jI e) (x : Int) (y : Int) (hx : -2147483648 ≤ x ∧ x < 2147483648) (hy : -2147483648 ≤ y ∧ y < 2147483648) (k : ∀ v g1, prM mX12_shade (d2 + 6) [aI x, aI y] v g1 → Q (some (aI v)) g1) : fwCt mX11_shade (d + 2) [aR 0 0, aI x, aI y] e Q :=
  c_X11_shade x y I.1 hx hy (fun g hg => k _ _ (fun Q2 k2 => c_X12_shade (gg := e) x y I.1 (jF_g I hg) (jA_g I hg) hg.2.2 hx hy (fun g2 hg2 => k2 _ (jI_scr I (scr_tr hg hg2)))))
theorem pr_shape (I : jI e) (x : Int) (hx : -2147483648 ≤ x ∧ x < 2147483648) (k : ∀ v g1, prW mX12_shape (d2 + 7) [aI x] g1 → Q (some (aI v)) g1) : fwCt mX11_shape (d + 10) [aR 0 0, aI x] e Q :=
  c_X11_shape x I.1 hx (fun g hg => k _ _ (fun Q2 k2 => c_w_shape (gg := e) x I.1 (jF_g I hg) (jA_g I hg) hg.2.2 hx (fun v g2 hg2 => k2 _ _ (jI_scr I (scr_tr hg hg2)))))
theorem pr_shaped (I : jI e) (x : Int) (y : Int) (hx : -2147483648 ≤ x ∧ x < 2147483648) (hy : -2147483648 ≤ y ∧ y < 2147483648) (k : ∀ v g1, prW mX12_shaped (d2 + 7) [aI x, aI y] g1 → Q (some (aI v)) g1) : fwCt mX11_shaped (d + 10) [aR 0 0, aI x, aI y] e Q :=
  c_X11_shaped x y I.1 hx hy (fun g hg => k _ _ (fun Q2 k2 => c_w_shaped (gg := e) x y I.1 (jF_g I hg) (jA_g I hg) hg.2.2 hx hy (fun v g2 hg2 => k2 _ _ (jI_scr I (scr_tr hg hg2)))))
theorem pr_signers (I : jI e) (x : Int) (hx : -2147483648 ≤ x ∧ x < 2147483648) (k : ∀ v g1, prM mX12_signers (d2 + 6) [aI x] v g1 → Q (some (aI v)) g1) : fwCt mX11_signers (d + 5) [aR 0 0, aI x] e Q :=
  c_X11_signers x I.1 hx (fun g hg => k _ _ (fun Q2 k2 => c_X12_signers (gg := e) x I.1 (jF_g I hg) (jA_g I hg) hg.2.2 hx (fun g2 hg2 => k2 _ (jI_scr I (scr_tr hg hg2)))))
theorem pr_slides (I : jI e) (x : Int) (hx : -2147483648 ≤ x ∧ x < 2147483648) (k : ∀ v g1, prM mX12_slides (d2 + 6) [aI x] v g1 → Q (some (aI v)) g1) : fwCt mX11_slides (d + 4) [aR 0 0, aI x] e Q :=
  c_X11_slides x I.1 hx (fun g hg => k _ _ (fun Q2 k2 => c_X12_slides (gg := e) x I.1 (jF_g I hg) (jA_g I hg) hg.2.2 hx (fun g2 hg2 => k2 _ (jI_scr I (scr_tr hg hg2)))))
theorem pr_snow (I : jI e)   (k : ∀ v g1, prM mX12_snow (d2 + 6) [] v g1 → Q (some (aI v)) g1) : fwCt mX11_snow (d + 2) [aR 0 0] e Q :=
  c_X11_snow I.1 (fun g hg => k _ _ (fun Q2 k2 => c_X12_snow (gg := e) I.1 (jF_g I hg) (jA_g I hg) hg.2.2 (fun g2 hg2 => k2 _ (jI_scr I (scr_tr hg hg2)))))
theorem pr_spoil (I : jI e)   (k : ∀ v g1, prM mX12_spoil (d2 + 6) [] v g1 → Q (some (aI v)) g1) : fwCt mX11_spoil (d + 5) [aR 0 0] e Q :=
  c_X11_spoil I.1 (fun g hg => k _ _ (fun Q2 k2 => c_X12_spoil (gg := e) I.1 (jF_g I hg) (jA_g I hg) hg.2.2 (fun g2 hg2 => k2 _ (jI_scr I (scr_tr hg hg2)))))
theorem pr_springs (I : jI e)   (k : ∀ v g1, prM mX12_springs (d2 + 6) [] v g1 → Q (some (aI v)) g1) : fwCt mX11_springs (d + 5) [aR 0 0] e Q :=
  c_X11_springs I.1 (fun g hg => k _ _ (fun Q2 k2 => c_X12_springs (gg := e) I.1 (jF_g I hg) (jA_g I hg) hg.2.2 (fun g2 hg2 => k2 _ (jI_scr I (scr_tr hg hg2)))))
theorem pr_stands (I : jI e) (x : Int) (hx : -2147483648 ≤ x ∧ x < 2147483648) (k : ∀ v g1, prM mX12_stands (d2 + 3) [aI x] v g1 → Q (some (aI v)) g1) : fwCt mX11_stands (d + 4) [aR 0 0, aI x] e Q :=
  c_X11_stands x I.1 hx (fun g hg => k _ _ (fun Q2 k2 => c_X12_stands (gg := e) x I.1 (jF_g I hg) (jS_g I hg) hx (k2 _ (jI_scr I hg))))
theorem pr_struck (I : jI e) (x : Int) (y : Int) (hx : -2147483648 ≤ x ∧ x < 2147483648) (hy : -2147483648 ≤ y ∧ y < 2147483648) (k : ∀ v g1, prW mX12_struck (d2 + 3) [aI x, aI y] g1 → Q (some (aI v)) g1) : fwCt mX11_struck (d + 4) [aR 0 0, aI x, aI y] e Q :=
  c_X11_struck x y I.1 hx hy (fun g hg => k _ _ (fun Q2 k2 => c_w_struck (gg := e) x y I.1 (jF_g I hg) (jA_g I hg) hg.2.2 (jS_g I hg) hx hy (fun v g2 hg2 => k2 _ _ (jI_scr I (scr_tr hg hg2)))))
theorem pr_top (I : jI e)   (k : ∀ v g1, prM mX12_top (d2 + 6) [] v g1 → Q (some (aI v)) g1) : fwCt mX11_top (d + 2) [aR 0 0] e Q :=
  c_X11_top I.1 (fun g hg => k _ _ (fun Q2 k2 => c_X12_top (gg := e) I.1 (jF_g I hg) (jA_g I hg) hg.2.2 (fun g2 hg2 => k2 _ (jI_scr I (scr_tr hg hg2)))))
theorem pr_two (I : jI e) (x : Int) (y : Int) (z : Int) (hx : -2147483648 ≤ x ∧ x < 2147483648) (hy : -2147483648 ≤ y ∧ y < 2147483648) (hz : -2147483648 ≤ z ∧ z < 2147483648) (k : ∀ v g1, prW mX12_two (d2 + 8) [aI x, aI y, aI z] g1 → Q (some (aI v)) g1) : fwCt mX11_two (d + 6) [aR 0 0, aI x, aI y, aI z] e Q :=
  c_X11_two x y z I.1 hx hy hz (fun g hg => k _ _ (fun Q2 k2 => c_w_two (gg := e) x y z I.1 (jF_g I hg) (jA_g I hg) hg.2.2 hx hy hz (fun v g2 hg2 => k2 _ _ (jI_scr I (scr_tr hg hg2)))))
theorem pr_votes (I : jI e) (x : Int) (y : Int) (hx : -2147483648 ≤ x ∧ x < 2147483648) (hy : -2147483648 ≤ y ∧ y < 2147483648) (k : ∀ v g1, prM mX12_votes (d2 + 6) [aI x, aI y] v g1 → Q (some (aI v)) g1) : fwCt mX11_votes (d + 4) [aR 0 0, aI x, aI y] e Q :=
  c_X11_votes x y I.1 hx hy (fun g hg => k _ _ (fun Q2 k2 => c_X12_votes (gg := e) x y I.1 (jF_g I hg) (jA_g I hg) hg.2.2 hx hy (fun g2 hg2 => k2 _ (jI_scr I (scr_tr hg hg2)))))
theorem pr_willing (I : jI e)   (k : ∀ v g1, prM mX12_willing (d2 + 6) [] v g1 → Q (some (aI v)) g1) : fwCt mX11_willing (d + 4) [aR 0 0] e Q :=
  c_X11_willing I.1 (fun g hg => k _ _ (fun Q2 k2 => c_X12_willing (gg := e) I.1 (jF_g I hg) (jA_g I hg) hg.2.2 (fun g2 hg2 => k2 _ (jI_scr I (scr_tr hg hg2)))))
theorem pr_wishes (I : jI e) (x : Int) (hx : -2147483648 ≤ x ∧ x < 2147483648) (k : ∀ v g1, prM mX12_wishes (d2 + 7) [aI x] v g1 → Q (some (aI v)) g1) : fwCt mX11_wishes (d + 5) [aR 0 0, aI x] e Q :=
  c_X11_wishes x I.1 hx (fun g hg => k _ _ (fun Q2 k2 => c_X12_wishes (gg := e) x I.1 (jF_g I hg) (jA_g I hg) hg.2.2 hx (fun g2 hg2 => k2 _ (jI_scr I (scr_tr hg hg2)))))
theorem pr_fault (I : jI e) (x : Int) (hx : -2147483648 ≤ x ∧ x < 2147483648) (k : ∀ v g1, prM mX12_fault (d2 + 0) [aI x] v g1 → Q (some (aI v)) g1) : fwCt mX11_fault (d + 0) [aR 0 0, aI x] e Q :=
  c_X11_fault x I.1 hx (fun g hg => k _ _ (fun Q2 k2 => c_X12_fault x hx (by
    have z := k2 _ (jI_scr I hg)
    have q : an_fault e x = (if x = 0 then g 12 0 12 else if x = 1 then g 12 0 13 else -1) := by
      rw [hg.2.1.2.1, hg.2.1.2.2, I.2.2.2.2.2.1.1, I.2.2.2.2.2.1.2]
      rfl
    rw [q] at z
    exact z)))
end PAIRSQ
end

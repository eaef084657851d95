theorem cOk_of {h : fwH} {W : Nat → Int} (m : mPic (h 3 0) (h 4 0) (h 5 0) (h 17 0) (h 18 0) (h 21 0) W) (s : sOk h) (t : tOk h) (c : sc h) : cOk h := by
  obtain ⟨⟨a1, a2, a3, a4, a5, a6, a7, a8, a9, a10, a11, a12⟩, b, -, -, -⟩ := m
  exact ⟨a1, ⟨a2, b⟩, ⟨a3, a4, a5, a6, fun c hc => by have := a7 c hc; omega⟩, a7, a8, a9, a10, a11, a12, s, t, c⟩
def isSl (a : Nat) : Prop := (33 ≤ a ∧ a ≤ 35) ∨ (46 ≤ a ∧ a ≤ 49)
/-- acts on SLOTS alone -/
theorem jI_sl {h g : fwH} (I : jI h) (r : ∀ a b, ¬ isSl a → g a b = h a b) (s : sOk g) (S : jS g g) : jI g := by
  have q : ∀ a b, ¬ isSl a → g a b = h a b := r
  have n : ∀ a : Nat, a < 33 ∨ (36 ≤ a ∧ a < 46) → ¬ isSl a := fun a ha z => by unfold isSl at z; omega
  obtain ⟨i1, i2, i3, i4, i5, i6, i7⟩ := I
  obtain ⟨j1, j2, j3, j4, j5, j6, j7, j8, j9, j10, j11, j12⟩ := i1
  have m : mPic (g 3 0) (g 4 0) (g 5 0) (g 17 0) (g 18 0) (g 21 0) (g 36 0) := by
    rw [q 3 0 (n _ (by omega)), q 4 0 (n _ (by omega)), q 5 0 (n _ (by omega)), q 17 0 (n _ (by omega)), q 18 0 (n _ (by omega)), q 21 0 (n _ (by omega)), q 36 0 (n _ (by omega))]
    exact i2
  refine ⟨cOk_of m s ?_ ?_, m, S, ?_, ?_, ?_, ?_⟩
  · unfold tOk
    rw [q 1 0 (n _ (by omega))]
    exact j11
  · unfold sc
    rw [q 25 0 (n _ (by omega)), q 8 0 (n _ (by omega))]
    exact j12
  · intro k hk
    rw [q 23 0 (n _ (by omega)), q 38 0 (n _ (by omega)), q 37 0 (n _ (by omega)), q 3 _ (n _ (by omega)), q 4 _ (n _ (by omega)), q 5 _ (n _ (by omega)), q 17 _ (n _ (by omega)), q 18 _ (n _ (by omega)), q 21 _ (n _ (by omega))]
    exact i4 k hk
  · rw [q 1 0 (n _ (by omega)), q 39 0 (n _ (by omega)), q 13 0 (n _ (by omega)), q 12 0 (n _ (by omega))]
    exact i5
  · rw [q 2 0 (n _ (by omega)), q 12 0 (n _ (by omega))]
    exact i6
  · rw [q 17 1 (n _ (by omega))]
    exact i7
theorem fwUc_ns {h : fwH} {k i : Nat} {f : Nat → Int} (hk : isSl k) : ∀ a b, ¬ isSl a → fwUc h k i f a b = h a b := fun a b ha => fwUc_ne (fun z => ha (z.1 ▸ hk))
theorem fwUp_ns {h : fwH} {k i j : Nat} {x : Int} (hk : isSl k) : ∀ a b, ¬ isSl a → fwUp h k i j x a b = h a b := fun a b ha => by
  funext s
  show (if a = k ∧ b = i ∧ s = j then x else h a b s) = h a b s
  exact if_neg (fun (z : a = k ∧ b = i ∧ s = j) => ha (z.1 ▸ hk))
theorem ns_tr {h g f : fwH} (a : ∀ x y, ¬ isSl x → g x y = h x y) (b : ∀ x y, ¬ isSl x → f x y = g x y) : ∀ x y, ¬ isSl x → f x y = h x y := fun x y p => (b x y p).trans (a x y p)
theorem mCut_rng {v w : Int} (hv : -9223372036854775808 ≤ v ∧ v < 9223372036854775808) : -9223372036854775808 ≤ mCut v w ∧ mCut v w < 9223372036854775808 := by
  have b8 : ∀ x : Int, -128 ≤ fwB8 x ∧ fwB8 x < 128 := fun x => by
    unfold fwB8
    rw [Int32.toInt_toInt8]
    have := Int.bmod_lt (x := (Int32.ofInt x).toInt) (m := 256) (by decide)
    have := Int.le_bmod (x := (Int32.ofInt x).toInt) (m := 256) (by decide)
    show -128 ≤ Int.bmod _ 256 ∧ Int.bmod _ 256 < 128
    omega
  have b16 : ∀ x : Int, -32768 ≤ fwS16 x ∧ fwS16 x < 32768 := fun x => by
    unfold fwS16
    rw [Int32.toInt_toInt16]
    have := Int.bmod_lt (x := (Int32.ofInt x).toInt) (m := 65536) (by decide)
    have := Int.le_bmod (x := (Int32.ofInt x).toInt) (m := 65536) (by decide)
    show -32768 ≤ Int.bmod _ 65536 ∧ Int.bmod _ 65536 < 32768
    omega
  have b32 : ∀ x : Int, -2147483648 ≤ fwI32 x ∧ fwI32 x < 2147483648 := fun x => by
    unfold fwI32
    rw [Int32.toInt_ofInt]
    have := Int.bmod_lt (x := x) (m := 4294967296) (by decide)
    have := Int.le_bmod (x := x) (m := 4294967296) (by decide)
    show _ ≤ Int.bmod x 4294967296 ∧ Int.bmod x 4294967296 < _
    omega
  have h1 := b8 v
  have h2 := b16 v
  have h3 := b32 v
  unfold mCut
  split
  · omega
  · split
    · omega
    · split <;> omega
/-- row -/
theorem jI_row {h : fwH} (I : jI h) {s : Nat} {y z : Int} (hs : s < 4) (hy : 0 ≤ y ∧ y < 4) (hz : 0 ≤ z ∧ z ≤ 60) : jI (fwUc (fwUp (fwUp (fwUc (fwUp (fwUp h 34 0 s y) 35 0 s z) 33 s (fun _ => 0)) 46 0 s z) 47 0 s y) 48 0 (fun j => if 60 * s ≤ j ∧ j < 60 * s + 60 then 0 else h 48 0 j)) := by
  have l34 : isSl 34 := by unfold isSl; omega
  have l35 : isSl 35 := by unfold isSl; omega
  have l33 : isSl 33 := by unfold isSl; omega
  have l46 : isSl 46 := by unfold isSl; omega
  have l47 : isSl 47 := by unfold isSl; omega
  have l48 : isSl 48 := by unfold isSl; omega
  have S := jI_S I
  have O : sOk h := I.1.2.2.2.2.2.2.2.2.2.1
  refine jI_sl I (ns_tr (ns_tr (ns_tr (ns_tr (ns_tr (fwUp_ns l34) (fwUp_ns l35)) (fwUc_ns l33)) (fwUp_ns l46)) (fwUp_ns l47)) (fwUc_ns l48)) ?_ ?_
  · intro t ht
    obtain ⟨o1, o2, o3⟩ := O t ht
    refine ⟨?_, ?_, fun j hj => ?_⟩
    · show -1 ≤ (if 35 = 35 ∧ 0 = 0 ∧ t = s then z else h 35 0 t) ∧ (if 35 = 35 ∧ 0 = 0 ∧ t = s then z else h 35 0 t) ≤ 60
      split <;> omega
    · show 0 ≤ (if 34 = 34 ∧ 0 = 0 ∧ t = s then y else h 34 0 t) ∧ (if 34 = 34 ∧ 0 = 0 ∧ t = s then y else h 34 0 t) ≤ 3
      split <;> omega
    · have := o3 j hj
      show -9223372036854775808 ≤ (if 33 = 33 ∧ t = s then (fun _ => 0) else h 33 t) j ∧ (if 33 = 33 ∧ t = s then (fun _ => 0) else h 33 t) j < 9223372036854775808
      by_cases e : t = s
      · rw [if_pos ⟨rfl, e⟩]; omega
      · rw [if_neg (fun q => e q.2)]; exact this
  · intro t ht
    obtain ⟨o1, o2, o3⟩ := S t ht
    refine ⟨?_, ?_, fun j hj => ?_⟩
    · show (if 46 = 46 ∧ 0 = 0 ∧ t = s then z else h 46 0 t) = (if 35 = 35 ∧ 0 = 0 ∧ t = s then z else h 35 0 t)
      by_cases e : t = s
      · rw [if_pos ⟨rfl, rfl, e⟩, if_pos ⟨rfl, rfl, e⟩]
      · rw [if_neg (fun q => e q.2.2), if_neg (fun q => e q.2.2)]; exact o1
    · show (if 47 = 47 ∧ 0 = 0 ∧ t = s then y else h 47 0 t) = (if 34 = 34 ∧ 0 = 0 ∧ t = s then y else h 34 0 t)
      by_cases e : t = s
      · rw [if_pos ⟨rfl, rfl, e⟩, if_pos ⟨rfl, rfl, e⟩]
      · rw [if_neg (fun q => e q.2.2), if_neg (fun q => e q.2.2)]; exact o2
    · show (if 60 * s ≤ 60 * t + j ∧ 60 * t + j < 60 * s + 60 then 0 else h 48 0 (60 * t + j)) = (if 33 = 33 ∧ t = s then (fun _ => 0) else h 33 t) j
      by_cases e : t = s
      · rw [if_pos (by omega), if_pos ⟨rfl, e⟩]
      · rw [if_neg (by omega), if_neg (fun q => e q.2)]; exact o3 j hj
/-- write -/
theorem jI_write {h : fwH} (I : jI h) {s i : Nat} {v : Int} (hs : s < 4) (hi : i < 60) (hv : -9223372036854775808 ≤ v ∧ v < 9223372036854775808) : jI (fwUp (fwUp h 33 s i (mCut v (h 34 0 s))) 48 0 (60 * s + i) (mdCut v (h 47 0 s))) := by
  have l33 : isSl 33 := by unfold isSl; omega
  have l48 : isSl 48 := by unfold isSl; omega
  have S := jI_S I
  have O : sOk h := I.1.2.2.2.2.2.2.2.2.2.1
  have ec : mdCut v (h 47 0 s) = mCut v (h 34 0 s) := by rw [(S s hs).2.1]; exact cut_eq hv (by have := (O s hs).2.1; omega)
  have hr := mCut_rng (w := h 34 0 s) hv
  rw [ec]
  generalize mCut v (h 34 0 s) = u at hr ⊢
  refine jI_sl I (ns_tr (fwUp_ns l33) (fwUp_ns l48)) ?_ ?_
  · intro t ht
    obtain ⟨o1, o2, o3⟩ := O t ht
    refine ⟨o1, o2, fun j hj => ?_⟩
    have := o3 j hj
    show -9223372036854775808 ≤ (if 33 = 33 ∧ t = s ∧ j = i then u else h 33 t j) ∧ (if 33 = 33 ∧ t = s ∧ j = i then u else h 33 t j) < 9223372036854775808
    split <;> omega
  · intro t ht
    obtain ⟨o1, o2, o3⟩ := S t ht
    refine ⟨o1, o2, fun j hj => ?_⟩
    show (if 48 = 48 ∧ 0 = 0 ∧ 60 * t + j = 60 * s + i then u else h 48 0 (60 * t + j)) = (if 33 = 33 ∧ t = s ∧ j = i then u else h 33 t j)
    by_cases e : t = s ∧ j = i
    · rw [if_pos ⟨rfl, rfl, by omega⟩, if_pos ⟨rfl, e⟩]
    · rw [if_neg (fun q => e (by omega)), if_neg (fun q => e q.2)]; exact o3 j hj
/-- paste -/
theorem jI_paste {h : fwH} (I : jI h) {s t i k m : Nat} (F : Nat → Int) (hs : s < 4) (ht : t < 4) (hi : i + m ≤ 60) (hk : k + m ≤ 60) : jI (fwUc (fwUc (fwUc h 33 t (va_cpy (h 33 s) (h 33 t) i k m)) 49 0 F) 48 0 (psr (h 48 0) (60 * s + i) (60 * t + k) m)) := by
  have l33 : isSl 33 := by unfold isSl; omega
  have l48 : isSl 48 := by unfold isSl; omega
  have l49 : isSl 49 := by unfold isSl; omega
  have S := jI_S I
  have O : sOk h := I.1.2.2.2.2.2.2.2.2.2.1
  refine jI_sl I (ns_tr (ns_tr (fwUc_ns l33) (fwUc_ns l49)) (fwUc_ns l48)) ?_ ?_
  · intro q hq
    obtain ⟨o1, o2, o3⟩ := O q hq
    refine ⟨o1, o2, fun j hj => ?_⟩
    show -9223372036854775808 ≤ (if 33 = 33 ∧ q = t then va_cpy (h 33 s) (h 33 t) i k m else h 33 q) j ∧ (if 33 = 33 ∧ q = t then va_cpy (h 33 s) (h 33 t) i k m else h 33 q) j < 9223372036854775808
    by_cases e : q = t
    · rw [if_pos ⟨rfl, e⟩]
      unfold va_cpy
      split
      · exact (O s hs).2.2 _ (by omega)
      · exact (O t ht).2.2 j hj
    · rw [if_neg (fun z => e z.2)]
      exact o3 j hj
  · intro q hq
    obtain ⟨o1, o2, o3⟩ := S q hq
    refine ⟨o1, o2, fun j hj => ?_⟩
    show psr (h 48 0) (60 * s + i) (60 * t + k) m (60 * q + j) = (if 33 = 33 ∧ q = t then va_cpy (h 33 s) (h 33 t) i k m else h 33 q) j
    by_cases e : q = t
    · subst e
      rw [if_pos ⟨rfl, rfl⟩]
      unfold psr va_cpy
      by_cases z : k ≤ j ∧ j < k + m
      · rw [if_pos (by omega), if_pos z, show 60 * s + i + (60 * q + j - (60 * q + k)) = 60 * s + (i + (j - k)) by omega]
        exact (S s hs).2.2 _ (by omega)
      · rw [if_neg (by omega), if_neg z]
        exact o3 j hj
    · rw [if_neg (fun z => e z.2)]
      unfold psr
      rw [if_neg (by omega)]
      exact o3 j hj

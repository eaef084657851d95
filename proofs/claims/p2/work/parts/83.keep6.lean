theorem bkN_pic {h : fwH} (I : jI h) : ∀ i : Nat, i ≤ (h 3 0 3).toNat → mPic (mBkN h i 3 0) (mBkN h i 4 0) (mBkN h i 5 0) (mBkN h i 17 0) (mBkN h i 18 0) (mBkN h i 21 0) (fwFu (h 36 0) 8 (h 3 0 3 - (i : Int))) ∧ ∀ a b, ¬ ((a = 3 ∨ a = 17) ∧ b = 0) → mBkN h i a b = h a b := by
  intro i
  induction i with
  | zero =>
    intro _
    have e8 : fwFu (h 36 0) 8 (h 3 0 3 - ((0 : Nat) : Int)) = h 36 0 := fwFu_same _ _ (by have := I.2.1.2.2.1.2.2.2.2.2.2.2.2.1; omega)
    rw [e8]
    exact ⟨I.2.1, fun _ _ _ => rfl⟩
  | succ i ih =>
    intro hi
    obtain ⟨p, f⟩ := ih (by omega)
    have h3 := mBkN_3 h i
    have p2 := mPic_undo p (by omega)
    rw [fwFu_fu, h3, show h 3 0 3 - (i : Int) - 1 = h 3 0 3 - ((i + 1 : Nat) : Int) by omega] at p2
    have e : mBkN h (i + 1) = fwUc (fwUc (mBkN h i) 3 0 (fwFu (mBkN h i 3 0) 3 (h 3 0 3 - ((i + 1 : Nat) : Int)))) 17 0 (fwFu (mBkN h i 17 0) (mBackC (mBkN h i 21 0 (h 3 0 3 - ((i + 1 : Nat) : Int)).toNat)).toNat (mBkN h i 17 0 (mBackC (mBkN h i 21 0 (h 3 0 3 - ((i + 1 : Nat) : Int)).toNat)).toNat + mBackD (mBkN h i 21 0 (h 3 0 3 - ((i + 1 : Nat) : Int)).toNat))) := by
      rw [mBkN]
      unfold mBack
      rw [fwUp_fu, h3, show h 3 0 3 - (i : Int) - 1 = h 3 0 3 - ((i + 1 : Nat) : Int) by omega]
    rw [e]
    refine ⟨p2, fun a b n => ?_⟩
    rw [fwUc_ne (fun z => n ⟨Or.inr z.1, z.2⟩), fwUc_ne (fun z => n ⟨Or.inl z.1, z.2⟩)]
    exact f a b n
theorem jI_anew {h : fwH} (I : jI h) : jI (fwUp (mBkN h (h 3 0 3).toNat) 36 0 8 0) := by
  have h9 := I.1.2.2.2.2.2.2.2.2.1
  obtain ⟨p, f⟩ := bkN_pic I (h 3 0 3).toNat (Nat.le_refl _)
  rw [show h 3 0 3 - (((h 3 0 3).toNat : Nat) : Int) = 0 by omega] at p
  rw [fwUp_fu]
  refine jI_mt I (fun a b n1 n2 n3 => ?_) ?_
  · rw [fwUc_ne (fun z => n2 z.1)]
    exact f a b (fun z => n1 ⟨by rcases z.1 with q | q; exact Or.inl q; exact Or.inr (Or.inr (Or.inr (Or.inl q))), z.2⟩)
  · have e36 : mBkN h (h 3 0 3).toNat 36 0 = h 36 0 := f 36 0 (by omega)
    rw [e36]
    exact p
theorem anew_ok {h : fwH} (I : jI h) : ∀ i : Nat, i < (h 3 0 3).toNat → gOk (mBkN h i) 0 ∧ bkV (mBkN h i) := by
  intro i hi
  obtain ⟨p, f⟩ := bkN_pic I i (by omega)
  refine ⟨?_, jI_bkV p⟩
  obtain ⟨⟨a1, a2, a3, a4, a5, a6, a7, -⟩, -⟩ := p
  exact ⟨a3, a4, a5, a6, fun c hc => by have := a7 c hc; omega⟩
/-- a picture counts below 135 alone -/
theorem mPic_W {r3 r4 r5 r17 r18 r21 W W' : Nat → Int} (m : mPic r3 r4 r5 r17 r18 r21 W) (w : ∀ s : Nat, s < 135 → W' s = W s) : mPic r3 r4 r5 r17 r18 r21 W' := by
  obtain ⟨a, b, ⟨c1, c2, c3, c4, c5, c6, c7, c8, c9, c10, c11, c12⟩, ⟨d1, d2, d3⟩, e⟩ := m
  have a3 := a.2.2.1
  have a12 := a.2.2.2.2.2.2.2.2.2.2.2
  have cg : ∀ j : Nat, (j : Int) ≤ r3 3 → eq10 (rep W' j) (rep W j) := fun j hj => rep_cg (w 0 (by omega)) (w 4 (by omega)) (w 2 (by omega)) (fun c hc => w _ (by omega)) (by rw [c1]; exact a3) j (fun i hi => ⟨w _ (by omega), by have := d2 i (by omega); rw [c1]; exact this⟩)
  refine ⟨a, b, ⟨(w 0 (by omega)).trans c1, (w 1 (by omega)).trans c2, (w 2 (by omega)).trans c3, (w 3 (by omega)).trans c4, (w 4 (by omega)).trans c5, (w 5 (by omega)).trans c6, (w 6 (by omega)).trans c7, (w 7 (by omega)).trans c8, (w 8 (by omega)).trans c9, fun j hj => (w _ (by omega)).trans (c10 j hj), c11, c12⟩, ⟨fun i hi c hc => ?_, fun i hi => ?_, fun c hc => ?_⟩, fun i hi => ?_⟩
  · rw [cg i hi c hc]
    exact d1 i hi c hc
  · rw [w _ (by omega)]
    exact d2 i hi
  · rw [cg _ (by omega) c (by omega)]
    exact d3 c hc
  · obtain ⟨f1, f2, f3, f4⟩ := e i hi
    refine ⟨f1, f2, f3, fun z hz => ?_⟩
    rw [cg i (by omega) z (by omega), cg (i + 1) (by omega) z (by omega)]
    exact f4 z hz
theorem jI_back {h : fwH} (I : jI h) {k : Nat} (hk : k < 3) (h1 : h 23 0 k ≠ 0) : jI (fwUc (mtCopy h 0 (2 + k)) 36 0 (fwFl (fun s => h 37 0 (135 * k + s)) (h 36 0) 135)) := by
  have i4 := I.2.2.2.1 k hk
  have m := i4.2.2 (by omega)
  refine jI_mt I (fun a b n1 n2 n3 => ?_) (mPic_W m (fun s hs => if_pos hs))
  unfold mtCopy
  rw [fwUc_ne (fun z => n2 z.1), fwUc_ne (fun z => n1 ⟨Or.inr (Or.inr (Or.inr (Or.inr (Or.inr z.1)))), z.2⟩), fwUc_ne (fun z => n1 ⟨Or.inr (Or.inr (Or.inr (Or.inr (Or.inl z.1)))), z.2⟩), fwUc_ne (fun z => n1 ⟨Or.inr (Or.inr (Or.inr (Or.inl z.1))), z.2⟩), fwUc_ne (fun z => n1 ⟨Or.inr (Or.inr (Or.inl z.1)), z.2⟩), fwUc_ne (fun z => n1 ⟨Or.inr (Or.inl z.1), z.2⟩), fwUc_ne (fun z => n1 ⟨Or.inl z.1, z.2⟩)]

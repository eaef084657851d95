theorem mTop_ch {H H' : Nat → Int} {n : Nat} (e : ∀ c : Nat, c < n → H c = H' c) (ls : Int) : ∀ u : Nat, u ≤ n → mTop H ls u = mTop H' ls u := by
  intro u
  induction u with
  | zero => intro _; rfl
  | succ u ih =>
    intro hu
    have h1 := ih (by omega)
    have h2 := mTop_rng H' ls u
    rcases Nat.eq_zero_or_pos u with q | q
    · subst q
      rw [mTop, mTop]
      rfl
    · have e2 : H (mTop H' ls u).toNat = H' (mTop H' ls u).toNat := e _ (by omega)
      rw [mTop, mTop, h1, e2, e u (by omega)]
theorem hOf_ch {H H' : Nat → Int} {n : Int} (e : hiR n H H') (x : Int) : hOf n H x = hOf n H' x := by
  unfold hOf
  split
  · exact e _ (by omega)
  · rfl
theorem mDesc_ch {H H' : Nat → Int} {n : Int} (e : hiR n H H') (sl : Int) : ∀ (f : Nat) (x : Int), mDesc n H sl f x = mDesc n H' sl f x := by
  have dn : ∀ x : Int, mDown n H x sl = mDown n H' x sl := fun x => by
    unfold mDown
    simp only [hOf_ch e]
  intro f
  induction f with
  | zero => intro x; rfl
  | succ f ih => intro x; rw [mDesc, mDesc, dn, ih]
theorem mStay_ch {H H' : Nat → Int} {n : Int} (e : hiR n H H') (rs x : Int) : mStay n H rs x = mStay n H' rs x := by
  unfold mStay
  rw [mDesc_ch e, hOf_ch e]
theorem jI_take {h : fwH} (I : jI h) (A : Nat → Int) (hm : 0 < h 3 0 6) (h60 : h 3 0 3 < 60) (hx : mMax (h 17 0) (h 4 0 1).toNat ≠ 0) : jI (fwUp (fwUp (fwUc (actH h (mTop (h 17 0) (h 4 0 4) (h 4 0 1).toNat) (-1)) 42 0 A) 36 0 (75 + (h 3 0 3).toNat) 0) 36 0 8 (h 3 0 3 + 1)) := by
  have m := I.2.1
  obtain ⟨⟨a1, a2, a3, a4, a5, a6, a7, a8, a9, a10, a11, a12⟩, b, ⟨c1, c2, c3, c4, c5, c6, c7, c8, c9, c10, c11, c12⟩, ⟨d1, d2, d3⟩, e⟩ := m
  have n3 := a8 hm
  have dk := d1 (h 3 0 3).toNat (by omega)
  have tt : mTop (rep (h 36 0) (h 3 0 3).toNat) (h 4 0 4) (h 4 0 1).toNat = mTop (h 17 0) (h 4 0 4) (h 4 0 1).toNat := mTop_ch (n := (h 4 0 1).toNat) (fun c hc => d3 c (by omega)) _ _ (Nat.le_refl _)
  have tr := mTop_r2 (h 17 0) (h 4 0 4) (h 4 0 1).toNat (by omega)
  have mx := mMax_top (H := h 17 0) (ls := h 4 0 4) (h 4 0 1).toNat (by omega) (fun c hc => (a7 c (by omega)).1)
  have hl : stp (h 36 0 0) (h 36 0 4) (h 36 0 2) (rep (h 36 0) (h 3 0 3).toNat) 0 = mLow (h 4 0 1).toNat (rep (h 36 0) (h 3 0 3).toNat) (h 4 0 4) := by
    unfold stp
    rw [if_pos rfl, c1, c5]
  refine jI_act I h60 hm A (by omega) (Or.inr rfl) ⟨by omega, by omega⟩ (fun c hc => ?_) (fun c hc => ?_)
  · rw [hl]
    unfold mLow
    rw [tt, d3 _ (by omega), if_pos ⟨by omega, by rw [← mx]; exact hx⟩]
    unfold fwFu
    split
    · rename_i q; rw [q, d3 _ (by omega)]
    · rfl
  · rw [hl]
    exact mLow_rng (by omega) dk c hc
theorem jI_heap {h : fwH} (I : jI h) (A : Nat → Int) {x : Int} (hx : 0 ≤ x ∧ x < h 4 0 1) (h60 : h 3 0 3 < 60) (hs : mStay (h 4 0 1) (h 17 0) (h 4 0 3) x ≠ -1) : jI (fwUp (fwUp (fwUc (actH h (mStay (h 4 0 1) (h 17 0) (h 4 0 3) x) 1) 42 0 A) 36 0 (75 + (h 3 0 3).toNat) (1 + x)) 36 0 8 (h 3 0 3 + 1)) := by
  have m := I.2.1
  obtain ⟨⟨a1, a2, a3, a4, a5, a6, a7, a8, a9, a10, a11, a12⟩, b, ⟨c1, c2, c3, c4, c5, c6, c7, c8, c9, c10, c11, c12⟩, ⟨d1, d2, d3⟩, e⟩ := m
  have hm : 0 < h 3 0 6 := by
    rcases Int.lt_or_le 0 (h 3 0 6) with q | q
    · exact q
    · have := (a9 (by omega)).1
      omega
  have dk := d1 (h 3 0 3).toNat (by omega)
  have tt : mStay (h 4 0 1) (rep (h 36 0) (h 3 0 3).toNat) (h 4 0 3) x = mStay (h 4 0 1) (h 17 0) (h 4 0 3) x := mStay_ch d3 _ _
  have tr := mStay_rng (h 17 0) (rs := h 4 0 3) (n := h 4 0 1) (x := x) a3 hx
  have hl : stp (h 36 0 0) (h 36 0 4) (h 36 0 2) (rep (h 36 0) (h 3 0 3).toNat) (1 + x) = mRs (rep (h 36 0) (h 3 0 3).toNat) (mStay (h 4 0 1) (rep (h 36 0) (h 3 0 3).toNat) (h 4 0 3) x) := by
    unfold stp
    rw [if_neg (by omega), c1, c3, show 1 + x - 1 = x by omega]
  refine jI_act I h60 hm A (by omega) (Or.inl rfl) ⟨by omega, by omega⟩ (fun c hc => ?_) (fun c hc => ?_)
  · rw [hl, tt]
    unfold mRs
    rw [if_neg hs]
    unfold fwFu
    split
    · rename_i q; rw [q]
    · rfl
  · rw [hl]
    exact mRs_rng a3 hx (by omega) dk c hc
/-- the last act taken back -/
theorem mPic_undo {r3 r4 r5 r17 r18 r21 W : Nat → Int} (m : mPic r3 r4 r5 r17 r18 r21 W) (hp : 0 < r3 3) : mPic (fwFu r3 3 (r3 3 - 1)) r4 r5 (fwFu r17 (mBackC (r21 (r3 3 - 1).toNat)).toNat (r17 (mBackC (r21 (r3 3 - 1).toNat)).toNat + mBackD (r21 (r3 3 - 1).toNat))) r18 r21 (fwFu W 8 (r3 3 - 1)) := by
  obtain ⟨⟨a1, a2, a3, a4, a5, a6, a7, a8, a9, a10, a11, a12⟩, b, ⟨c1, c2, c3, c4, c5, c6, c7, c8, c9, c10, c11, c12⟩, ⟨d1, d2, d3⟩, e⟩ := m
  obtain ⟨k, hk⟩ : ∃ k : Nat, r3 3 = (k : Int) + 1 := ⟨(r3 3 - 1).toNat, by omega⟩
  have hk0 : (r3 3 - 1).toNat = k := by omega
  have hk1 : (r3 3).toNat = k + 1 := by omega
  rw [hk0]
  rw [hk1] at d3
  obtain ⟨e1, e2, e3, e4⟩ := e k (by omega)
  generalize r21 k = a at e1 e2 e3 e4 ⊢
  generalize hW' : fwFu W 8 (r3 3 - 1) = W'
  have rd : ∀ s : Nat, s ≠ 8 → W' s = W s := fun s h1 => by rw [← hW', fwFu_ne h1]
  have w8 : W' 8 = r3 3 - 1 := by rw [← hW', fwFu_at]
  have cg : ∀ j : Nat, j ≤ k + 1 → eq10 (rep W' j) (rep W j) := fun j hj => rep_cg (rd 0 (by omega)) (rd 4 (by omega)) (rd 2 (by omega)) (fun c hc => rd _ (by omega)) (by rw [c1]; exact a3) j (fun i hi => ⟨rd _ (by omega), by have := d2 i (by omega); rw [c1]; exact this⟩)
  have r17e : ∀ c : Nat, (c : Int) < r4 1 → fwFu r17 (mBackC a).toNat (r17 (mBackC a).toNat + mBackD a) c = rep W k c := fun c hc => by
    rw [e4 c hc, d3 c hc]
    unfold fwFu
    split
    · rename_i q; rw [q]
    · rfl
  refine ⟨⟨a1, a2, a3, a4, a5, a6, fun c hc => ?_, a8, fun z => ?_, a10, a11, ?_⟩, b, ⟨(rd 0 (by omega)).trans c1, (rd 1 (by omega)).trans c2, (rd 2 (by omega)).trans c3, (rd 3 (by omega)).trans c4, (rd 4 (by omega)).trans c5, (rd 5 (by omega)).trans c6, (rd 6 (by omega)).trans c7, (rd 7 (by omega)).trans c8, w8, fun j hj => (rd (19 + j) (by omega)).trans (c10 j hj), c11, c12⟩, ⟨fun i hi c hc => ?_, fun i hi => ?_, ?_⟩, fun i hi => ?_⟩
  · by_cases q : c = (mBackC a).toNat
    · rw [r17e c (by omega)]
      exact d1 k (by omega) c hc
    · rw [fwFu_ne q]
      exact a7 c hc
  · have z2 : r3 6 = 0 := z
    have := (a9 z2).2.2
    omega
  · show 0 ≤ r3 3 - 1 ∧ r3 3 - 1 ≤ 60
    omega
  · have hi2 : (i : Int) ≤ r3 3 - 1 := hi
    rw [cg i (by omega) c hc]
    exact d1 i (by omega) c hc
  · have hi2 : (i : Int) < r3 3 - 1 := hi
    rw [rd _ (by omega)]
    exact d2 i (by omega)
  · show hiR (r4 1) (rep W' (r3 3 - 1).toNat) _
    rw [hk0]
    intro c hc
    rw [r17e c hc]
    exact cg k (by omega) c (by omega)
  · have hi2 : (i : Int) < r3 3 - 1 := hi
    obtain ⟨f1, f2, f3, f4⟩ := e i (by omega)
    refine ⟨f1, f2, f3, fun z hz => ?_⟩
    rw [cg i (by omega) z (by omega), cg (i + 1) (by omega) z (by omega)]
    exact f4 z hz
theorem jI_undo {h : fwH} (I : jI h) (hp : 0 < h 3 0 3) : jI (fwUp (mBack h) 36 0 8 (h 3 0 3 - 1)) := by
  have mp := mPic_undo I.2.1 hp
  unfold mBack
  rw [fwUp_fu h 3 0 3 _, fwUp_fu (fwUc _ 17 0 _) 36 0 8 _]
  refine jI_mt I (fun a b n1 n2 n3 => ?_) mp
  rw [fwUc_ne (fun z => n2 z.1), fwUc_ne (fun z => n1 ⟨Or.inr (Or.inr (Or.inr (Or.inl z.1))), z.2⟩), fwUc_ne (fun z => n1 ⟨Or.inl z.1, z.2⟩)]
theorem jI_bkV {r3 r4 r5 r17 r18 r21 W : Nat → Int} (m : mPic r3 r4 r5 r17 r18 r21 W) : 0 < r3 3 → ((-20 ≤ r21 (r3 3 - 1).toNat ∧ r21 (r3 3 - 1).toNat ≤ 20) ∧ (r21 (r3 3 - 1).toNat < 0 → 0 ≤ -(r21 (r3 3 - 1).toNat) - 1 ∧ -(r21 (r3 3 - 1).toNat) - 1 < r4 1) ∧ (0 ≤ r21 (r3 3 - 1).toNat → 0 ≤ r21 (r3 3 - 1).toNat - 1 ∧ r21 (r3 3 - 1).toNat - 1 < r4 1)) := by
  intro hp
  obtain ⟨e1, e2, e3, -⟩ := m.2.2.2.2 (r3 3 - 1).toNat (by omega)
  unfold mBackC at e2
  refine ⟨e1, fun q => ?_, fun q => ?_⟩
  · rw [if_pos q] at e2; exact e2
  · rw [if_neg (by omega)] at e2; exact e2

theorem mPic_tell {r3 r4 r5 r17 r18 r21 W : Nat → Int} (m : mPic r3 r4 r5 r17 r18 r21 W) {x : Int} (h3 : r3 3 = 0) (hx : 1 ≤ x ∧ x ≤ 999) : mPic (fwFu r3 4 x) r4 r5 r17 r18 r21 (fwFu W 3 x) := by
  obtain ⟨⟨a1, a2, a3, a4, a5, a6, a7, a8, a9, a10, a11, a12⟩, b, ⟨c1, c2, c3, c4, c5, c6, c7, c8, c9, c10, c11, c12⟩, ⟨d1, d2, d3⟩, e⟩ := m
  have r0 : ∀ c : Nat, rep (fwFu W 3 x) 0 c = rep W 0 c := fun c => fwFu_ne (show 9 + c ≠ 3 by omega)
  refine ⟨⟨a1, a2, a3, a4, a5, a6, a7, a8, a9, ⟨by show 0 ≤ x; omega, hx.2⟩, a11, a12⟩, b, ⟨c1, c2, c3, rfl, c5, c6, c7, c8, c9, fun j hj => ?_, c11, fun h => ⟨(c12 h).1, hx.1⟩⟩, ⟨fun i hi c hc => ?_, fun i hi => ?_, ?_⟩, fun i hi => ?_⟩
  · rw [fwFu_ne (by omega)]
    exact c10 j hj
  · have hi2 : (i : Int) ≤ r3 3 := hi
    have e0 : i = 0 := by omega
    subst e0
    rw [r0]
    exact d1 0 (by omega) c hc
  · have hi2 : (i : Int) < r3 3 := hi
    omega
  · show hiR (r4 1) (rep (fwFu W 3 x) (r3 3).toNat) r17
    rw [h3] at d3 ⊢
    intro c hc
    exact (r0 c).trans (d3 c hc)
  · have hi2 : (i : Int) < r3 3 := hi
    omega
theorem jI_tell {h : fwH} (I : jI h) {x : Int} (h3 : ¬ 0 < h 3 0 3) (hx : 1 ≤ x ∧ x ≤ 999) : jI (fwUp (fwUp h 3 0 4 x) 36 0 3 x) := by
  have h0 : h 3 0 3 = 0 := by have := I.1.2.2.2.2.2.2.2.2.1; omega
  rw [fwUp_fu h 3 0 4 x, fwUp_fu _ 36 0 3 x]
  refine jI_mt I (fun a b n1 n2 n3 => ?_) (mPic_tell I.2.1 h0 hx)
  rw [fwUc_ne (fun z => n2 z.1), fwUc_ne (fun z => n1 ⟨Or.inl z.1, z.2⟩)]
theorem mPic_likes {r3 r4 r5 r17 r18 r21 W : Nat → Int} (m : mPic r3 r4 r5 r17 r18 r21 W) {f y : Nat} {z : Int} (h3 : r3 3 = 0) (hf : f < 8) (hy : y ≤ 2) (hz : 0 ≤ z ∧ z ≤ 9) : mPic r3 r4 r5 r17 (fwFu r18 (7 * f + (2 + y)) z) r21 (fwFu W (19 + (7 * f + (2 + y))) z) := by
  obtain ⟨a, b, ⟨c1, c2, c3, c4, c5, c6, c7, c8, c9, c10, c11, c12⟩, ⟨d1, d2, d3⟩, e⟩ := m
  have rd : ∀ s : Nat, s < 19 → fwFu W (19 + (7 * f + (2 + y))) z s = W s := fun s hs => fwFu_ne (by omega)
  have r0 : ∀ c : Nat, c < 10 → rep (fwFu W (19 + (7 * f + (2 + y))) z) 0 c = rep W 0 c := fun c hc => rd (9 + c) (by omega)
  have sp : ∀ (s : Nat) (u : Int), 9 ≤ u → (0 ≤ r18 s ∧ r18 s ≤ u) → (0 ≤ fwFu r18 (7 * f + (2 + y)) z s ∧ fwFu r18 (7 * f + (2 + y)) z s ≤ u) := fun s u hu h => by unfold fwFu; split <;> omega
  refine ⟨a, fun g hg => ?_, ⟨(rd 0 (by omega)).trans c1, (rd 1 (by omega)).trans c2, (rd 2 (by omega)).trans c3, (rd 3 (by omega)).trans c4, (rd 4 (by omega)).trans c5, (rd 5 (by omega)).trans c6, (rd 6 (by omega)).trans c7, (rd 7 (by omega)).trans c8, (rd 8 (by omega)).trans c9, fun j hj => ?_, fun g hg => ?_, c12⟩, ⟨fun i hi c hc => ?_, fun i hi => ?_, ?_⟩, fun i hi => ?_⟩
  · obtain ⟨b1, b2, b3, b4, b5, b6, b7⟩ := b g hg
    refine ⟨?_, ?_, sp _ 9 (by omega) b3, sp _ 9 (by omega) b4, sp _ 9 (by omega) b5, ?_, ?_⟩
    · rw [fwFu_ne (by omega)]; exact b1
    · rw [fwFu_ne (by omega)]; exact b2
    · rw [fwFu_ne (by omega)]; exact b6
    · rw [fwFu_ne (by omega)]; exact b7
  · unfold fwFu
    by_cases q : j = 7 * f + (2 + y)
    · rw [if_pos (by omega), if_pos q]
    · rw [if_neg (by omega), if_neg q]
      exact c10 j hj
  · rw [fwFu_ne (by omega)]
    exact c11 g hg
  · have e0 : i = 0 := by omega
    subst e0
    rw [r0 c hc]
    exact d1 0 (by omega) c hc
  · omega
  · rw [h3] at d3 ⊢
    intro c hc
    exact (r0 c (by have := a.2.2.1.2; omega)).trans (d3 c hc)
  · omega
theorem jI_likes {h : fwH} (I : jI h) {f y : Nat} {z : Int} (h3 : ¬ 0 < h 3 0 3) (hf : f < 8) (hy : y ≤ 2) (hz : 0 ≤ z ∧ z ≤ 9) : jI (fwUp (fwUp h 18 0 (7 * f + (2 + y)) z) 36 0 (19 + (7 * f + (2 + y))) z) := by
  have h0 : h 3 0 3 = 0 := by have := I.1.2.2.2.2.2.2.2.2.1; omega
  rw [fwUp_fu h 18 0 _ z, fwUp_fu _ 36 0 _ z]
  refine jI_mt I (fun a b n1 n2 n3 => ?_) (mPic_likes I.2.1 h0 hf hy hz)
  rw [fwUc_ne (fun z => n2 z.1), fwUc_ne (fun z => n1 ⟨Or.inr (Or.inr (Or.inr (Or.inr (Or.inl z.1)))), z.2⟩)]

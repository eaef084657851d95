theorem mPic_act {r3 r4 r5 r17 r18 r21 W : Nat → Int} (m : mPic r3 r4 r5 r17 r18 r21 W) (h60 : r3 3 < 60) (hm : 0 < r3 6) {T : Nat} {y av : Int} (hT : (T : Int) < r4 1) (hy : y = 1 ∨ y = -1) (hav : 0 ≤ av ∧ av ≤ r4 1) (hs : ∀ c : Nat, c < 10 → stp (W 0) (W 4) (W 2) (rep W (r3 3).toNat) av c = if c = T then rep W (r3 3).toNat c + y else rep W (r3 3).toNat c) (hb : ∀ c : Nat, c < 10 → 0 ≤ stp (W 0) (W 4) (W 2) (rep W (r3 3).toNat) av c ∧ stp (W 0) (W 4) (W 2) (rep W (r3 3).toNat) av c ≤ 99) : mPic (fwFu r3 3 (r3 3 + 1)) r4 r5 (fwFu r17 T (r17 T + y)) r18 (fwFu r21 (r3 3).toNat (y * ((T : Int) + 1))) (fwFu (fwFu W (75 + (r3 3).toNat) av) 8 (r3 3 + 1)) := by
  obtain ⟨⟨a1, a2, a3, a4, a5, a6, a7, a8, a9, a10, a11, a12⟩, b, ⟨c1, c2, c3, c4, c5, c6, c7, c8, c9, c10, c11, c12⟩, ⟨d1, d2, d3⟩, e⟩ := m
  obtain ⟨k, hk⟩ : ∃ k : Nat, r3 3 = (k : Int) := ⟨(r3 3).toNat, by omega⟩
  have hk0 : (r3 3).toNat = k := by omega
  rw [hk0] at hs hb d3 ⊢
  generalize hW' : fwFu (fwFu W (75 + k) av) 8 (r3 3 + 1) = W'
  have rd : ∀ s : Nat, s ≠ 8 → s ≠ 75 + k → W' s = W s := fun s h1 h2 => by rw [← hW', fwFu_ne h1, fwFu_ne h2]
  have w8 : W' 8 = r3 3 + 1 := by rw [← hW', fwFu_at]
  have wk : W' (75 + k) = av := by rw [← hW', fwFu_ne (by omega), fwFu_at]
  have cg : ∀ j : Nat, j ≤ k → eq10 (rep W' j) (rep W j) := fun j hj => rep_cg (rd 0 (by omega) (by omega)) (rd 4 (by omega) (by omega)) (rd 2 (by omega) (by omega)) (fun c hc => rd _ (by omega) (by omega)) (by rw [c1]; exact a3) j (fun i hi => ⟨rd _ (by omega) (by omega), by have := d2 i (by omega); rw [c1]; exact this⟩)
  have ck : eq10 (rep W' (k + 1)) (stp (W 0) (W 4) (W 2) (rep W k) av) := by
    rw [rep, rd 0 (by omega) (by omega), rd 4 (by omega) (by omega), rd 2 (by omega) (by omega), wk]
    exact stp_cg (cg k (Nat.le_refl _)) (by rw [c1]; exact a3) _ _ _ (by rw [c1]; exact hav)
  have hT2 := hb T (by omega)
  rw [hs T (by omega), if_pos rfl, d3 T hT] at hT2
  refine ⟨⟨a1, a2, a3, a4, a5, a6, fun c hc => ?_, a8, fun z => ?_, a10, a11, ?_⟩, b, ⟨(rd 0 (by omega) (by omega)).trans c1, (rd 1 (by omega) (by omega)).trans c2, (rd 2 (by omega) (by omega)).trans c3, (rd 3 (by omega) (by omega)).trans c4, (rd 4 (by omega) (by omega)).trans c5, (rd 5 (by omega) (by omega)).trans c6, (rd 6 (by omega) (by omega)).trans c7, (rd 7 (by omega) (by omega)).trans c8, w8, fun j hj => (rd (19 + j) (by omega) (by omega)).trans (c10 j hj), c11, c12⟩, ⟨fun i hi c hc => ?_, fun i hi => ?_, ?_⟩, fun i hi => ?_⟩
  · have := a7 c hc
    unfold fwFu
    split
    · exact hT2
    · exact this
  · have z2 : r3 6 = 0 := z
    omega
  · show 0 ≤ r3 3 + 1 ∧ r3 3 + 1 ≤ 60
    omega
  · have hi2 : (i : Int) ≤ r3 3 + 1 := hi
    rcases Nat.lt_or_ge k i with q | q
    · rw [show i = k + 1 by omega, ck c hc]
      exact hb c hc
    · rw [cg i q c hc]
      exact d1 i (by omega) c hc
  · have hi2 : (i : Int) < r3 3 + 1 := hi
    rcases Nat.lt_or_ge i k with q | q
    · rw [rd _ (by omega) (by omega)]
      exact d2 i (by omega)
    · rw [show i = k by omega, wk]
      exact hav
  · show hiR (r4 1) (rep W' (r3 3 + 1).toNat) (fwFu r17 T (r17 T + y))
    intro c hc
    rw [show (r3 3 + 1).toNat = k + 1 by omega, ck c (by omega), hs c (by omega), d3 c hc]
    unfold fwFu
    split
    · rename_i q; rw [q]
    · rfl
  · have hi2 : (i : Int) < r3 3 + 1 := hi
    rcases Nat.lt_or_ge i k with q | q
    · obtain ⟨e1, e2, e3, e4⟩ := e i (by omega)
      rw [fwFu_ne (by omega)]
      refine ⟨e1, e2, e3, fun z hz => ?_⟩
      rw [cg i (by omega) z (by omega), cg (i + 1) (by omega) z (by omega)]
      exact e4 z hz
    · rw [show i = k by omega, fwFu_at]
      have bc : mBackC (y * ((T : Int) + 1)) = (T : Int) := by
        unfold mBackC
        rcases hy with rfl | rfl
        · rw [if_neg (by omega)]; omega
        · rw [if_pos (by omega)]; omega
      have bd : mBackD (y * ((T : Int) + 1)) = -y := by
        unfold mBackD
        rcases hy with rfl | rfl
        · rw [if_neg (by omega)]
        · rw [if_pos (by omega)]; rfl
      refine ⟨by rcases hy with rfl | rfl <;> omega, by rw [bc]; omega, by rcases hy with rfl | rfl <;> omega, fun z hz => ?_⟩
      rw [bc, bd, Int.toNat_natCast, cg k (Nat.le_refl _) z (by omega), ck z (by omega), hs z (by omega)]
      split <;> omega
theorem jI_act {h : fwH} (I : jI h) (h60 : h 3 0 3 < 60) (hm : 0 < h 3 0 6) {x y av : Int} (A : Nat → Int) (hx : 0 ≤ x ∧ x < h 4 0 1) (hy : y = 1 ∨ y = -1) (hav : 0 ≤ av ∧ av ≤ h 4 0 1) (hs : ∀ c : Nat, c < 10 → stp (h 36 0 0) (h 36 0 4) (h 36 0 2) (rep (h 36 0) (h 3 0 3).toNat) av c = if c = x.toNat then rep (h 36 0) (h 3 0 3).toNat c + y else rep (h 36 0) (h 3 0 3).toNat c) (hb : ∀ c : Nat, c < 10 → 0 ≤ stp (h 36 0 0) (h 36 0 4) (h 36 0 2) (rep (h 36 0) (h 3 0 3).toNat) av c ∧ stp (h 36 0 0) (h 36 0 4) (h 36 0 2) (rep (h 36 0) (h 3 0 3).toNat) av c ≤ 99) : jI (fwUp (fwUp (fwUc (actH h x y) 42 0 A) 36 0 (75 + (h 3 0 3).toNat) av) 36 0 8 (h 3 0 3 + 1)) := by
  have mp := mPic_act I.2.1 h60 hm (T := x.toNat) (y := y) (av := av) (by omega) hy hav hs hb
  rw [show ((x.toNat : Nat) : Int) = x by omega] at mp
  unfold actH
  rw [fwUp_fu (fwUc h 17 0 _) 21 0 _ _, fwUp_fu (fwUc (fwUc h 17 0 _) 21 0 _) 3 0 _ _, fwUp_fu (fwUc _ 42 0 A) 36 0 _ _, fwUp_uc]
  refine jI_mt I (fun a b n1 n2 n3 => ?_) mp
  rw [fwUc_ne (fun z => n2 z.1), fwUc_ne (fun z => n3 z.1), fwUc_ne (fun z => n1 ⟨Or.inl z.1, z.2⟩), fwUc_ne (fun z => n1 ⟨Or.inr (Or.inr (Or.inr (Or.inr (Or.inr z.1)))), z.2⟩), fwUc_ne (fun z => n1 ⟨Or.inr (Or.inr (Or.inr (Or.inl z.1))), z.2⟩)]

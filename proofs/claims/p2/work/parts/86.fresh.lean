theorem z00 {k b : Nat} (n : k ≠ 2 ∧ k ≠ 12 ∧ k ≠ 35 ∧ k ≠ 46) : h00 k b = fun _ => 0 := by
  funext j
  exact if_neg (by omega)
theorem mPic_0 : mPic (fun _ => 0) (fun _ => 0) (fun _ => 0) (fun _ => 0) (fun _ => 0) (fun _ => 0) (fun _ => 0) := by
  have m := mPic_read (W := fun _ => 0) (H := fun _ => 0) (r21 := fun _ => 0) wL_init (by decide) ⟨fun c _ => ⟨Int.le_refl _, show (0 : Int) ≤ 40 by decide⟩, fun _ _ _ => rfl⟩
  have e3 : r3 (fun _ => 0) = fun _ => 0 := by funext s; simp [r3]
  have e4 : r4 (fun _ => 0) = fun _ => 0 := by funext s; simp [r4]
  have e5 : r5 (fun _ => 0) = fun _ => 0 := by funext s; simp [r5]
  rw [e3, e4, e5] at m
  exact m
/-- as the two constructors leave it -/
theorem jI_00 : jI h00 := by
  have m : mPic (h00 3 0) (h00 4 0) (h00 5 0) (h00 17 0) (h00 18 0) (h00 21 0) (h00 36 0) := by
    rw [z00 (k := 3) (by decide), z00 (k := 4) (by decide), z00 (k := 5) (by decide), z00 (k := 17) (by decide), z00 (k := 18) (by decide), z00 (k := 21) (by decide), z00 (k := 36) (by decide)]
    exact mPic_0
  refine ⟨cOk_of m (fun s hs => ?_) ⟨by decide, by decide⟩ ⟨rfl, by decide, by decide⟩, m, fun s hs => ⟨?_, ?_, fun j hj => ?_⟩, fun k hk => ⟨Or.inl ?_, ?_, fun z => ?_⟩, ⟨rfl, fun p hp => ?_, fun p hp => ?_⟩, ⟨rfl, rfl⟩, fun c hc => ?_⟩
  · have e35 : h00 35 0 s = -1 := if_pos (by omega)
    rw [e35, z00 (k := 34) (by decide), z00 (k := 33) (by decide)]
    exact ⟨by decide, by dsimp only; omega, fun j _ => by dsimp only; omega⟩
  · have e35 : h00 35 0 s = -1 := if_pos (by omega)
    have e46 : h00 46 0 s = -1 := if_pos (by omega)
    rw [e35, e46]
  · rw [z00 (k := 47) (by decide), z00 (k := 34) (by decide)]
  · rw [z00 (k := 48) (by decide), z00 (k := 33) (by decide)]
  · rw [z00 (k := 23) (by decide)]
  · rw [z00 (k := 23) (by decide), z00 (k := 38) (by decide)]
  · rw [z00 (k := 23) (by decide)] at z
    exact absurd (show (0 : Int) = 1 from z) (by decide)
  · rw [z00 (k := 39) (by decide), z00 (k := 13) (by decide)]
  · rw [z00 (k := 39) (by decide)]
    dsimp only; omega
  · rw [z00 (k := 17) (by decide)]
    dsimp only; omega

theorem mRs_hb {h : fwH} (J : cOk h) (x : Int) (hx : 0 ≤ x ∧ x < h 4 0 1) : hB (mRs (h 17 0) (mStay (h 4 0 1) (h 17 0) (h 4 0 3) x)) := fun c hc => by
  have := mRs_rng (H := h 17 0) (rs := h 4 0 3) (b := 99) J.2.2.1.1 hx (by omega) J.2.2.2.1 c hc
  omega
theorem mSpo_2 {h : fwH} (J : cOk h) : ∀ c : Nat, (c : Int) ≤ h 4 0 1 → ((mSpo h c).1 = -1 ∧ (mSpo h c).2 = 0) ∨ (0 ≤ (mSpo h c).1 ∧ 0 ≤ (mSpo h c).2 ∧ (mSpo h c).2 ≤ 300000) := by
  intro c hc
  have := mSpo_rng J.2.1 J.2.2.1 c hc
  induction c with
  | zero => exact Or.inl ⟨rfl, rfl⟩
  | succ c ih =>
    have h1 := mSpo_rng J.2.1 J.2.2.1 c (by omega)
    have h2 := ih (by omega) h1
    rw [mSpo] at this ⊢
    split
    · rename_i q
      rw [if_pos q] at this
      exact Or.inr ⟨by dsimp only; omega, this.2⟩
    · exact h2

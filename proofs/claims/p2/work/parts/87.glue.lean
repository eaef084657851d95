theorem jF_g {e g : fwH} (I : jI e) (a : scr e g) : jF e g := by
  unfold jF
  rw [a.1 36 0 rfl (by decide)]
  exact jI_F I
theorem jA_g {e g : fwH} (I : jI e) (a : scr e g) : jA e g := by
  unfold jA
  rw [a.1 36 0 rfl (by decide)]
  exact jI_A I
theorem jS_g {e g : fwH} (I : jI e) (a : scr e g) : jS e g := by
  unfold jS
  rw [a.1 46 0 rfl (by decide), a.1 47 0 rfl (by decide), a.1 48 0 rfl (by decide)]
  exact jI_S I
/-- the same for a heap that the class's act has made: the model's rows stand as they stood -/
theorem jF_h {e g : fwH} (I : jI e) (r : g 36 0 = e 36 0) : jF e g := by
  unfold jF
  rw [r]
  exact jI_F I
theorem jA_h {e g : fwH} (I : jI e) (r : g 36 0 = e 36 0) : jA e g := by
  unfold jA
  rw [r]
  exact jI_A I
theorem jI_h38 {e : fwH} (I : jI e) : ∀ k : Nat, k < 3 → e 38 0 k = 0 ∨ e 38 0 k = 1 := fun k hk => by
  have := I.2.2.2.1 k hk
  rw [this.2.1]
  exact this.1
theorem jI_h23 {e : fwH} (I : jI e) : ∀ k : Nat, k < 3 → e 23 0 k = 0 ∨ e 23 0 k = 1 := fun k hk => (I.2.2.2.1 k hk).1
theorem jI_h44 {e : fwH} (I : jI e) : ∀ k : Nat, k < 3 → e 23 0 k ≠ 0 → e 4 (2 + k) 4 = 0 ∨ e 4 (2 + k) 4 = 1 := fun k hk h0 => by
  obtain ⟨h1, -, h3⟩ := I.2.2.2.1 k hk
  exact (h3 (by omega)).1.2.2.2.2.2.1
theorem jI_h46 {e : fwH} (I : jI e) : ∀ s : Nat, s < 4 → -1 ≤ e 46 0 s ∧ e 46 0 s ≤ 60 := fun s hs => by
  rw [(jI_S I s hs).1]
  exact (I.1.2.2.2.2.2.2.2.2.2.1 s hs).1
theorem jI_h47 {e : fwH} (I : jI e) : ∀ s : Nat, s < 4 → 0 ≤ e 47 0 s ∧ e 47 0 s ≤ 3 := fun s hs => by
  rw [(jI_S I s hs).2.1]
  exact (I.1.2.2.2.2.2.2.2.2.2.1 s hs).2.1
theorem jI_t5 {e : fwH} (I : jI e) : 0 ≤ e 12 0 5 ∧ e 12 0 5 ≤ 900 := by
  rw [I.2.2.2.2.1.1]
  exact I.1.2.2.2.2.2.2.2.2.2.2.1

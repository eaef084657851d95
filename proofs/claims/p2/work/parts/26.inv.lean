/-! rows that no answer shows: what a question may leave changed -/
def fwScr (a b : Nat) : Bool := decide ((a = 4 ∧ b = 5) ∨ (a = 17 ∧ b = 5) ∨ a = 6 ∨ a = 7 ∨ a = 8 ∨ a = 10 ∨ a = 19 ∨ a = 20 ∨ (24 ≤ a ∧ a ≤ 31) ∨ a = 40 ∨ (42 ≤ a ∧ a ≤ 45) ∨ a = 49)
def sc (h : fwH) : Prop := h 25 0 0 = 0 ∧ 0 ≤ h 8 0 5 ∧ h 8 0 5 ≤ 300000
def scr (h g : fwH) : Prop := (∀ a b, fwScr a b = false → a ≠ 12 → g a b = h a b) ∧ (g 12 0 5 = h 12 0 5 ∧ g 12 0 12 = h 12 0 12 ∧ g 12 0 13 = h 12 0 13) ∧ sc g
theorem scr_rf {h : fwH} (hs : sc h) : scr h h := ⟨fun _ _ _ _ => rfl, ⟨rfl, rfl, rfl⟩, hs⟩
theorem scr_tr {h g f : fwH} (a : scr h g) (b : scr g f) : scr h f := ⟨fun x y p q => (b.1 x y p q).trans (a.1 x y p q), ⟨b.2.1.1.trans a.2.1.1, b.2.1.2.1.trans a.2.1.2.1, b.2.1.2.2.trans a.2.1.2.2⟩, b.2.2⟩
theorem scr_uc {h g : fwH} {k i : Nat} {f : Nat → Int} (a : scr h g) (hk : fwScr k i = true) (h1 : k ≠ 12) (h2 : k ≠ 25) (h3 : k ≠ 8) : scr h (fwUc g k i f) := by
  refine ⟨fun x y p q => ?_, ?_, ?_⟩
  · rw [fwUc_ne (fun z => by rw [z.1, z.2, hk] at p; cases p)]
    exact a.1 x y p q
  · rw [fwUc_ne (fun z => h1 z.1.symm)]
    exact a.2.1
  · unfold sc
    rw [fwUc_ne (fun z => h2 z.1.symm), fwUc_ne (fun z => h3 z.1.symm)]
    exact a.2.2
theorem scr_25 {h g : fwH} {f : Nat → Int} (a : scr h g) (hf : f 0 = 0) : scr h (fwUc g 25 0 f) := by
  refine ⟨fun x y p q => ?_, ?_, ?_⟩
  · rw [fwUc_ne (fun z => by rw [z.1, z.2] at p; cases p)]
    exact a.1 x y p q
  · rw [fwUc_ne (by omega)]
    exact a.2.1
  · unfold sc
    rw [fwUc_at, fwUc_ne (by omega)]
    exact ⟨hf, a.2.2.2⟩
theorem scr_8 {h g : fwH} {f : Nat → Int} (a : scr h g) (hf : 0 ≤ f 5 ∧ f 5 ≤ 300000) : scr h (fwUc g 8 0 f) := by
  refine ⟨fun x y p q => ?_, ?_, ?_⟩
  · rw [fwUc_ne (fun z => by rw [z.1, z.2] at p; cases p)]
    exact a.1 x y p q
  · rw [fwUc_ne (by omega)]
    exact a.2.1
  · unfold sc
    rw [fwUc_at, fwUc_ne (by omega)]
    exact ⟨a.2.2.1, hf⟩
theorem scr_12 {h g : fwH} {f : Nat → Int} (a : scr h g) (h1 : f 5 = g 12 0 5) (h2 : f 12 = g 12 0 12) (h3 : f 13 = g 12 0 13) : scr h (fwUc g 12 0 f) := by
  refine ⟨fun x y p q => ?_, ?_, ?_⟩
  · rw [fwUc_ne (fun z => q z.1)]
    exact a.1 x y p q
  · rw [fwUc_at, h1, h2, h3]
    exact a.2.1
  · unfold sc
    rw [fwUc_ne (by omega), fwUc_ne (by omega)]
    exact a.2.2
/-- the class's own state is as it should be -/
def cOk (h : fwH) : Prop := (0 ≤ h 3 0 6 ∧ h 3 0 6 ≤ 1000) ∧ pOk h 0 ∧ gOk h 0 ∧ (∀ c : Nat, c < 10 → 0 ≤ h 17 0 c ∧ h 17 0 c ≤ 99) ∧ (0 < h 3 0 6 → 3 ≤ h 4 0 1) ∧ (h 3 0 6 = 0 → h 4 0 1 = 0 ∧ h 5 0 3 = 0 ∧ h 3 0 3 = 0) ∧ (0 ≤ h 3 0 4 ∧ h 3 0 4 ≤ 999) ∧ (0 < h 3 0 6 → 0 ≤ h 3 0 5 ∧ h 3 0 5 < h 4 0 1) ∧ (0 ≤ h 3 0 3 ∧ h 3 0 3 ≤ 60) ∧ sOk h ∧ tOk h ∧ sc h
theorem cOk_scr {h g : fwH} (J : cOk h) (a : scr h g) : cOk g := by
  have r : ∀ x y, fwScr x y = false → x ≠ 12 → g x y = h x y := a.1
  obtain ⟨j1, j2, j3, j4, j5, j6, j7, j8, j9, j10, j11, j12⟩ := J
  unfold cOk pOk gOk sOk tOk
  rw [r 3 0 rfl (by decide), r 4 0 rfl (by decide), r 5 0 rfl (by decide), r 17 0 rfl (by decide), r 18 0 rfl (by decide), r 1 0 rfl (by decide), r 34 0 rfl (by decide), r 35 0 rfl (by decide)]
  refine ⟨j1, j2, j3, j4, j5, j6, j7, j8, j9, fun s hs => ?_, j11, a.2.2⟩
  rw [r 33 s rfl (by decide)]
  exact j10 s hs

/-! the reading's state: q says where it stands, or what was faulty -/
def mSt (gg : fwH) (q : fwPq) (h : fwH) : Prop := jT gg h ∧ h 12 0 5 = 0 ∧ match q with
  | .inr s => s.1 ≤ tkN gg ∧ mTk gg (tokP (mBy gg) s.1) (h 12 0) ∧ h 12 0 12 = 0 ∧ h 12 0 13 = -1 ∧ ∀ z : Nat, z < 135 → h 41 0 z = s.2 z
  | .inl e => e.2 ≤ tkN gg ∧ (1 ≤ e.1 ∧ e.1 ≤ 3) ∧ h 12 0 12 = e.1 ∧ h 12 0 13 = (tokP (mBy gg) e.2 : Int)
/-- what reading leaves alone -/
def mFr (h g : fwH) : Prop := ∀ a b, a ≠ 12 → a ≠ 41 → g a b = h a b
theorem mFr_rf (h : fwH) : mFr h h := fun _ _ _ _ => rfl
theorem mFr_tr {h g f : fwH} (a : mFr h g) (b : mFr g f) : mFr h f := fun x y p q => (b x y p q).trans (a x y p q)
theorem mFr_12 {h g : fwH} (F : mFr h g) (A : Nat → Int) : mFr h (fwUc g 12 0 A) := fun a b p q => by rw [fwUc_ne (fun z => p z.1)]; exact F a b p q
theorem mFr_41 {h g : fwH} (F : mFr h g) (s : Nat) (x : Int) : mFr h (fwUp g 41 0 s x) := fun a b p q => by
  funext j
  show (if a = 41 ∧ b = 0 ∧ j = s then x else g a b j) = h a b j
  rw [if_neg (fun z => q z.1), F a b p q]
def qPut (q : fwPq) (s : Nat) (v : Int) : fwPq := match q with
  | .inr z => .inr (z.1, fwFu z.2 s v)
  | .inl e => .inl e
theorem mSt_put {gg h : fwH} {q : fwPq} (S : mSt gg q h) (s : Nat) (v : Int) : mSt gg (qPut q s v) (fwUp h 41 0 s v) := by
  obtain ⟨a, b, c⟩ := S
  refine ⟨a, b, ?_⟩
  cases q with
  | inl e => exact c
  | inr z =>
    obtain ⟨c1, c2, c3, c4, c5⟩ := c
    refine ⟨c1, c2, c3, c4, fun j hj => ?_⟩
    show (if 41 = 41 ∧ 0 = 0 ∧ j = s then v else h 41 0 j) = fwFu z.2 s v j
    unfold fwFu
    by_cases e : j = s
    · rw [if_pos ⟨rfl, rfl, e⟩, if_pos e]
    · rw [if_neg (fun z => e z.2.2), if_neg e]
      exact c5 j hj
/-- a step to the next TOKEN -/
theorem mSt_adv {gg h : fwH} {i : Nat} {W A : Nat → Int} (S : mSt gg (.inr (i, W)) h) (hi : i < tkN gg) (hA : mTk gg (tokP (mBy gg) (i + 1)) A) (hk : mKp (h 12 0) A) : mSt gg (.inr (i + 1, W)) (fwUc h 12 0 A) := by
  obtain ⟨a, b, c1, c2, c3, c4, c5⟩ := S
  exact ⟨jT_uc a (hk.2.1.trans a.2.1), hk.1.trans b, hi, hA, hk.2.2.1.trans c3, hk.2.2.2.trans c4, c5⟩
theorem wk_one : ∀ s, s < 13 → ∀ t, t < 13 → (fwSb s).length = (fwSb t).length → (∀ i, i < (fwSb s).length → (fwSb s).getD i 0 = (fwSb t).getD i 0) → s = t := by decide +kernel
theorem wk_13 : ∀ s, s < 13 → fwSb (s + 13) = fwSb s := by decide +kernel
theorem wk_let : ∀ s, s < 13 → (1 ≤ (fwSb s).length ∧ (fwSb s).length ≤ 5) ∧ ∀ i, i < (fwSb s).length → 97 ≤ (fwSb s).getD i 0 ∧ (fwSb s).getD i 0 ≤ 122 := by decide +kernel
theorem mTx_one {b : Nat → Int} {p q s t : Nat} (hs : s < 13) (ht : t < 13) (h1 : mTx b p q s) (h2 : mTx b p q t) : s = t := by
  refine wk_one s hs t ht (by have := h1.1; have := h2.1; omega) (fun i hi => ?_)
  have e1 := of_decide_eq_true ((mAll_iff _ _).mp h1.2 i hi)
  have e2 := of_decide_eq_true ((mAll_iff _ _).mp h2.2 i (by have := h1.1; have := h2.1; omega))
  omega
theorem mWk_iff {b : Nat → Int} {p q s : Nat} (hs : s < 13) : mWk b p q = (s : Int) + 4 ↔ mTx b p q s := by
  unfold mWk
  have hle := mFst_le (mWkB b p q) 13
  constructor
  · intro e
    split at e
    · omega
    · have e2 : mFst (mWkB b p q) 13 = s := by omega
      have := mFst_not (p := mWkB b p q) 13 (by omega)
      rw [e2] at this
      exact Decidable.not_not.mp (of_decide_eq_false this)
  · intro e
    have e2 : mFst (mWkB b p q) 13 = s := by
      rcases Nat.lt_trichotomy (mFst (mWkB b p q) 13) s with x | x | x
      · have := mFst_not (p := mWkB b p q) 13 (by omega)
        have := Decidable.not_not.mp (of_decide_eq_false this)
        exact mTx_one (by omega) hs this e
      · exact x
      · have := of_decide_eq_true (mFst_pre (p := mWkB b p q) 13 s x)
        exact absurd e this
    rw [if_neg (by omega), e2]
/-- the class's TOKEN and the model's -/
theorem tk_kind {gg : fwH} (hT : tOk gg) {i : Nat} (hi : i ≤ tkN gg) : (cutH gg 14 0 i = 3 ↔ mdT (mBy gg) (tokP (mBy gg) i) = 2) ∧ (cutH gg 14 0 i = 2 ↔ mdT (mBy gg) (tokP (mBy gg) i) = 3) ∧ (cutH gg 14 0 i = 0 ↔ mdT (mBy gg) (tokP (mBy gg) i) = 0) ∧ (cutH gg 14 0 i = 3 → cutH gg 16 0 i = mVl (mBy gg) (tokP (mBy gg) i)) ∧ (cutH gg 14 0 i ≠ 0 → i < tkN gg) ∧ (∀ s : Nat, s < 13 → (cutH gg 14 0 i = (s : Int) + 4 ↔ (mdT (mBy gg) (tokP (mBy gg) i) = 1 ∧ mTx (mBy gg) (tokP (mBy gg) i) (mLetEnd (mBy gg) (tokP (mBy gg) i)) s))) ∧ (0 ≤ mdT (mBy gg) (tokP (mBy gg) i) ∧ mdT (mBy gg) (tokP (mBy gg) i) ≤ 4) := by
  obtain ⟨k1, k2, k3, k4, k5, k6, k7⟩ := cut_at hT
  rcases Nat.lt_or_ge i (tkN gg) with e | e
  · obtain ⟨a1, a2, a3, a4⟩ := k1 i e
    have hb : mBy gg (tokP (mBy gg) i) ≠ -1 := fun z => by have := mBy_m1.mp z; omega
    rw [a1, a3]
    have hw := mWk_rng (mBy gg) (tokP (mBy gg) i) (mLetEnd (mBy gg) (tokP (mBy gg) i))
    have hw2 : mWk (mBy gg) (tokP (mBy gg) i) (mLetEnd (mBy gg) (tokP (mBy gg) i)) = 1 ∨ 4 ≤ mWk (mBy gg) (tokP (mBy gg) i) (mLetEnd (mBy gg) (tokP (mBy gg) i)) := by
      unfold mWk
      split <;> omega
    have hx := fun s hs => mWk_iff (b := mBy gg) (p := tokP (mBy gg) i) (q := mLetEnd (mBy gg) (tokP (mBy gg) i)) (s := s) hs
    generalize mTx (mBy gg) (tokP (mBy gg) i) (mLetEnd (mBy gg) (tokP (mBy gg) i)) = X at hx ⊢
    unfold mKd mdT
    rw [if_neg hb]
    by_cases c1 : mLet (mBy gg (tokP (mBy gg) i)) = true
    · rw [if_pos c1, if_pos c1]
      refine ⟨⟨fun z => by omega, fun z => by omega⟩, ⟨fun z => by omega, fun z => by omega⟩, ⟨fun z => by omega, fun z => by omega⟩, fun _ => rfl, fun _ => e, fun s hs => ?_, by decide⟩
      rw [hx s hs]
      exact ⟨fun z => ⟨rfl, z⟩, fun z => z.2⟩
    · rw [if_neg c1, if_neg c1]
      by_cases c2 : mDig (mBy gg (tokP (mBy gg) i)) = true
      · rw [if_pos c2, if_pos c2]
        exact ⟨⟨fun _ => rfl, fun _ => rfl⟩, ⟨fun z => by omega, fun z => by omega⟩, ⟨fun z => by omega, fun z => by omega⟩, fun _ => rfl, fun _ => e, fun s hs => ⟨fun z => by omega, fun z => absurd z.1 (by decide)⟩, by decide⟩
      · rw [if_neg c2, if_neg c2]
        by_cases c3 : mBy gg (tokP (mBy gg) i) = 59
        · rw [if_pos c3, if_pos c3]
          exact ⟨⟨fun z => by omega, fun z => by omega⟩, ⟨fun _ => rfl, fun _ => rfl⟩, ⟨fun z => by omega, fun z => by omega⟩, fun _ => rfl, fun _ => e, fun s hs => ⟨fun z => by omega, fun z => absurd z.1 (by decide)⟩, by decide⟩
        · rw [if_neg c3, if_neg c3]
          exact ⟨⟨fun z => by omega, fun z => by omega⟩, ⟨fun z => by omega, fun z => by omega⟩, ⟨fun z => by omega, fun z => by omega⟩, fun _ => rfl, fun _ => e, fun s hs => ⟨fun z => by omega, fun z => absurd z.1 (by decide)⟩, by decide⟩
  · have ei : i = tkN gg := by omega
    subst ei
    have hb : mBy gg (tokP (mBy gg) (tkN gg)) = -1 := mBy_m1.mpr (by omega)
    rw [k3, mdT_m1 hb]
    exact ⟨⟨fun z => by omega, fun z => by omega⟩, ⟨fun z => by omega, fun z => by omega⟩, ⟨fun _ => rfl, fun _ => rfl⟩, fun z => by omega, fun z => absurd rfl z, fun s hs => ⟨fun z => by omega, fun z => absurd z.1 (by decide)⟩, by decide⟩

section
/-! where the TOKENS lie -/
theorem mFst_not {p : Nat → Bool} : ∀ n : Nat, mFst p n < n → p (mFst p n) = false := by
  intro n
  induction n with
  | zero => intro h; omega
  | succ n ih =>
    intro h
    rw [mFst] at h ⊢
    split at h
    · omega
    · rename_i q
      rw [if_neg q]
      have hle := mFst_le p n
      rcases Nat.lt_or_ge (mFst p n) n with e | e
      · exact ih e
      · have e2 : mFst p n = n := by omega
        rw [e2]
        cases hp : p n with
        | false => rfl
        | true => exact absurd ⟨e2, hp⟩ q
/-- a run of bytes: from p up to e, where it stops -/
def isRun (q : Int → Bool) (b : Nat → Int) (p e : Nat) : Prop := p ≤ e ∧ (∀ j, p ≤ j → j < e → q (b j) = true) ∧ q (b e) = false
theorem isRun.one {q : Int → Bool} {b : Nat → Int} {p e f : Nat} (h : isRun q b p e) (k : isRun q b p f) : e = f := by
  rcases Nat.lt_trichotomy e f with x | x | x
  · have := k.2.1 e h.1 x
    rw [h.2.2] at this
    cases this
  · exact x
  · have := h.2.1 f k.1 x
    rw [k.2.2] at this
    cases this
theorem run_of {h : fwH} (hT : tOk h) {q : Int → Bool} (hq : q (-1) = false) {p : Nat} (hp : (p : Int) ≤ h 1 0 1) : isRun q (mBy h) p (p + mFst (fun i => q (mBy h (p + i))) 900) := by
  refine ⟨by omega, fun j h1 h2 => ?_, ?_⟩
  · have := mFst_pre (p := fun i => q (mBy h (p + i))) 900 (j - p) (by omega)
    rw [show p + (j - p) = j by omega] at this
    exact this
  · rcases Nat.lt_or_ge (mFst (fun i => q (mBy h (p + i))) 900) 900 with e | e
    · exact mFst_not (p := fun i => q (mBy h (p + i))) 900 e
    · have h1 := mRun_le (h := h) (q := q) hq hp
      have h2 := hT.2
      rw [mBy_end (by omega)]
      exact hq
def mBlB (x : Int) : Bool := decide (mBlank x)
def skB (b : Nat → Int) (p : Nat) : Nat := p + mFst (fun i => mBlB (b (p + i))) 900
def tokP (b : Nat → Int) : Nat → Nat
  | 0 => skB b 0
  | i + 1 => skB b (mNxt b (tokP b i))
theorem skB_run {h : fwH} (hT : tOk h) {p : Nat} (hp : (p : Int) ≤ h 1 0 1) : isRun mBlB (mBy h) p (skB (mBy h) p) := run_of hT (by decide) hp
theorem skB_le {h : fwH} {p : Nat} (hp : (p : Int) ≤ h 1 0 1) : (skB (mBy h) p : Int) ≤ h 1 0 1 := mRun_le (q := mBlB) (by decide) hp
theorem skB_bl {h : fwH} (hT : tOk h) {p : Nat} (hp : (p : Int) < h 1 0 1) (hb : mBlank (mBy h p)) : skB (mBy h) (p + 1) = skB (mBy h) p := by
  have r1 := skB_run hT (p := p) (by omega)
  have r2 := skB_run hT (p := p + 1) (by omega)
  refine isRun.one (q := mBlB) (b := mBy h) (p := p) ⟨by have := r2.1; omega, fun j h1 h2 => ?_, r2.2.2⟩ r1
  rcases Nat.lt_or_ge p j with e | e
  · exact r2.2.1 j (by omega) h2
  · rw [show j = p by omega]
    exact decide_eq_true hb
theorem skB_nb {h : fwH} (hT : tOk h) {p : Nat} (hp : (p : Int) ≤ h 1 0 1) (hb : ¬ mBlank (mBy h p)) : skB (mBy h) p = p :=
  isRun.one (skB_run hT hp) ⟨Nat.le_refl _, fun j h1 h2 => by omega, decide_eq_false hb⟩
theorem mNxt_gt {h : fwH} (hT : tOk h) {p : Nat} (hp : (p : Int) < h 1 0 1) : p < mNxt (mBy h) p := by
  unfold mNxt
  split
  · rename_i q
    have r := run_of hT (q := mLet) (by decide) (p := p) (by omega)
    have := r.1
    unfold mLetEnd
    rcases Nat.lt_or_ge p (p + mFst (fun i => mLet (mBy h (p + i))) 900) with e | e
    · exact e
    · have h2 := r.2.2
      rw [show p + mFst (fun i => mLet (mBy h (p + i))) 900 = p by omega, q] at h2
      cases h2
  · split
    · rename_i q
      have r := run_of hT (q := mDig) (by decide) (p := p) (by omega)
      have := r.1
      unfold mDigEnd
      rcases Nat.lt_or_ge p (p + mFst (fun i => mDig (mBy h (p + i))) 900) with e | e
      · exact e
      · have h2 := r.2.2
        rw [show p + mFst (fun i => mDig (mBy h (p + i))) 900 = p by omega, q] at h2
        cases h2
    · omega
theorem mCu_tok {h : fwH} (hT : tOk h) (s0 : fwCu) (h1 : s0.1 = 0) (h2 : s0.2.1 = 0) : ∀ k : Nat, skB (mBy h) (mCu (mBy h) (h 1 0 1) s0 k).1 = tokP (mBy h) (mCu (mBy h) (h 1 0 1) s0 k).2.1 ∧ (∀ j : Nat, j < (mCu (mBy h) (h 1 0 1) s0 k).2.1 → (mCu (mBy h) (h 1 0 1) s0 k).2.2.1 j = mKd (mBy h) (tokP (mBy h) j) ∧ (mCu (mBy h) (h 1 0 1) s0 k).2.2.2.1 j = (tokP (mBy h) j : Int) ∧ (mCu (mBy h) (h 1 0 1) s0 k).2.2.2.2 j = mVl (mBy h) (tokP (mBy h) j) ∧ (tokP (mBy h) j : Int) < h 1 0 1) ∧ (k ≤ (mCu (mBy h) (h 1 0 1) s0 k).1 ∨ h 1 0 1 ≤ (mCu (mBy h) (h 1 0 1) s0 k).1) := by
  intro k
  induction k with
  | zero =>
    rw [mCu, h1, h2]
    exact ⟨rfl, fun j hj => by omega, Or.inl (Nat.zero_le _)⟩
  | succ k ih =>
    have hr := mCu_rng (h := h) (s0 := s0) (by rw [h1]; exact hT.1) h2 k
    revert ih hr
    rw [mCu]
    generalize mCu (mBy h) (h 1 0 1) s0 k = s
    intro ih hr
    obtain ⟨i1, i2, i3⟩ := ih
    split
    · rename_i q
      split
      · rename_i qb
        refine ⟨?_, i2, ?_⟩
        · dsimp only
          rw [skB_bl hT q qb]
          exact i1
        · dsimp only
          omega
      · rename_i qb
        have hp := skB_nb hT (by omega) qb
        rw [hp] at i1
        have hg := mNxt_gt hT q
        refine ⟨?_, ?_, ?_⟩
        · dsimp only
          rw [tokP, ← i1]
        · intro j hj
          dsimp only at hj ⊢
          unfold fwFu
          by_cases e : j = s.2.1
          · subst e
            rw [if_pos rfl, if_pos rfl, if_pos rfl, ← i1]
            exact ⟨rfl, rfl, rfl, q⟩
          · rw [if_neg e, if_neg e, if_neg e]
            exact i2 j (by omega)
        · dsimp only
          omega
    · rename_i q
      exact ⟨i1, i2, Or.inr (by omega)⟩
theorem mWk_rng (b : Nat → Int) (p q : Nat) : 1 ≤ mWk b p q ∧ mWk b p q ≤ 16 := by
  unfold mWk
  have := mFst_le (mWkB b p q) 13
  split <;> omega
theorem mKd_rng (b : Nat → Int) (p : Nat) : 1 ≤ mKd b p ∧ mKd b p ≤ 16 := by
  unfold mKd
  have := mWk_rng b p (mLetEnd b p)
  (repeat' split) <;> omega
theorem mVl_rng (b : Nat → Int) (p : Nat) : 0 ≤ mVl b p ∧ mVl b p ≤ 1000000 := by
  unfold mVl
  split
  · omega
  · split
    · exact mNum_rng _ (fun j hj => mFst_pre (p := fun i => mDig (b (p + i))) 900 j hj)
    · omega
/-- how many TOKENS there are, the end's not counted -/
def tkN (h : fwH) : Nat := (mCuE h).2.1
theorem cut_at {h : fwH} (hT : tOk h) : (∀ i : Nat, i < tkN h → cutH h 14 0 i = mKd (mBy h) (tokP (mBy h) i) ∧ cutH h 15 0 i = (tokP (mBy h) i : Int) ∧ cutH h 16 0 i = mVl (mBy h) (tokP (mBy h) i) ∧ (tokP (mBy h) i : Int) < h 1 0 1) ∧ (tokP (mBy h) (tkN h) : Int) = h 1 0 1 ∧ cutH h 14 0 (tkN h) = 0 ∧ cutH h 15 0 (tkN h) = h 1 0 1 ∧ cutH h 16 0 (tkN h) = 0 ∧ tkN h ≤ 900 ∧ cutH h 1 0 5 = (tkN h : Int) + 1 := by
  have k := mCu_tok hT (0, 0, h 14 0, h 15 0, h 16 0) rfl rfl 900
  have hr := mCu_rng (h := h) (s0 := (0, 0, h 14 0, h 15 0, h 16 0)) (by exact hT.1) rfl 900
  have h2 := hT.2
  obtain ⟨k1, k2, k3⟩ := k
  have e1 : ((mCuE h).1 : Int) = h 1 0 1 := by unfold mCuE; omega
  have kk : tokP (mBy h) (tkN h) = (mCuE h).1 := by
    unfold tkN
    rw [mCuE, ← k1]
    exact skB_nb hT (by omega) (by rw [mBy_end (by have := e1; unfold mCuE at this; omega)]; decide)
  refine ⟨fun i hi => ?_, ?_, ?_, ?_, ?_, hr.2, rfl⟩
  · have hne : ¬ i = (mCuE h).2.1 := by unfold tkN at hi; omega
    have := k2 i hi
    refine ⟨?_, ?_, ?_, this.2.2.2⟩
    · show fwFu (mCuE h).2.2.1 (mCuE h).2.1 0 i = _
      unfold fwFu
      rw [if_neg hne]
      exact this.1
    · show fwFu (mCuE h).2.2.2.1 (mCuE h).2.1 (h 1 0 1) i = _
      unfold fwFu
      rw [if_neg hne]
      exact this.2.1
    · show fwFu (mCuE h).2.2.2.2 (mCuE h).2.1 0 i = _
      unfold fwFu
      rw [if_neg hne]
      exact this.2.2.1
  · rw [kk]; exact e1
  · show fwFu (mCuE h).2.2.1 (mCuE h).2.1 0 (tkN h) = 0
    unfold fwFu tkN
    rw [if_pos rfl]
  · show fwFu (mCuE h).2.2.2.1 (mCuE h).2.1 (h 1 0 1) (tkN h) = _
    unfold fwFu tkN
    rw [if_pos rfl]
  · show fwFu (mCuE h).2.2.2.2 (mCuE h).2.1 0 (tkN h) = 0
    unfold fwFu tkN
    rw [if_pos rfl]
theorem tk_cut {h : fwH} (hT : tOk h) : tk (cutH h) (tkN h) := by
  obtain ⟨k1, k2, k3, k4, k5, k6, k7⟩ := cut_at hT
  refine ⟨k7, k6, k3, fun i hi => ?_⟩
  rcases Nat.lt_or_ge i (tkN h) with e | e
  · obtain ⟨a, -, c, -⟩ := k1 i e
    rw [a, c]
    have := mKd_rng (mBy h) (tokP (mBy h) i)
    have := mVl_rng (mBy h) (tokP (mBy h) i)
    omega
  · rw [show i = tkN h by omega, k3, k5]
    omega
theorem tokP_le {h : fwH} (hT : tOk h) {i : Nat} (hi : i ≤ tkN h) : (tokP (mBy h) i : Int) ≤ h 1 0 1 := by
  obtain ⟨k1, k2, -⟩ := cut_at hT
  rcases Nat.lt_or_ge i (tkN h) with e | e
  · have := (k1 i e).2.2.2
    omega
  · rw [show i = tkN h by omega, k2]
    omega
/-! what a reading gives -/
def qOk (P : Nat → (Nat → Int) → Prop) (q : fwPq) : Prop := ∀ i W, q = .inr (i, W) → P i W
theorem qOk_then {P R : Nat → (Nat → Int) → Prop} {a : fwPq} {f : Nat → (Nat → Int) → fwPq} (h1 : qOk P a) (h2 : ∀ i W, P i W → qOk R (f i W)) : qOk R (qThen a f) := by
  intro i W e
  unfold qThen at e
  cases a with
  | inl x => cases e
  | inr s => exact h2 s.1 s.2 (h1 s.1 s.2 rfl) i W e
theorem qOk_word {P : Nat → (Nat → Int) → Prop} {K : Nat → Int} {x : Int} {i : Nat} {W : Nat → Int} (h : K i = x → P (i + 1) W) : qOk P (qWord K x i W) := by
  intro j W' e
  unfold qWord at e
  split at e
  · rename_i q
    cases e
    exact h q
  · cases e
theorem qOk_num {P : Nat → (Nat → Int) → Prop} {K V : Nat → Int} {lo hi : Int} {f : Int → Nat → (Nat → Int)} {i : Nat} (h : lo ≤ V i → V i ≤ hi → P (i + 1) (f (V i) i)) : qOk P (qNum K V lo hi f i) := by
  intro j W' e
  unfold qNum at e
  split at e
  · split at e
    · rename_i q
      cases e
      exact h q.1 q.2
    · cases e
  · cases e
theorem qOk_fact {P : Nat → (Nat → Int) → Prop} {K V : Nat → Int} {x lo hi : Int} {s i : Nat} {W : Nat → Int} (h : ∀ v, lo ≤ v → v ≤ hi → P (i + 1 + 1) (fwFu W s v)) : qOk P (qFact K V x lo hi s i W) :=
  qOk_then (P := fun j W' => j = i + 1 ∧ W' = W) (qOk_word (fun _ => ⟨rfl, rfl⟩)) (fun j W' e => by
    obtain ⟨rfl, rfl⟩ := e
    exact qOk_num (fun h1 h2 => h _ h1 h2))
def wFa (W : Nat → Int) (f : Nat) : Prop := (0 ≤ W (19 + (7 * f + 0)) ∧ W (19 + (7 * f + 0)) < W 0) ∧ (0 ≤ W (19 + (7 * f + 1)) ∧ W (19 + (7 * f + 1)) ≤ 99) ∧ (0 ≤ W (19 + (7 * f + 2)) ∧ W (19 + (7 * f + 2)) ≤ 9) ∧ (0 ≤ W (19 + (7 * f + 3)) ∧ W (19 + (7 * f + 3)) ≤ 9) ∧ (0 ≤ W (19 + (7 * f + 4)) ∧ W (19 + (7 * f + 4)) ≤ 9) ∧ (0 ≤ W (19 + (7 * f + 5)) ∧ W (19 + (7 * f + 5)) ≤ 7) ∧ (0 ≤ W (19 + (7 * f + 6)) ∧ W (19 + (7 * f + 6)) ≤ 255)
/-- a picture that a text can give -/
def wG (W : Nat → Int) : Prop := (3 ≤ W 0 ∧ W 0 ≤ 10) ∧ (∀ c : Nat, c < 10 → 0 ≤ W (9 + c) ∧ W (9 + c) ≤ 40) ∧ (0 ≤ W 1 ∧ W 1 ≤ 40) ∧ (1 ≤ W 2 ∧ W 2 ≤ 40) ∧ (1 ≤ W 3 ∧ W 3 ≤ 999) ∧ (W 4 = 0 ∨ W 4 = 1) ∧ (0 ≤ W 5 ∧ W 5 < W 0) ∧ (0 ≤ W 6 ∧ W 6 ≤ 8) ∧ (∀ f : Nat, f < 8 → wFa W f) ∧ (∀ j : Nat, 7 * (W 6).toNat ≤ j → j < 56 → W (19 + j) = 0)
theorem fwFu_ne {g : Nat → Int} {j s : Nat} {x : Int} (h : s ≠ j) : fwFu g j x s = g s := if_neg h
theorem fwFu_at (g : Nat → Int) (j : Nat) (x : Int) : fwFu g j x j = x := if_pos rfl
theorem qOk_hts {K V : Nat → Int} : ∀ (n i : Nat) (W : Nat → Int), n ≤ 11 → W 0 = ((11 - n : Nat) : Int) → (∀ c : Nat, c < 10 → 0 ≤ W (9 + c) ∧ W (9 + c) ≤ 40) → (∀ s : Nat, s ≠ 0 → (s < 9 ∨ 19 ≤ s) → W s = 0) → qOk (fun j W' => i ≤ j ∧ (3 ≤ W' 0 ∧ W' 0 ≤ 10) ∧ (∀ c : Nat, c < 10 → 0 ≤ W' (9 + c) ∧ W' (9 + c) ≤ 40) ∧ (∀ s : Nat, s ≠ 0 → (s < 9 ∨ 19 ≤ s) → W' s = 0)) (qHts K V n i W) := by
  intro n
  induction n with
  | zero => intro i W hn h0 h1 h2 j W' e; cases e
  | succ n ih =>
    intro i W hn h0 h1 h2 j W' e
    rw [qHts] at e
    split at e
    · split at e
      · rename_i q
        split at e
        · cases e
        · rename_i q0
          have := ih (i + 1) _ (by omega) (by rw [fwFu_at]; omega) (fun c hc => by
            rw [fwFu_ne (by omega)]
            by_cases ec : 9 + c = 9 + (10 - n)
            · rw [ec, fwFu_at]; omega
            · rw [fwFu_ne ec]; exact h1 c hc) (fun s hs hs2 => by
            rw [fwFu_ne hs, fwFu_ne (by omega)]
            exact h2 s hs hs2) j W' e
          exact ⟨by omega, this.2⟩
      · cases e
    · split at e
      · rename_i q
        cases e
        exact ⟨Nat.le_refl _, ⟨q, by omega⟩, h1, h2⟩
      · cases e
theorem qOk_first {K V : Nat → Int} (i : Nat) : qOk (fun j W => i ≤ j ∧ wG W ∧ W 7 = 0 ∧ W 8 = 0) (qFirst K V i (fun _ => 0)) := by
  unfold qFirst
  refine qOk_then (P := fun j W => i ≤ j ∧ W = fun _ => 0) (qOk_word (fun _ => ⟨by omega, rfl⟩)) (fun j W e => ?_)
  obtain ⟨ej, rfl⟩ := e
  refine qOk_then (qOk_hts 11 j _ (by omega) rfl (fun c hc => by omega) (fun s _ _ => rfl)) (fun j2 W2 e2 => ?_)
  obtain ⟨a1, a2, a3, a4⟩ := e2
  refine qOk_then (P := fun j W => i ≤ j ∧ ∃ v, 0 ≤ v ∧ v ≤ 40 ∧ W = fwFu W2 1 v) (qOk_fact (fun v h1 h2 => ⟨by omega, v, h1, h2, rfl⟩)) (fun j3 W3 e3 => ?_)
  obtain ⟨b0, v1, b1, b2, rfl⟩ := e3
  refine qOk_then (P := fun j W => i ≤ j ∧ ∃ v, 1 ≤ v ∧ v ≤ 40 ∧ W = fwFu (fwFu W2 1 v1) 2 v) (qOk_fact (fun v h1 h2 => ⟨by omega, v, h1, h2, rfl⟩)) (fun j4 W4 e4 => ?_)
  obtain ⟨c0, v2, c1, c2, rfl⟩ := e4
  refine qOk_then (P := fun j W => i ≤ j ∧ ∃ v, 1 ≤ v ∧ v ≤ 999 ∧ W = fwFu (fwFu (fwFu W2 1 v1) 2 v2) 3 v) (qOk_fact (fun v h1 h2 => ⟨by omega, v, h1, h2, rfl⟩)) (fun j5 W5 e5 => ?_)
  obtain ⟨d0, v3, d1, d2, rfl⟩ := e5
  have key : ∀ v4 : Int, (v4 = 0 ∨ v4 = 1) → wG (fwFu (fwFu (fwFu (fwFu W2 1 v1) 2 v2) 3 v3) 4 v4) ∧ fwFu (fwFu (fwFu (fwFu W2 1 v1) 2 v2) 3 v3) 4 v4 7 = 0 ∧ fwFu (fwFu (fwFu (fwFu W2 1 v1) 2 v2) 3 v3) 4 v4 8 = 0 := by
    intro v4 h4
    have rd : ∀ s : Nat, s ≠ 1 → s ≠ 2 → s ≠ 3 → s ≠ 4 → fwFu (fwFu (fwFu (fwFu W2 1 v1) 2 v2) 3 v3) 4 v4 s = W2 s := fun s k1 k2 k3 k4 => by
      rw [fwFu_ne k4, fwFu_ne k3, fwFu_ne k2, fwFu_ne k1]
    have r0 := rd 0 (by omega) (by omega) (by omega) (by omega)
    have z : ∀ s : Nat, 19 ≤ s → fwFu (fwFu (fwFu (fwFu W2 1 v1) 2 v2) 3 v3) 4 v4 s = 0 := fun s hs => by
      rw [rd s (by omega) (by omega) (by omega) (by omega)]
      exact a4 s (by omega) (by omega)
    refine ⟨⟨by rw [r0]; exact a2, fun c hc => by rw [rd (9 + c) (by omega) (by omega) (by omega) (by omega)]; exact a3 c hc, ⟨b1, b2⟩, ⟨c1, c2⟩, ⟨d1, d2⟩, h4, ?_, ?_, fun f hf => ?_, fun j _ _ => z _ (by omega)⟩, ?_, ?_⟩
    · rw [rd 5 (by omega) (by omega) (by omega) (by omega), a4 5 (by omega) (by omega), r0]; omega
    · rw [rd 6 (by omega) (by omega) (by omega) (by omega), a4 6 (by omega) (by omega)]; omega
    · unfold wFa
      rw [r0, z (19 + (7 * f + 0)) (by omega), z (19 + (7 * f + 1)) (by omega), z (19 + (7 * f + 2)) (by omega), z (19 + (7 * f + 3)) (by omega), z (19 + (7 * f + 4)) (by omega), z (19 + (7 * f + 5)) (by omega), z (19 + (7 * f + 6)) (by omega)]
      omega
    · rw [rd 7 (by omega) (by omega) (by omega) (by omega)]; exact a4 7 (by omega) (by omega)
    · rw [rd 8 (by omega) (by omega) (by omega) (by omega)]; exact a4 8 (by omega) (by omega)
  intro j6 W6 e6
  unfold qSide at e6
  split at e6
  · cases e6
    exact ⟨by omega, key 1 (Or.inr rfl)⟩
  · split at e6
    · cases e6
      exact ⟨by omega, key 0 (Or.inl rfl)⟩
    · cases e6
theorem wG_fact {W : Nat → Int} (hW : wG W) {f k : Nat} {v : Int} (hf : (f : Int) < W 6) (hk : k < 7) (hv : (k = 0 → 0 ≤ v ∧ v < W 0) ∧ (k = 1 → 0 ≤ v ∧ v ≤ 99) ∧ (k = 2 ∨ k = 3 ∨ k = 4 → 0 ≤ v ∧ v ≤ 9) ∧ (k = 5 → 0 ≤ v ∧ v ≤ 7) ∧ (k = 6 → 0 ≤ v ∧ v ≤ 255)) : wG (fwFu W (19 + (7 * f + k)) v) := by
  obtain ⟨a1, a2, a3, a4, a5, a6, a7, a8, a9, a10⟩ := hW
  have rd : ∀ s : Nat, s < 19 → fwFu W (19 + (7 * f + k)) v s = W s := fun s hs => fwFu_ne (by omega)
  unfold wG
  rw [rd 0 (by omega), rd 1 (by omega), rd 2 (by omega), rd 3 (by omega), rd 4 (by omega), rd 5 (by omega), rd 6 (by omega)]
  refine ⟨a1, fun c hc => by rw [rd (9 + c) (by omega)]; exact a2 c hc, a3, a4, a5, a6, a7, a8, fun g hg => ?_, fun j h1 h2 => ?_⟩
  · obtain ⟨b0, b1, b2, b3, b4, b5, b6⟩ := a9 g hg
    obtain ⟨v0, v1, v2, v5, v6⟩ := hv
    unfold wFa
    rw [rd 0 (by omega)]
    unfold fwFu
    refine ⟨?_, ?_, ?_, ?_, ?_, ?_, ?_⟩
    · by_cases e : 19 + (7 * g + 0) = 19 + (7 * f + k)
      · rw [if_pos e]; exact v0 (by omega)
      · rw [if_neg e]; exact b0
    · by_cases e : 19 + (7 * g + 1) = 19 + (7 * f + k)
      · rw [if_pos e]; exact v1 (by omega)
      · rw [if_neg e]; exact b1
    · by_cases e : 19 + (7 * g + 2) = 19 + (7 * f + k)
      · rw [if_pos e]; exact v2 (by omega)
      · rw [if_neg e]; exact b2
    · by_cases e : 19 + (7 * g + 3) = 19 + (7 * f + k)
      · rw [if_pos e]; exact v2 (by omega)
      · rw [if_neg e]; exact b3
    · by_cases e : 19 + (7 * g + 4) = 19 + (7 * f + k)
      · rw [if_pos e]; exact v2 (by omega)
      · rw [if_neg e]; exact b4
    · by_cases e : 19 + (7 * g + 5) = 19 + (7 * f + k)
      · rw [if_pos e]; exact v5 (by omega)
      · rw [if_neg e]; exact b5
    · by_cases e : 19 + (7 * g + 6) = 19 + (7 * f + k)
      · rw [if_pos e]; exact v6 (by omega)
      · rw [if_neg e]; exact b6
  · rw [fwFu_ne (by omega)]
    exact a10 j h1 h2
theorem or_255 {x : Int} {g : Nat} (hx : 0 ≤ x ∧ x ≤ 255) (hg : g < 8) : 0 ≤ fwOr x (fwShl 1 (g : Int)) ∧ fwOr x (fwShl 1 (g : Int)) ≤ 255 := by
  obtain ⟨a, rfl⟩ : ∃ a : Nat, x = a := ⟨x.toNat, by omega⟩
  have h2 : 2 ^ g < 2 ^ 8 := Nat.pow_lt_pow_right (by omega) hg
  rw [fwShl1_nat (by omega), fwOr_nat (by omega) (by omega)]
  have := Nat.or_lt_two_pow (n := 8) (x := a) (y := 2 ^ g) (by omega) h2
  omega
/-- what a reading of FOLK leaves -/
def wS (W W' : Nat → Int) : Prop := W' 0 = W 0 ∧ W' 6 = W 6 ∧ W' 7 = W 7 ∧ W' 8 = W 8
theorem wS_fu {W : Nat → Int} {s : Nat} {v : Int} (h : 19 ≤ s) : wS W (fwFu W s v) := ⟨fwFu_ne (by omega), fwFu_ne (by omega), fwFu_ne (by omega), fwFu_ne (by omega)⟩
theorem wS.tr {W W1 W2 : Nat → Int} (a : wS W W1) (b : wS W1 W2) : wS W W2 := ⟨b.1.trans a.1, b.2.1.trans a.2.1, b.2.2.1.trans a.2.2.1, b.2.2.2.trans a.2.2.2⟩
theorem wG_bef {W : Nat → Int} (hW : wG W) {f g : Nat} (hf : (f : Int) < W 6) (hg : g < f) : wG (qBef W f g) ∧ wS W (qBef W f g) := by
  have h8 := hW.2.2.2.2.2.2.2.1
  have hF := hW.2.2.2.2.2.2.2.2.1
  have o1 := or_255 (hF f (by omega)).2.2.2.2.2.2 (g := g) (by omega)
  have w1 := wG_fact hW (f := f) (k := 6) hf (by omega) (v := fwOr (W (19 + (7 * f + 6))) (fwShl 1 (g : Int))) (by omega)
  have s1 : wS W (fwFu W (19 + (7 * f + 6)) (fwOr (W (19 + (7 * f + 6))) (fwShl 1 (g : Int)))) := wS_fu (by omega)
  have o2 := or_255 (w1.2.2.2.2.2.2.2.2.1 g (by omega)).2.2.2.2.2.2 (g := f) (by omega)
  have w2 := wG_fact w1 (f := g) (k := 6) (by rw [s1.2.1]; omega) (by omega) (v := fwOr ((fwFu W (19 + (7 * f + 6)) (fwOr (W (19 + (7 * f + 6))) (fwShl 1 (g : Int)))) (19 + (7 * g + 6))) (fwShl 1 (f : Int))) (by omega)
  exact ⟨w2, s1.tr (wS_fu (by omega))⟩
theorem qOk_tl {K V : Nat → Int} {f : Nat} : ∀ (n i : Nat) (W : Nat → Int), wG W → (f : Int) < W 6 → qOk (fun j W' => i ≤ j ∧ wG W' ∧ wS W W') (qTl K V f n i W) := by
  intro n
  induction n with
  | zero => intro i W hW hf j W' e; cases e; exact ⟨Nat.le_refl _, hW, rfl, rfl, rfl, rfl⟩
  | succ n ih =>
    intro i W hW hf j W' e
    rw [qTl] at e
    split at e
    · split at e
      · rename_i q
        have hb := wG_bef hW hf (g := (V i).toNat) (by omega)
        have := ih (i + 1) _ hb.1 (by rw [hb.2.2.1]; exact hf) j W' e
        exact ⟨by omega, this.2.1, hb.2.tr this.2.2⟩
      · cases e
    · cases e; exact ⟨Nat.le_refl _, hW, rfl, rfl, rfl, rfl⟩
theorem qOk_factW {K V : Nat → Int} {x lo hi : Int} {i f k : Nat} {W : Nat → Int} (hW : wG W) (hf : (f : Int) < W 6) (hk : k < 7) (hv : ∀ v, lo ≤ v → v ≤ hi → (k = 0 → 0 ≤ v ∧ v < W 0) ∧ (k = 1 → 0 ≤ v ∧ v ≤ 99) ∧ (k = 2 ∨ k = 3 ∨ k = 4 → 0 ≤ v ∧ v ≤ 9) ∧ (k = 5 → 0 ≤ v ∧ v ≤ 7) ∧ (k = 6 → 0 ≤ v ∧ v ≤ 255)) : qOk (fun j W' => i ≤ j ∧ wG W' ∧ wS W W') (qFact K V x lo hi (19 + (7 * f + k)) i W) :=
  qOk_fact (fun v h1 h2 => ⟨by omega, wG_fact hW hf hk (hv v h1 h2), wS_fu (by omega)⟩)
theorem qOk_talk {K V : Nat → Int} {f i : Nat} {W : Nat → Int} (hW : wG W) (hf : (f : Int) < W 6) : qOk (fun j W' => i ≤ j ∧ wG W' ∧ wS W W') (qTalk K V f i W) := by
  unfold qTalk
  refine qOk_then (qOk_factW hW hf (by omega) (by omega)) (fun j1 W1 e1 => ?_)
  obtain ⟨a1, a2, a3⟩ := e1
  refine qOk_then (P := fun j W' => i ≤ j ∧ W' = W1) (qOk_word (fun _ => ⟨by omega, rfl⟩)) (fun j2 W2 e2 => ?_)
  obtain ⟨b1, rfl⟩ := e2
  refine qOk_then (P := fun j W' => i ≤ j ∧ wG W' ∧ wS W W') (qOk_num (fun h1 h2 => ?_)) (fun j3 W3 e3 => ?_)
  · have hb := wG_bef a2 (f := f) (g := (V j2).toNat) (by rw [a3.2.1]; exact hf) (by omega)
    exact ⟨by omega, hb.1, a3.tr hb.2⟩
  · obtain ⟨c1, c2, c3⟩ := e3
    intro j4 W4 e4
    have := qOk_tl 900 j3 W3 c2 (by rw [c3.2.1]; exact hf) j4 W4 e4
    exact ⟨by omega, this.2.1, c3.tr this.2.2⟩
theorem wG_size {W : Nat → Int} (hW : wG W) {f : Nat} (h6 : W 6 = (f : Int)) (hf : f < 8) : wG (fwFu W 6 ((f : Int) + 1)) := by
  obtain ⟨a1, a2, a3, a4, a5, a6, a7, a8, a9, a10⟩ := hW
  have rd : ∀ s : Nat, s ≠ 6 → fwFu W 6 ((f : Int) + 1) s = W s := fun s hs => fwFu_ne hs
  unfold wG
  rw [rd 0 (by omega), rd 1 (by omega), rd 2 (by omega), rd 3 (by omega), rd 4 (by omega), rd 5 (by omega), fwFu_at]
  refine ⟨a1, fun c hc => by rw [rd (9 + c) (by omega)]; exact a2 c hc, a3, a4, a5, a6, a7, by omega, fun g hg => ?_, fun j h1 h2 => ?_⟩
  · have := a9 g hg
    unfold wFa at this ⊢
    rw [rd 0 (by omega), rd (19 + (7 * g + 0)) (by omega), rd (19 + (7 * g + 1)) (by omega), rd (19 + (7 * g + 2)) (by omega), rd (19 + (7 * g + 3)) (by omega), rd (19 + (7 * g + 4)) (by omega), rd (19 + (7 * g + 5)) (by omega), rd (19 + (7 * g + 6)) (by omega)]
    exact this
  · rw [rd (19 + j) (by omega)]
    exact a10 j (by omega) h2
theorem qOk_folk {K V : Nat → Int} {f i : Nat} {W : Nat → Int} (hW : wG W) (h6 : W 6 = (f : Int)) : qOk (fun j W' => i ≤ j ∧ wG W' ∧ W' 7 = W 7 ∧ W' 8 = W 8) (qFolk K V f i W) := by
  unfold qFolk
  split
  · intro j W' e; cases e
  · rename_i h8
    have w0 := wG_size hW h6 (by omega)
    have s7 : fwFu W 6 ((f : Int) + 1) 7 = W 7 := fwFu_ne (by omega)
    have s8 : fwFu W 6 ((f : Int) + 1) 8 = W 8 := fwFu_ne (by omega)
    have s6 : fwFu W 6 ((f : Int) + 1) 6 = (f : Int) + 1 := fwFu_at _ _ _
    revert w0 s7 s8 s6
    generalize fwFu W 6 ((f : Int) + 1) = W0
    intro w0 s7 s8 s6
    have fin : ∀ (j : Nat) (W' : Nat → Int), (i ≤ j ∧ wG W' ∧ wS W0 W') → i ≤ j ∧ wG W' ∧ W' 7 = W 7 ∧ W' 8 = W 8 := fun j W' k => ⟨k.1, k.2.1, k.2.2.2.2.1.trans s7, k.2.2.2.2.2.trans s8⟩
    refine qOk_then (P := fun j W' => i ≤ j ∧ W' = W0) (qOk_word (fun _ => ⟨by omega, rfl⟩)) (fun j1 W1 e1 => ?_)
    obtain ⟨a1, rfl⟩ := e1
    refine qOk_then (qOk_factW w0 (f := f) (by omega) (by omega) (by omega)) (fun j2 W2 e2 => ?_)
    obtain ⟨b1, b2, b3⟩ := e2
    refine qOk_then (qOk_factW b2 (f := f) (by rw [b3.2.1]; omega) (by omega) (by omega)) (fun j3 W3 e3 => ?_)
    obtain ⟨c1, c2, c3⟩ := e3
    have c4 := b3.tr c3
    refine qOk_then (qOk_factW c2 (f := f) (by rw [c4.2.1]; omega) (by omega) (by omega)) (fun j4 W4 e4 => ?_)
    obtain ⟨d1, d2, d3⟩ := e4
    have d4 := c4.tr d3
    refine qOk_then (qOk_factW d2 (f := f) (by rw [d4.2.1]; omega) (by omega) (by omega)) (fun j5 W5 e5 => ?_)
    obtain ⟨f1, f2, f3⟩ := e5
    have f4 := d4.tr f3
    refine qOk_then (qOk_factW f2 (f := f) (by rw [f4.2.1]; omega) (by omega) (by omega)) (fun j6 W6 e6 => ?_)
    obtain ⟨g1, g2, g3⟩ := e6
    have g4 := f4.tr g3
    split
    · intro j7 W7 e7
      have := qOk_talk g2 (f := f) (by rw [g4.2.1]; omega) j7 W7 e7
      exact fin j7 W7 ⟨by omega, this.2.1, g4.tr this.2.2⟩
    · intro j7 W7 e7
      cases e7
      exact fin _ _ ⟨by omega, g2, g4⟩
theorem wG_heap {W : Nat → Int} (hW : wG W) {v : Int} (h0 : 0 ≤ v) (h1 : v ≤ W 0 - 1) : wG (fwFu W 5 v) := by
  obtain ⟨a1, a2, a3, a4, a5, a6, a7, a8, a9, a10⟩ := hW
  have rd : ∀ s : Nat, s ≠ 5 → fwFu W 5 v s = W s := fun s hs => fwFu_ne hs
  unfold wG
  rw [rd 0 (by omega), rd 1 (by omega), rd 2 (by omega), rd 3 (by omega), rd 4 (by omega), rd 6 (by omega), fwFu_at]
  refine ⟨a1, fun c hc => by rw [rd (9 + c) (by omega)]; exact a2 c hc, a3, a4, a5, a6, by omega, a8, fun g hg => ?_, fun j h1 h2 => ?_⟩
  · have := a9 g hg
    unfold wFa at this ⊢
    rw [rd 0 (by omega), rd (19 + (7 * g + 0)) (by omega), rd (19 + (7 * g + 1)) (by omega), rd (19 + (7 * g + 2)) (by omega), rd (19 + (7 * g + 3)) (by omega), rd (19 + (7 * g + 4)) (by omega), rd (19 + (7 * g + 5)) (by omega), rd (19 + (7 * g + 6)) (by omega)]
    exact this
  · rw [rd (19 + j) (by omega)]
    exact a10 j h1 h2
/-- the picture between lines -/
def wL (W : Nat → Int) : Prop := (W 7 = 0 ∧ W = fun _ => 0) ∨ (1 ≤ W 7 ∧ wG W ∧ W 8 = 0)
theorem qOk_line {K V : Nat → Int} {i : Nat} {W : Nat → Int} (hW : wL W) : qOk (fun j W' => i < j ∧ wG W' ∧ W' 7 = W 7 ∧ W' 8 = 0) (qLine K V i W) := by
  unfold qLine
  refine qOk_then (P := fun j W' => i ≤ j ∧ wG W' ∧ W' 7 = W 7 ∧ W' 8 = 0) ?_ (fun j1 W1 e1 => qOk_word (fun _ => ⟨by omega, e1.2⟩))
  unfold qBody
  rcases hW with ⟨h7, rfl⟩ | ⟨h7, hW, h8⟩
  · rw [if_pos rfl]
    exact qOk_first i
  · rw [if_neg (by omega)]
    split
    · intro j W' e
      have := qOk_folk hW (f := (W 6).toNat) (by have := hW.2.2.2.2.2.2.2.1; omega) j W' e
      exact ⟨this.1, this.2.1, this.2.2.1, this.2.2.2.trans h8⟩
    · unfold qHeap
      refine qOk_fact (fun v h1 h2 => ⟨by omega, wG_heap hW h1 h2, ?_, ?_⟩)
      · exact fwFu_ne (by omega)
      · rw [fwFu_ne (by omega)]; exact h8
theorem wG_lines {W : Nat → Int} (hW : wG W) (v : Int) : wG (fwFu W 7 v) := by
  obtain ⟨a1, a2, a3, a4, a5, a6, a7, a8, a9, a10⟩ := hW
  have rd : ∀ s : Nat, s ≠ 7 → fwFu W 7 v s = W s := fun s hs => fwFu_ne hs
  unfold wG
  rw [rd 0 (by omega), rd 1 (by omega), rd 2 (by omega), rd 3 (by omega), rd 4 (by omega), rd 5 (by omega), rd 6 (by omega)]
  refine ⟨a1, fun c hc => by rw [rd (9 + c) (by omega)]; exact a2 c hc, a3, a4, a5, a6, a7, a8, fun g hg => ?_, fun j h1 h2 => ?_⟩
  · have := a9 g hg
    unfold wFa at this ⊢
    rw [rd 0 (by omega), rd (19 + (7 * g + 0)) (by omega), rd (19 + (7 * g + 1)) (by omega), rd (19 + (7 * g + 2)) (by omega), rd (19 + (7 * g + 3)) (by omega), rd (19 + (7 * g + 4)) (by omega), rd (19 + (7 * g + 5)) (by omega), rd (19 + (7 * g + 6)) (by omega)]
    exact this
  · rw [rd (19 + j) (by omega)]
    exact a10 j h1 h2
theorem qRun_stay {K V : Nat → Int} {c i : Nat} {W : Nat → Int} (h : qRun K V c = .inr (i, W)) (hk : K i = 0) : ∀ n, qRun K V (c + n) = .inr (i, W) := by
  intro n
  induction n with
  | zero => exact h
  | succ n ih => rw [← Nat.add_assoc, qRun, ih]; show (if K i = 0 then _ else _) = _; rw [if_pos hk]
theorem qRun_flt {K V : Nat → Int} {c : Nat} {e : Int × Nat} (h : qRun K V c = .inl e) : ∀ n, qRun K V (c + n) = .inl e := by
  intro n
  induction n with
  | zero => exact h
  | succ n ih => rw [← Nat.add_assoc, qRun, ih]; rfl
theorem qRun_next {K V : Nat → Int} {c i : Nat} {W : Nat → Int} (h : qRun K V c = .inr (i, W)) (hk : K i ≠ 0) : qRun K V (c + 1) = qThen (qLine K V i W) (fun i W => .inr (i, fwFu W 7 (W 7 + 1))) := by
  rw [qRun, h]
  show (if K i = 0 then _ else _) = _
  rw [if_neg hk]
theorem wL_init : wL (fun _ => 0) := Or.inl ⟨rfl, rfl⟩
theorem qRun_wL {K V : Nat → Int} {i i2 : Nat} {W W2 : Nat → Int} (hW : wL W) (e : qLine K V i W = .inr (i2, W2)) : i < i2 ∧ wL (fwFu W2 7 (W2 7 + 1)) ∧ W2 7 = W 7 := by
  have := qOk_line hW i2 W2 e
  refine ⟨this.1, Or.inr ⟨?_, wG_lines this.2.1 _, ?_⟩, this.2.2.1⟩
  · rw [fwFu_at, this.2.2.1]
    rcases hW with ⟨h7, -⟩ | ⟨h7, -⟩ <;> omega
  · rw [fwFu_ne (by omega)]; exact this.2.2.2
theorem wL_rng {W : Nat → Int} (hW : wL W) : (0 ≤ W 6 ∧ W 6 ≤ 8) ∧ (0 ≤ W 0 ∧ W 0 ≤ 10) ∧ (W 7 = 0 → W 0 = 0) := by
  rcases hW with ⟨h7, rfl⟩ | ⟨h7, hW, h8⟩
  · exact ⟨by dsimp only; omega, by dsimp only; omega, fun _ => rfl⟩
  · have h1 := hW.2.2.2.2.2.2.2.1
    have h2 := hW.1
    exact ⟨h1, by omega, fun q => by omega⟩
end
section
theorem raE (X : fwH) : fwE (advH (fwUp (fwUp (fwUp (fwUp (fwUp (fwUp (fwUp (fwUc (fwUp (fwUc X 4 1 (fun _ => 0)) 5 1 3 0) 18 1 (fun _ => 0)) 3 1 3 0) 3 1 4 0) 3 1 5 0) 3 1 6 0) 2 0 6 0) 2 0 7 (-1)) 2 0 2 0) 0) (rH X 0 0 (-1) (fun _ => 0) (X 17 1)) := by
  intro a b s hb hs hr
  by_cases e2 : a = 2 ∧ b = 0
  · obtain ⟨rfl, rfl⟩ := e2
    rcases (show s = 0 ∨ s = 1 ∨ s = 2 ∨ s = 3 ∨ s = 4 ∨ s = 5 ∨ s = 6 ∨ s = 7 by have : s < 8 := hs; omega) with rfl | rfl | rfl | rfl | rfl | rfl | rfl | rfl
    · cases hr
    · cases hr
    all_goals rfl
  · by_cases e3 : a = 3 ∧ b = 1
    · obtain ⟨rfl, rfl⟩ := e3
      rcases (show s = 0 ∨ s = 1 ∨ s = 2 ∨ s = 3 ∨ s = 4 ∨ s = 5 ∨ s = 6 by have : s < 7 := hs; omega) with rfl | rfl | rfl | rfl | rfl | rfl | rfl
      · cases hr
      · cases hr
      · cases hr
      all_goals rfl
    · by_cases e4 : a = 4 ∧ b = 1
      · obtain ⟨rfl, rfl⟩ := e4
        rcases (show s = 0 ∨ s = 1 ∨ s = 2 ∨ s = 3 ∨ s = 4 by have : s < 5 := hs; omega) with rfl | rfl | rfl | rfl | rfl
        · cases hr
        all_goals rfl
      · by_cases e5 : a = 5 ∧ b = 1
        · obtain ⟨rfl, rfl⟩ := e5
          rcases (show s = 0 ∨ s = 1 ∨ s = 2 ∨ s = 3 by have : s < 4 := hs; omega) with rfl | rfl | rfl | rfl
          · cases hr
          · cases hr
          · cases hr
          all_goals rfl
        · by_cases e7 : a = 17 ∧ b = 1
          · obtain ⟨rfl, rfl⟩ := e7
            rfl
          · by_cases e8 : a = 18 ∧ b = 1
            · obtain ⟨rfl, rfl⟩ := e8
              rfl
            · have u : ∀ (h : fwH) (k i j : Nat) (x : Int), ¬ (a = k ∧ b = i) → fwUp h k i j x a b s = h a b s := fun h k i j x q => by
                unfold fwUp
                rw [if_neg (fun z => q ⟨z.1, z.2.1⟩)]
              unfold advH
              rw [u _ 2 0 _ _ e2, u _ 2 0 _ _ e2, u _ 2 0 _ _ e2, u _ 2 0 _ _ e2, u _ 2 0 _ _ e2, u _ 2 0 _ _ e2, u _ 2 0 _ _ e2, u _ 3 1 _ _ e3, u _ 3 1 _ _ e3, u _ 3 1 _ _ e3, u _ 3 1 _ _ e3]
              unfold rH
              rw [fwUc_ne e8, u _ 5 1 _ _ e5, fwUc_ne e4, fwUc_ne e8, fwUc_ne e7, fwUc_ne e5, fwUc_ne e4, fwUc_ne e3, fwUc_ne e2]
set_option maxRecDepth 100000 in
set_option maxHeartbeats 4000000 in
theorem c_X5_readAll {d : Nat} {h : fwH} {Q : Option fwV → fwH → Prop} (T : Nat) (hT0 : tOk h) (hT : tk (cutH h) T) (h17 : rHg (h 17 1)) (k : rK (cutH h) T Q (qRun (cutH h 14 0) (cutH h 16 0) 900)) : fwCt mX5_readAll (d + 7) [aR 2 0] h Q := by
  refine fwCt_of [some (aR 2 0), none] rfl rfl rfl ?_
  obtain ⟨t1, t2, t3, t4⟩ := id hT
  refine w_aload_n dX5_readAll_0 rfl ?_
  refine w_getr 1 0 dX5_readAll_1 fl_X5_22 rfl (by decide) ?_
  refine w_callV (d := d + 6) (S := []) [] dX5_readAll_4 ml_X5_26 ok_X9_cutTokens vi_X9_cutTokens rfl rfl (by decide) rfl (Nat.le_of_ble_eq_true rfl) ?_
  refine c_X9_cutTokens (d := d) hT0 ?_
  show fwWP mX5_readAll (d + 7) 7 [some (aR 2 0), none] [] (cutH h) Q
  refine w_aload_n dX5_readAll_7 rfl ?_
  refine w_getr 3 1 dX5_readAll_8 fl_X5_12 rfl (by decide) ?_
  refine w_callV (d := d + 6) (S := []) [] dX5_readAll_11 ml_X5_31 ok_X2_clear vi_X2_clear rfl rfl (by decide) rfl (Nat.le_of_ble_eq_true rfl) ?_
  refine c_X2_clear (d := (d + 5)) ?_
  show fwWP mX5_readAll (d + 7) 14 [some (aR 2 0), none] [] (fwUp (fwUp (fwUp (fwUp (fwUc (fwUp (fwUc (cutH h) 4 1 (fun _ => 0)) 5 1 3 0) 18 1 (fun _ => 0)) 3 1 3 0) 3 1 4 0) 3 1 5 0) 3 1 6 0) Q
  refine w_aload_n dX5_readAll_14 rfl ?_
  refine w_iconst dX5_readAll_15 ?_
  refine w_puti dX5_readAll_16 fl_X5_34 fp_2_6 rfl (by decide) ?_
  refine w_aload_n dX5_readAll_19 rfl ?_
  refine w_iconst dX5_readAll_20 ?_
  refine w_puti dX5_readAll_21 fl_X5_18 fp_2_7 rfl (by decide) ?_
  refine w_aload_n dX5_readAll_24 rfl ?_
  refine w_iconst dX5_readAll_25 ?_
  refine w_puti dX5_readAll_26 fl_X5_37 fp_2_2 rfl (by decide) ?_
  refine w_aload_n dX5_readAll_29 rfl ?_
  refine w_callV (d := d + 6) (S := []) [] dX5_readAll_30 ml_X5_40 ok_X5_advance vi_X5_advance rfl rfl (by decide) rfl (Nat.le_of_ble_eq_true rfl) ?_
  refine c_X5_advance (d := (d + 6)) 0 rfl (by show (0 : Int) < cutH h 1 0 5; omega) (by show cutH h 1 0 5 ≤ 901; omega) ?_
  show fwWP mX5_readAll (d + 7) 33 [some (aR 2 0), none] [] (advH (fwUp (fwUp (fwUp (fwUp (fwUp (fwUp (fwUp (fwUc (fwUp (fwUc (cutH h) 4 1 (fun _ => 0)) 5 1 3 0) 18 1 (fun _ => 0)) 3 1 3 0) 3 1 4 0) 3 1 5 0) 3 1 6 0) 2 0 6 0) 2 0 7 (-1)) 2 0 2 0) 0) Q
  refine w_heq (rH (cutH h) 0 0 (-1) (fun _ => 0) (cutH h 17 1)) (raE (cutH h)) ?_
  refine w_iconst dX5_readAll_33 ?_
  refine w_istore_n [some (aR 2 0), some (aI 0)] dX5_readAll_34 rfl (by decide) ?_
  have lp35 : ∀ c : Nat, c ≤ 900 → ∀ (y : Int) (i9 : Nat) (W9 H9 : Nat → Int), y = (c : Int) → i9 ≤ T → rHr W9 H9 → qRun (cutH h 14 0) (cutH h 16 0) c = .inr (i9, W9) → wL W9 → W9 7 = (c : Int) → fwWP mX5_readAll (d + 7) 35 [some (aR 2 0), some (aI y)] [] (rH (cutH h) i9 0 (-1) W9 H9) Q := by
    refine fw_up (fun c hc35 ih35 => ?_)
    intro y i9 W9 H9 ey hi9 hH9 iv1 iv2 iv3
    subst ey
    have hrg := wL_rng iv2
    have hkr := (t4 i9 hi9).1
    show fwWP mX5_readAll (d + 7) 35 [some (aR 2 0), some (aI (c : Int))] [] (rH (cutH h) i9 0 (-1) W9 H9) Q
    refine w_iload_n dX5_readAll_35 rfl ?_
    refine w_sipush dX5_readAll_36 rfl ?_
    refine w_icmp_ge 77 dX5_readAll_39 (by decide) (by omega) (by omega) (fun c39 => ?_) (fun c39 => ?_)
    · refine w_iconst dX5_readAll_77 ?_
      by_cases e900 : c = 900
      · subst e900
        exact w_zret dX5_readAll_78 rfl (Or.inr rfl) (k.2 _ _ _ iv1 hi9 hH9)
      · have hs9 := qRun_stay iv1 (by first | exact c46 | omega) (900 - c)
        rw [show c + (900 - c) = 900 by omega] at hs9
        exact w_zret dX5_readAll_78 rfl (Or.inr rfl) (k.2 _ _ _ hs9 hi9 hH9)
    · refine w_aload_n dX5_readAll_42 rfl ?_
      refine w_getiE (v := (cutH h) 14 0 i9) dX5_readAll_43 fl_X5_43 rfl (by decide) rfl ?_
      refine w_if_eq 77 dX5_readAll_46 (by decide) (by omega) (fun c46 => ?_) (fun c46 => ?_)
      · refine w_iconst dX5_readAll_77 ?_
        by_cases e900 : c = 900
        · subst e900
          exact w_zret dX5_readAll_78 rfl (Or.inr rfl) (k.2 _ _ _ iv1 hi9 hH9)
        · have hs9 := qRun_stay iv1 (by first | exact c46 | omega) (900 - c)
          rw [show c + (900 - c) = 900 by omega] at hs9
          exact w_zret dX5_readAll_78 rfl (Or.inr rfl) (k.2 _ _ _ hs9 hi9 hH9)
      · refine w_aload_n dX5_readAll_49 rfl ?_
        refine w_callV (d := d + 6) (S := []) [] dX5_readAll_50 ml_X5_46 ok_X5_readLine vi_X5_readLine rfl rfl (by decide) rfl (Nat.le_of_ble_eq_true rfl) ?_
        refine c_X5_readLine (d := (d + 1)) i9 T W9 H9 hT hi9 hrg.1 hrg.2.1 (by omega) hrg.2.2 hH9 ⟨fun fk33 j33 i33 W33 H33 e33 hj33 hg33 => ?_, fun i33 W33 H33 e33 hi33 hH33 => ?_⟩
        · show fwWP mX5_readAll (d + 7) 53 [some (aR 2 0), some (aI (c : Int))] [aI 0] (rH (cutH h) i33 fk33 ((cutH h) 15 0 j33) W33 H33) Q
          refine w_if_ne 58 dX5_readAll_53 (by decide) (by omega) (fun c53 => ?_) (fun c53 => ?_)
          · (exfalso; omega)
          · refine w_iconst dX5_readAll_56 ?_
            have hf9 : qRun (cutH h 14 0) (cutH h 16 0) (c + 1) = .inl (fk33, j33) := by rw [qRun_next iv1 c46, e33]; rfl
            have hf8 := qRun_flt hf9 (899 - c)
            rw [show c + 1 + (899 - c) = 900 by omega] at hf8
            exact w_zret dX5_readAll_57 rfl (Or.inl rfl) (k.1 _ _ _ _ _ hf8 hj33 hg33)
        · show fwWP mX5_readAll (d + 7) 53 [some (aR 2 0), some (aI (c : Int))] [aI 1] (rH (cutH h) i33 0 (-1) W33 H33) Q
          refine w_if_ne 58 dX5_readAll_53 (by decide) (by omega) (fun c53 => ?_) (fun c53 => ?_)
          · refine w_aload_n dX5_readAll_58 rfl ?_
            refine w_getr 3 1 dX5_readAll_59 fl_X5_12 rfl (by decide) ?_
            refine w_dup dX5_readAll_62 rfl ?_
            refine w_getiE (v := W33 7) dX5_readAll_63 fl_X5_50 rfl (by decide) rfl ?_
            refine w_iconst dX5_readAll_66 ?_
            refine w_iadd dX5_readAll_67 ?_
            refine w_puti dX5_readAll_68 fl_X5_50 fp_3_6 rfl (by decide) ?_
            rw [show (fwUp (rH (cutH h) i33 0 (-1) W33 H33) 3 1 6 ((W33 7) + 1)) = (rH (cutH h) i33 0 (-1) (fwFu W33 7 ((W33 7) + 1)) H33) from rH_lines _ _ _ _ _ _ _]
            refine w_iinc [some (aR 2 0), some (aI ((c : Int) + 1))] dX5_readAll_71 rfl rfl (by decide) ?_
            refine w_goto 35 dX5_readAll_74 (by decide) ?_
            have hnx := qRun_wL iv2 e33
            exact ih35 (by omega) _ _ _ _ (by omega) (by omega) (rHr_fu hH33 (by omega) (by omega)) (by rw [qRun_next iv1 c46, e33]; rfl) hnx.2.1 (by rw [fwFu_at, hnx.2.2, iv3]; omega)
          · (exfalso; omega)
  exact lp35 0 (Nat.zero_le _) _ _ _ _ rfl (Nat.zero_le _) ⟨h17, fun c hc => absurd hc (by show ¬ (c : Int) < 0; omega)⟩ rfl wL_init rfl
end
section
/-! rows that no answer shows: what a question may leave changed -/
def fwScr (a b : Nat) : Bool := decide ((a = 4 ∧ b = 5) ∨ (a = 17 ∧ b = 5) ∨ a = 6 ∨ a = 7 ∨ a = 8 ∨ a = 10 ∨ a = 19 ∨ a = 20 ∨ (24 ≤ a ∧ a ≤ 31) ∨ a = 40 ∨ (42 ≤ a ∧ a ≤ 45) ∨ a = 49)
def sc (h : fwH) : Prop := h 25 0 0 = 0 ∧ 0 ≤ h 8 0 5 ∧ h 8 0 5 ≤ 300000
def scr (h g : fwH) : Prop := (∀ a b, fwScr a b = false → a ≠ 12 → g a b = h a b) ∧ (g 12 0 5 = h 12 0 5 ∧ g 12 0 12 = h 12 0 12 ∧ g 12 0 13 = h 12 0 13) ∧ sc g
theorem scr_rf {h : fwH} (hs : sc h) : scr h h := ⟨fun _ _ _ _ => rfl, ⟨rfl, rfl, rfl⟩, hs⟩
theorem scr_tr {h g f : fwH} (a : scr h g) (b : scr g f) : scr h f := ⟨fun x y p q => (b.1 x y p q).trans (a.1 x y p q), ⟨b.2.1.1.trans a.2.1.1, b.2.1.2.1.trans a.2.1.2.1, b.2.1.2.2.trans a.2.1.2.2⟩, b.2.2⟩
theorem scr_uc {h g : fwH} {k i : Nat} {f : Nat → Int} (a : scr h g) (hk : fwScr k i = true) (h1 : k ≠ 12) (h2 : k ≠ 25) (h3 : k ≠ 8) : scr h (fwUc g k i f) := by
  refine ⟨fun x y p q => ?_, ?_, ?_⟩
  · rw [fwUc_ne (fun z => by rw [z.1, z.2, hk] at p; cases p)]
    exact a.1 x y p q
  · rw [fwUc_ne (fun z => h1 z.1.symm)]
    exact a.2.1
  · unfold sc
    rw [fwUc_ne (fun z => h2 z.1.symm), fwUc_ne (fun z => h3 z.1.symm)]
    exact a.2.2
theorem scr_25 {h g : fwH} {f : Nat → Int} (a : scr h g) (hf : f 0 = 0) : scr h (fwUc g 25 0 f) := by
  refine ⟨fun x y p q => ?_, ?_, ?_⟩
  · rw [fwUc_ne (fun z => by rw [z.1, z.2] at p; cases p)]
    exact a.1 x y p q
  · rw [fwUc_ne (by omega)]
    exact a.2.1
  · unfold sc
    rw [fwUc_at, fwUc_ne (by omega)]
    exact ⟨hf, a.2.2.2⟩
theorem scr_8 {h g : fwH} {f : Nat → Int} (a : scr h g) (hf : 0 ≤ f 5 ∧ f 5 ≤ 300000) : scr h (fwUc g 8 0 f) := by
  refine ⟨fun x y p q => ?_, ?_, ?_⟩
  · rw [fwUc_ne (fun z => by rw [z.1, z.2] at p; cases p)]
    exact a.1 x y p q
  · rw [fwUc_ne (by omega)]
    exact a.2.1
  · unfold sc
    rw [fwUc_at, fwUc_ne (by omega)]
    exact ⟨a.2.2.1, hf⟩
theorem scr_12 {h g : fwH} {f : Nat → Int} (a : scr h g) (h1 : f 5 = g 12 0 5) (h2 : f 12 = g 12 0 12) (h3 : f 13 = g 12 0 13) : scr h (fwUc g 12 0 f) := by
  refine ⟨fun x y p q => ?_, ?_, ?_⟩
  · rw [fwUc_ne (fun z => q z.1)]
    exact a.1 x y p q
  · rw [fwUc_at, h1, h2, h3]
    exact a.2.1
  · unfold sc
    rw [fwUc_ne (by omega), fwUc_ne (by omega)]
    exact a.2.2
/-- the class's own state is as it should be -/
def cOk (h : fwH) : Prop := (0 ≤ h 3 0 6 ∧ h 3 0 6 ≤ 1000) ∧ pOk h 0 ∧ gOk h 0 ∧ (∀ c : Nat, c < 10 → 0 ≤ h 17 0 c ∧ h 17 0 c ≤ 99) ∧ (0 < h 3 0 6 → 3 ≤ h 4 0 1) ∧ (h 3 0 6 = 0 → h 4 0 1 = 0 ∧ h 5 0 3 = 0 ∧ h 3 0 3 = 0) ∧ (0 ≤ h 3 0 4 ∧ h 3 0 4 ≤ 999) ∧ (0 < h 3 0 6 → 0 ≤ h 3 0 5 ∧ h 3 0 5 < h 4 0 1) ∧ (0 ≤ h 3 0 3 ∧ h 3 0 3 ≤ 60) ∧ sOk h ∧ tOk h ∧ sc h
theorem cOk_scr {h g : fwH} (J : cOk h) (a : scr h g) : cOk g := by
  have r : ∀ x y, fwScr x y = false → x ≠ 12 → g x y = h x y := a.1
  obtain ⟨j1, j2, j3, j4, j5, j6, j7, j8, j9, j10, j11, j12⟩ := J
  unfold cOk pOk gOk sOk tOk
  rw [r 3 0 rfl (by decide), r 4 0 rfl (by decide), r 5 0 rfl (by decide), r 17 0 rfl (by decide), r 18 0 rfl (by decide), r 1 0 rfl (by decide), r 34 0 rfl (by decide), r 35 0 rfl (by decide)]
  refine ⟨j1, j2, j3, j4, j5, j6, j7, j8, j9, fun s hs => ?_, j11, a.2.2⟩
  rw [r 33 s rfl (by decide)]
  exact j10 s hs
end
section
/-! what hangs on the MOUNTAIN's rows alone -/
def rw5 (h g : fwH) : Prop := g 3 0 = h 3 0 ∧ g 4 0 = h 4 0 ∧ g 5 0 = h 5 0 ∧ g 17 0 = h 17 0 ∧ g 18 0 = h 18 0
theorem scr_rw {h g : fwH} (a : scr h g) : rw5 h g := ⟨a.1 3 0 rfl (by decide), a.1 4 0 rfl (by decide), a.1 5 0 rfl (by decide), a.1 17 0 rfl (by decide), a.1 18 0 rfl (by decide)⟩
section CG
variable {h g : fwH}
theorem cg_Wil (e : rw5 h g) : mWil g 0 = mWil h 0 := by
  obtain ⟨e3, e4, e5, e7, e8⟩ := e
  unfold mWil
  rw [e4, e5, e7, e8]
theorem cg_EnoB (e : rw5 h g) : mEnoB g = mEnoB h := by
  funext x
  have ew := cg_Wil e
  obtain ⟨e3, e4, e5, e7, e8⟩ := e
  unfold mEnoB
  rw [ew, e3, e5, e8]
theorem cg_BesN (e : rw5 h g) (x : Int) (f : Nat) : mBesN g x f = mBesN h x f := by
  have ew := cg_Wil e
  obtain ⟨e3, e4, e5, e7, e8⟩ := e
  unfold mBesN
  rw [ew, e5, e8]
theorem cg_Bes (e : rw5 h g) (x : Int) : ∀ f : Nat, mBes g x f = mBes h x f := by
  intro f
  induction f with
  | zero =>
    have ew := cg_Wil e
    obtain ⟨e3, e4, e5, e7, e8⟩ := e
    rw [mBes, mBes, ew, e5, e8]
  | succ f ih => rw [mBes, mBes, ih, cg_BesN e]
theorem cg_NeedB (e : rw5 h g) : mNeedB g = mNeedB h := by
  funext f
  have ew := cg_Wil e
  obtain ⟨e3, e4, e5, e7, e8⟩ := e
  unfold mNeedB
  rw [ew, e3, e5, e8]
theorem cg_Need (e : rw5 h g) : mNeed g = mNeed h := by
  have ew := cg_Wil e
  have eb := cg_NeedB e
  obtain ⟨e3, e4, e5, e7, e8⟩ := e
  unfold mNeed
  rw [ew, eb, e3, e5, e8]
theorem cg_Lw (e : rw5 h g) : mLw g = mLw h := by
  funext k
  obtain ⟨e3, e4, e5, e7, e8⟩ := e
  unfold mLw
  rw [e4, e7]
theorem cg_Wish (e : rw5 h g) (f : Nat) : ∀ k : Nat, mWish g f k = mWish h f k := by
  intro k
  have el := cg_Lw e
  induction k with
  | zero =>
    obtain ⟨e3, e4, e5, e7, e8⟩ := e
    rw [mWish, mWish, el, e4, e8]
  | succ k ih =>
    rw [mWish, mWish, ih, el]
    obtain ⟨e3, e4, e5, e7, e8⟩ := e
    rw [e4, e8]
theorem cg_NT (e : rw5 h g) : mNT g = mNT h := by
  funext H
  obtain ⟨e3, e4, e5, e7, e8⟩ := e
  unfold mNT
  rw [e4, e5, e8]
theorem cg_GoB (e : rw5 h g) (x : Int) : mGoB g x = mGoB h x := by
  funext j
  have el := cg_Lw e
  have en := cg_NT e
  obtain ⟨e3, e4, e5, e7, e8⟩ := e
  unfold mGoB mCan
  rw [el, en, e4]
theorem cg_Least (e : rw5 h g) : ∀ k : Nat, mLeast g k = mLeast h k := by
  intro k
  induction k with
  | zero => rfl
  | succ k ih => rw [mLeast, mLeast, ih, cg_NT e, cg_Lw e]
theorem cg_Grt (e : rw5 h g) (n : Nat) : mGrt g n = mGrt h n := by
  unfold mGrt
  rw [cg_GoB e, cg_Least e]
theorem cg_DrOk (e : rw5 h g) : mDrOk g = mDrOk h := by
  funext x H
  obtain ⟨e3, e4, e5, e7, e8⟩ := e
  unfold mDrOk mCan mWon
  rw [e3, e4, e5, e8]
theorem cg_DrH (e : rw5 h g) : mDrH g = mDrH h := by
  funext H
  obtain ⟨e3, e4, e5, e7, e8⟩ := e
  unfold mDrH
  rw [e3, e4]
theorem cg_Dr (e : rw5 h g) (x0 : Int) : ∀ m : Nat, mDr g x0 m = mDr h x0 m := by
  intro m
  induction m with
  | zero => rw [mDr, mDr, e.2.2.2.1]
  | succ m ih => rw [mDr, mDr, ih, cg_DrOk e, cg_DrH e]
theorem cg_Drawn (e : rw5 h g) (x0 : Int) (m : Nat) : mDrawn g x0 m = mDrawn h x0 m := by
  unfold mDrawn
  rw [cg_Dr e, e.2.2.1, e.2.2.2.1]
theorem cg_Gn (e : rw5 h g) : mGn g = mGn h := by
  funext c f
  obtain ⟨e3, e4, e5, e7, e8⟩ := e
  unfold mGn
  rw [e4, e7, e8]
theorem cg_Vo (e : rw5 h g) : mVo g = mVo h := by
  funext x y
  have eg : mVoB g x y = mVoB h x y := by
    funext f
    unfold mVoB
    rw [cg_Gn e]
  unfold mVo
  rw [eg, e.2.2.1]
theorem cg_VoN (e : rw5 h g) : mVoN g = mVoN h := by
  funext x y
  unfold mVoN
  rw [cg_Vo e, e.2.2.1, e.2.2.2.2]
theorem cg_UnB (e : rw5 h g) : mUnB g = mUnB h := by
  funext x y
  unfold mUnB
  rw [cg_VoN e, e.2.2.2.1]
theorem cg_ElB (e : rw5 h g) : mElB g = mElB h := by
  funext c
  unfold mElB mUnb
  rw [cg_UnB e, e.2.1, e.2.2.2.1]
theorem cg_El (e : rw5 h g) : mEl g = mEl h := by
  unfold mEl
  rw [cg_ElB e, e.2.1]
theorem cg_Gt (e : rw5 h g) : mGt g = mGt h := by
  funext H
  obtain ⟨e3, e4, e5, e7, e8⟩ := e
  unfold mGt
  rw [e4, e5, e8]
theorem cg_Spo (e : rw5 h g) : ∀ c : Nat, mSpo g c = mSpo h c := by
  intro c
  induction c with
  | zero => rfl
  | succ c ih => rw [mSpo, mSpo, ih, cg_Gt e, e.2.1, e.2.2.2.1]
theorem cg_OH (e : rw5 h g) : mOH g = mOH h := by
  funext k
  obtain ⟨e3, e4, e5, e7, e8⟩ := e
  unfold mOH
  rw [e4, e7]
theorem cg_Dk (e : rw5 h g) (p : Int) (x : Nat) : ∀ k : Nat, mDk g p x k = mDk h p x k := by
  intro k
  induction k with
  | zero => rfl
  | succ k ih => rw [mDk, mDk, ih, cg_OH e, e.2.1]
theorem cg_AskF (e : rw5 h g) (p : Int) (x j : Nat) : mAskF g p x j = mAskF h p x j := by
  unfold mAskF
  rw [cg_Dk e]
theorem cg_Ms (e : rw5 h g) (s : Nat) (e1 : g 33 s = h 33 s) (e2 : g 35 0 = h 35 0) : mMs g s = mMs h s := by
  funext k
  unfold mMs
  rw [cg_OH e, e.2.1, e1, e2]
theorem cg_Pos (e : rw5 h g) (s : Nat) (e1 : g 33 s = h 33 s) (e2 : g 35 0 = h 35 0) : mPos g s = mPos h s := by
  unfold mPos
  rw [cg_Ms e s e1 e2]
theorem cg_Ew (e : rw5 h g) : mEw g = mEw h := by
  funext K
  have ew := cg_Wil e
  obtain ⟨e3, e4, e5, e7, e8⟩ := e
  unfold mEw
  rw [ew, e3, e5, e8]
theorem cg_Play (e : rw5 h g) (n : Nat) (y : Int) : mPlay g n y = mPlay h n y := by
  unfold mPlay
  rw [cg_Ew e, e.2.2.1]
theorem cg_Mov (e : rw5 h g) (n : Nat) (y : Int) : mMov g n y = mMov h n y := by
  have eb : mMovB g n y = mMovB h n y := by
    funext f
    unfold mMovB
    rw [cg_Ew e, e.2.2.1]
  unfold mMov
  rw [eb, e.2.2.1]
end CG
end

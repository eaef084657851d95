/-! where the TOKENS lie -/
theorem mFst_not {p : Nat → Bool} : ∀ n : Nat, mFst p n < n → p (mFst p n) = false := by
  intro n
  induction n with
  | zero => intro h; omega
  | succ n ih =>
    intro h
    rw [mFst] at h ⊢
    split at h
    · omega
    · rename_i q
      rw [if_neg q]
      have hle := mFst_le p n
      rcases Nat.lt_or_ge (mFst p n) n with e | e
      · exact ih e
      · have e2 : mFst p n = n := by omega
        rw [e2]
        cases hp : p n with
        | false => rfl
        | true => exact absurd ⟨e2, hp⟩ q
/-- a run of bytes: from p up to e, where it stops -/
def isRun (q : Int → Bool) (b : Nat → Int) (p e : Nat) : Prop := p ≤ e ∧ (∀ j, p ≤ j → j < e → q (b j) = true) ∧ q (b e) = false
theorem isRun.one {q : Int → Bool} {b : Nat → Int} {p e f : Nat} (h : isRun q b p e) (k : isRun q b p f) : e = f := by
  rcases Nat.lt_trichotomy e f with x | x | x
  · have := k.2.1 e h.1 x
    rw [h.2.2] at this
    cases this
  · exact x
  · have := h.2.1 f k.1 x
    rw [k.2.2] at this
    cases this
theorem run_of {h : fwH} (hT : tOk h) {q : Int → Bool} (hq : q (-1) = false) {p : Nat} (hp : (p : Int) ≤ h 1 0 1) : isRun q (mBy h) p (p + mFst (fun i => q (mBy h (p + i))) 900) := by
  refine ⟨by omega, fun j h1 h2 => ?_, ?_⟩
  · have := mFst_pre (p := fun i => q (mBy h (p + i))) 900 (j - p) (by omega)
    rw [show p + (j - p) = j by omega] at this
    exact this
  · rcases Nat.lt_or_ge (mFst (fun i => q (mBy h (p + i))) 900) 900 with e | e
    · exact mFst_not (p := fun i => q (mBy h (p + i))) 900 e
    · have h1 := mRun_le (h := h) (q := q) hq hp
      have h2 := hT.2
      rw [mBy_end (by omega)]
      exact hq
def mBlB (x : Int) : Bool := decide (mBlank x)
def skB (b : Nat → Int) (p : Nat) : Nat := p + mFst (fun i => mBlB (b (p + i))) 900
def tokP (b : Nat → Int) : Nat → Nat
  | 0 => skB b 0
  | i + 1 => skB b (mNxt b (tokP b i))
theorem skB_run {h : fwH} (hT : tOk h) {p : Nat} (hp : (p : Int) ≤ h 1 0 1) : isRun mBlB (mBy h) p (skB (mBy h) p) := run_of hT (by decide) hp
theorem skB_le {h : fwH} {p : Nat} (hp : (p : Int) ≤ h 1 0 1) : (skB (mBy h) p : Int) ≤ h 1 0 1 := mRun_le (q := mBlB) (by decide) hp
theorem skB_bl {h : fwH} (hT : tOk h) {p : Nat} (hp : (p : Int) < h 1 0 1) (hb : mBlank (mBy h p)) : skB (mBy h) (p + 1) = skB (mBy h) p := by
  have r1 := skB_run hT (p := p) (by omega)
  have r2 := skB_run hT (p := p + 1) (by omega)
  refine isRun.one (q := mBlB) (b := mBy h) (p := p) ⟨by have := r2.1; omega, fun j h1 h2 => ?_, r2.2.2⟩ r1
  rcases Nat.lt_or_ge p j with e | e
  · exact r2.2.1 j (by omega) h2
  · rw [show j = p by omega]
    exact decide_eq_true hb
theorem skB_nb {h : fwH} (hT : tOk h) {p : Nat} (hp : (p : Int) ≤ h 1 0 1) (hb : ¬ mBlank (mBy h p)) : skB (mBy h) p = p :=
  isRun.one (skB_run hT hp) ⟨Nat.le_refl _, fun j h1 h2 => by omega, decide_eq_false hb⟩
theorem mNxt_gt {h : fwH} (hT : tOk h) {p : Nat} (hp : (p : Int) < h 1 0 1) : p < mNxt (mBy h) p := by
  unfold mNxt
  split
  · rename_i q
    have r := run_of hT (q := mLet) (by decide) (p := p) (by omega)
    have := r.1
    unfold mLetEnd
    rcases Nat.lt_or_ge p (p + mFst (fun i => mLet (mBy h (p + i))) 900) with e | e
    · exact e
    · have h2 := r.2.2
      rw [show p + mFst (fun i => mLet (mBy h (p + i))) 900 = p by omega, q] at h2
      cases h2
  · split
    · rename_i q
      have r := run_of hT (q := mDig) (by decide) (p := p) (by omega)
      have := r.1
      unfold mDigEnd
      rcases Nat.lt_or_ge p (p + mFst (fun i => mDig (mBy h (p + i))) 900) with e | e
      · exact e
      · have h2 := r.2.2
        rw [show p + mFst (fun i => mDig (mBy h (p + i))) 900 = p by omega, q] at h2
        cases h2
    · omega
theorem mCu_tok {h : fwH} (hT : tOk h) (s0 : fwCu) (h1 : s0.1 = 0) (h2 : s0.2.1 = 0) : ∀ k : Nat, skB (mBy h) (mCu (mBy h) (h 1 0 1) s0 k).1 = tokP (mBy h) (mCu (mBy h) (h 1 0 1) s0 k).2.1 ∧ (∀ j : Nat, j < (mCu (mBy h) (h 1 0 1) s0 k).2.1 → (mCu (mBy h) (h 1 0 1) s0 k).2.2.1 j = mKd (mBy h) (tokP (mBy h) j) ∧ (mCu (mBy h) (h 1 0 1) s0 k).2.2.2.1 j = (tokP (mBy h) j : Int) ∧ (mCu (mBy h) (h 1 0 1) s0 k).2.2.2.2 j = mVl (mBy h) (tokP (mBy h) j) ∧ (tokP (mBy h) j : Int) < h 1 0 1) ∧ (k ≤ (mCu (mBy h) (h 1 0 1) s0 k).1 ∨ h 1 0 1 ≤ (mCu (mBy h) (h 1 0 1) s0 k).1) := by
  intro k
  induction k with
  | zero =>
    rw [mCu, h1, h2]
    exact ⟨rfl, fun j hj => by omega, Or.inl (Nat.zero_le _)⟩
  | succ k ih =>
    have hr := mCu_rng (h := h) (s0 := s0) (by rw [h1]; exact hT.1) h2 k
    revert ih hr
    rw [mCu]
    generalize mCu (mBy h) (h 1 0 1) s0 k = s
    intro ih hr
    obtain ⟨i1, i2, i3⟩ := ih
    split
    · rename_i q
      split
      · rename_i qb
        refine ⟨?_, i2, ?_⟩
        · dsimp only
          rw [skB_bl hT q qb]
          exact i1
        · dsimp only
          omega
      · rename_i qb
        have hp := skB_nb hT (by omega) qb
        rw [hp] at i1
        have hg := mNxt_gt hT q
        refine ⟨?_, ?_, ?_⟩
        · dsimp only
          rw [tokP, ← i1]
        · intro j hj
          dsimp only at hj ⊢
          unfold fwFu
          by_cases e : j = s.2.1
          · subst e
            rw [if_pos rfl, if_pos rfl, if_pos rfl, ← i1]
            exact ⟨rfl, rfl, rfl, q⟩
          · rw [if_neg e, if_neg e, if_neg e]
            exact i2 j (by omega)
        · dsimp only
          omega
    · rename_i q
      exact ⟨i1, i2, Or.inr (by omega)⟩
theorem mWk_rng (b : Nat → Int) (p q : Nat) : 1 ≤ mWk b p q ∧ mWk b p q ≤ 16 := by
  unfold mWk
  have := mFst_le (mWkB b p q) 13
  split <;> omega
theorem mKd_rng (b : Nat → Int) (p : Nat) : 1 ≤ mKd b p ∧ mKd b p ≤ 16 := by
  unfold mKd
  have := mWk_rng b p (mLetEnd b p)
  (repeat' split) <;> omega
theorem mVl_rng (b : Nat → Int) (p : Nat) : 0 ≤ mVl b p ∧ mVl b p ≤ 1000000 := by
  unfold mVl
  split
  · omega
  · split
    · exact mNum_rng _ (fun j hj => mFst_pre (p := fun i => mDig (b (p + i))) 900 j hj)
    · omega
/-- how many TOKENS there are, the end's not counted -/
def tkN (h : fwH) : Nat := (mCuE h).2.1
theorem cut_at {h : fwH} (hT : tOk h) : (∀ i : Nat, i < tkN h → cutH h 14 0 i = mKd (mBy h) (tokP (mBy h) i) ∧ cutH h 15 0 i = (tokP (mBy h) i : Int) ∧ cutH h 16 0 i = mVl (mBy h) (tokP (mBy h) i) ∧ (tokP (mBy h) i : Int) < h 1 0 1) ∧ (tokP (mBy h) (tkN h) : Int) = h 1 0 1 ∧ cutH h 14 0 (tkN h) = 0 ∧ cutH h 15 0 (tkN h) = h 1 0 1 ∧ cutH h 16 0 (tkN h) = 0 ∧ tkN h ≤ 900 ∧ cutH h 1 0 5 = (tkN h : Int) + 1 := by
  have k := mCu_tok hT (0, 0, h 14 0, h 15 0, h 16 0) rfl rfl 900
  have hr := mCu_rng (h := h) (s0 := (0, 0, h 14 0, h 15 0, h 16 0)) (by exact hT.1) rfl 900
  have h2 := hT.2
  obtain ⟨k1, k2, k3⟩ := k
  have e1 : ((mCuE h).1 : Int) = h 1 0 1 := by unfold mCuE; omega
  have kk : tokP (mBy h) (tkN h) = (mCuE h).1 := by
    unfold tkN
    rw [mCuE, ← k1]
    exact skB_nb hT (by omega) (by rw [mBy_end (by have := e1; unfold mCuE at this; omega)]; decide)
  refine ⟨fun i hi => ?_, ?_, ?_, ?_, ?_, hr.2, rfl⟩
  · have hne : ¬ i = (mCuE h).2.1 := by unfold tkN at hi; omega
    have := k2 i hi
    refine ⟨?_, ?_, ?_, this.2.2.2⟩
    · show fwFu (mCuE h).2.2.1 (mCuE h).2.1 0 i = _
      unfold fwFu
      rw [if_neg hne]
      exact this.1
    · show fwFu (mCuE h).2.2.2.1 (mCuE h).2.1 (h 1 0 1) i = _
      unfold fwFu
      rw [if_neg hne]
      exact this.2.1
    · show fwFu (mCuE h).2.2.2.2 (mCuE h).2.1 0 i = _
      unfold fwFu
      rw [if_neg hne]
      exact this.2.2.1
  · rw [kk]; exact e1
  · show fwFu (mCuE h).2.2.1 (mCuE h).2.1 0 (tkN h) = 0
    unfold fwFu tkN
    rw [if_pos rfl]
  · show fwFu (mCuE h).2.2.2.1 (mCuE h).2.1 (h 1 0 1) (tkN h) = _
    unfold fwFu tkN
    rw [if_pos rfl]
  · show fwFu (mCuE h).2.2.2.2 (mCuE h).2.1 0 (tkN h) = 0
    unfold fwFu tkN
    rw [if_pos rfl]
theorem tk_cut {h : fwH} (hT : tOk h) : tk (cutH h) (tkN h) := by
  obtain ⟨k1, k2, k3, k4, k5, k6, k7⟩ := cut_at hT
  refine ⟨k7, k6, k3, fun i hi => ?_⟩
  rcases Nat.lt_or_ge i (tkN h) with e | e
  · obtain ⟨a, -, c, -⟩ := k1 i e
    rw [a, c]
    have := mKd_rng (mBy h) (tokP (mBy h) i)
    have := mVl_rng (mBy h) (tokP (mBy h) i)
    omega
  · rw [show i = tkN h by omega, k3, k5]
    omega
theorem tokP_le {h : fwH} (hT : tOk h) {i : Nat} (hi : i ≤ tkN h) : (tokP (mBy h) i : Int) ≤ h 1 0 1 := by
  obtain ⟨k1, k2, -⟩ := cut_at hT
  rcases Nat.lt_or_ge i (tkN h) with e | e
  · have := (k1 i e).2.2.2
    omega
  · rw [show i = tkN h by omega, k2]
    omega
/-! what a reading gives -/
def qOk (P : Nat → (Nat → Int) → Prop) (q : fwPq) : Prop := ∀ i W, q = .inr (i, W) → P i W
theorem qOk_then {P R : Nat → (Nat → Int) → Prop} {a : fwPq} {f : Nat → (Nat → Int) → fwPq} (h1 : qOk P a) (h2 : ∀ i W, P i W → qOk R (f i W)) : qOk R (qThen a f) := by
  intro i W e
  unfold qThen at e
  cases a with
  | inl x => cases e
  | inr s => exact h2 s.1 s.2 (h1 s.1 s.2 rfl) i W e
theorem qOk_word {P : Nat → (Nat → Int) → Prop} {K : Nat → Int} {x : Int} {i : Nat} {W : Nat → Int} (h : K i = x → P (i + 1) W) : qOk P (qWord K x i W) := by
  intro j W' e
  unfold qWord at e
  split at e
  · rename_i q
    cases e
    exact h q
  · cases e
theorem qOk_num {P : Nat → (Nat → Int) → Prop} {K V : Nat → Int} {lo hi : Int} {f : Int → Nat → (Nat → Int)} {i : Nat} (h : lo ≤ V i → V i ≤ hi → P (i + 1) (f (V i) i)) : qOk P (qNum K V lo hi f i) := by
  intro j W' e
  unfold qNum at e
  split at e
  · split at e
    · rename_i q
      cases e
      exact h q.1 q.2
    · cases e
  · cases e
theorem qOk_fact {P : Nat → (Nat → Int) → Prop} {K V : Nat → Int} {x lo hi : Int} {s i : Nat} {W : Nat → Int} (h : ∀ v, lo ≤ v → v ≤ hi → P (i + 1 + 1) (fwFu W s v)) : qOk P (qFact K V x lo hi s i W) :=
  qOk_then (P := fun j W' => j = i + 1 ∧ W' = W) (qOk_word (fun _ => ⟨rfl, rfl⟩)) (fun j W' e => by
    obtain ⟨rfl, rfl⟩ := e
    exact qOk_num (fun h1 h2 => h _ h1 h2))
def wFa (W : Nat → Int) (f : Nat) : Prop := (0 ≤ W (19 + (7 * f + 0)) ∧ W (19 + (7 * f + 0)) < W 0) ∧ (0 ≤ W (19 + (7 * f + 1)) ∧ W (19 + (7 * f + 1)) ≤ 99) ∧ (0 ≤ W (19 + (7 * f + 2)) ∧ W (19 + (7 * f + 2)) ≤ 9) ∧ (0 ≤ W (19 + (7 * f + 3)) ∧ W (19 + (7 * f + 3)) ≤ 9) ∧ (0 ≤ W (19 + (7 * f + 4)) ∧ W (19 + (7 * f + 4)) ≤ 9) ∧ (0 ≤ W (19 + (7 * f + 5)) ∧ W (19 + (7 * f + 5)) ≤ 7) ∧ (0 ≤ W (19 + (7 * f + 6)) ∧ W (19 + (7 * f + 6)) ≤ 255)
/-- a picture that a text can give -/
def wG (W : Nat → Int) : Prop := (3 ≤ W 0 ∧ W 0 ≤ 10) ∧ (∀ c : Nat, c < 10 → 0 ≤ W (9 + c) ∧ W (9 + c) ≤ 40) ∧ (0 ≤ W 1 ∧ W 1 ≤ 40) ∧ (1 ≤ W 2 ∧ W 2 ≤ 40) ∧ (1 ≤ W 3 ∧ W 3 ≤ 999) ∧ (W 4 = 0 ∨ W 4 = 1) ∧ (0 ≤ W 5 ∧ W 5 < W 0) ∧ (0 ≤ W 6 ∧ W 6 ≤ 8) ∧ (∀ f : Nat, f < 8 → wFa W f) ∧ (∀ j : Nat, 7 * (W 6).toNat ≤ j → j < 56 → W (19 + j) = 0)
theorem fwFu_ne {g : Nat → Int} {j s : Nat} {x : Int} (h : s ≠ j) : fwFu g j x s = g s := if_neg h
theorem fwFu_at (g : Nat → Int) (j : Nat) (x : Int) : fwFu g j x j = x := if_pos rfl
theorem qOk_hts {K V : Nat → Int} : ∀ (n i : Nat) (W : Nat → Int), n ≤ 11 → W 0 = ((11 - n : Nat) : Int) → (∀ c : Nat, c < 10 → 0 ≤ W (9 + c) ∧ W (9 + c) ≤ 40) → (∀ s : Nat, s ≠ 0 → (s < 9 ∨ 19 ≤ s) → W s = 0) → qOk (fun j W' => i ≤ j ∧ (3 ≤ W' 0 ∧ W' 0 ≤ 10) ∧ (∀ c : Nat, c < 10 → 0 ≤ W' (9 + c) ∧ W' (9 + c) ≤ 40) ∧ (∀ s : Nat, s ≠ 0 → (s < 9 ∨ 19 ≤ s) → W' s = 0)) (qHts K V n i W) := by
  intro n
  induction n with
  | zero => intro i W hn h0 h1 h2 j W' e; cases e
  | succ n ih =>
    intro i W hn h0 h1 h2 j W' e
    rw [qHts] at e
    split at e
    · split at e
      · rename_i q
        split at e
        · cases e
        · rename_i q0
          have := ih (i + 1) _ (by omega) (by rw [fwFu_at]; omega) (fun c hc => by
            rw [fwFu_ne (by omega)]
            by_cases ec : 9 + c = 9 + (10 - n)
            · rw [ec, fwFu_at]; omega
            · rw [fwFu_ne ec]; exact h1 c hc) (fun s hs hs2 => by
            rw [fwFu_ne hs, fwFu_ne (by omega)]
            exact h2 s hs hs2) j W' e
          exact ⟨by omega, this.2⟩
      · cases e
    · split at e
      · rename_i q
        cases e
        exact ⟨Nat.le_refl _, ⟨q, by omega⟩, h1, h2⟩
      · cases e
theorem qOk_first {K V : Nat → Int} (i : Nat) : qOk (fun j W => i ≤ j ∧ wG W ∧ W 7 = 0 ∧ W 8 = 0) (qFirst K V i (fun _ => 0)) := by
  unfold qFirst
  refine qOk_then (P := fun j W => i ≤ j ∧ W = fun _ => 0) (qOk_word (fun _ => ⟨by omega, rfl⟩)) (fun j W e => ?_)
  obtain ⟨ej, rfl⟩ := e
  refine qOk_then (qOk_hts 11 j _ (by omega) rfl (fun c hc => by omega) (fun s _ _ => rfl)) (fun j2 W2 e2 => ?_)
  obtain ⟨a1, a2, a3, a4⟩ := e2
  refine qOk_then (P := fun j W => i ≤ j ∧ ∃ v, 0 ≤ v ∧ v ≤ 40 ∧ W = fwFu W2 1 v) (qOk_fact (fun v h1 h2 => ⟨by omega, v, h1, h2, rfl⟩)) (fun j3 W3 e3 => ?_)
  obtain ⟨b0, v1, b1, b2, rfl⟩ := e3
  refine qOk_then (P := fun j W => i ≤ j ∧ ∃ v, 1 ≤ v ∧ v ≤ 40 ∧ W = fwFu (fwFu W2 1 v1) 2 v) (qOk_fact (fun v h1 h2 => ⟨by omega, v, h1, h2, rfl⟩)) (fun j4 W4 e4 => ?_)
  obtain ⟨c0, v2, c1, c2, rfl⟩ := e4
  refine qOk_then (P := fun j W => i ≤ j ∧ ∃ v, 1 ≤ v ∧ v ≤ 999 ∧ W = fwFu (fwFu (fwFu W2 1 v1) 2 v2) 3 v) (qOk_fact (fun v h1 h2 => ⟨by omega, v, h1, h2, rfl⟩)) (fun j5 W5 e5 => ?_)
  obtain ⟨d0, v3, d1, d2, rfl⟩ := e5
  have key : ∀ v4 : Int, (v4 = 0 ∨ v4 = 1) → wG (fwFu (fwFu (fwFu (fwFu W2 1 v1) 2 v2) 3 v3) 4 v4) ∧ fwFu (fwFu (fwFu (fwFu W2 1 v1) 2 v2) 3 v3) 4 v4 7 = 0 ∧ fwFu (fwFu (fwFu (fwFu W2 1 v1) 2 v2) 3 v3) 4 v4 8 = 0 := by
    intro v4 h4
    have rd : ∀ s : Nat, s ≠ 1 → s ≠ 2 → s ≠ 3 → s ≠ 4 → fwFu (fwFu (fwFu (fwFu W2 1 v1) 2 v2) 3 v3) 4 v4 s = W2 s := fun s k1 k2 k3 k4 => by
      rw [fwFu_ne k4, fwFu_ne k3, fwFu_ne k2, fwFu_ne k1]
    have r0 := rd 0 (by omega) (by omega) (by omega) (by omega)
    have z : ∀ s : Nat, 19 ≤ s → fwFu (fwFu (fwFu (fwFu W2 1 v1) 2 v2) 3 v3) 4 v4 s = 0 := fun s hs => by
      rw [rd s (by omega) (by omega) (by omega) (by omega)]
      exact a4 s (by omega) (by omega)
    refine ⟨⟨by rw [r0]; exact a2, fun c hc => by rw [rd (9 + c) (by omega) (by omega) (by omega) (by omega)]; exact a3 c hc, ⟨b1, b2⟩, ⟨c1, c2⟩, ⟨d1, d2⟩, h4, ?_, ?_, fun f hf => ?_, fun j _ _ => z _ (by omega)⟩, ?_, ?_⟩
    · rw [rd 5 (by omega) (by omega) (by omega) (by omega), a4 5 (by omega) (by omega), r0]; omega
    · rw [rd 6 (by omega) (by omega) (by omega) (by omega), a4 6 (by omega) (by omega)]; omega
    · unfold wFa
      rw [r0, z (19 + (7 * f + 0)) (by omega), z (19 + (7 * f + 1)) (by omega), z (19 + (7 * f + 2)) (by omega), z (19 + (7 * f + 3)) (by omega), z (19 + (7 * f + 4)) (by omega), z (19 + (7 * f + 5)) (by omega), z (19 + (7 * f + 6)) (by omega)]
      omega
    · rw [rd 7 (by omega) (by omega) (by omega) (by omega)]; exact a4 7 (by omega) (by omega)
    · rw [rd 8 (by omega) (by omega) (by omega) (by omega)]; exact a4 8 (by omega) (by omega)
  intro j6 W6 e6
  unfold qSide at e6
  split at e6
  · cases e6
    exact ⟨by omega, key 1 (Or.inr rfl)⟩
  · split at e6
    · cases e6
      exact ⟨by omega, key 0 (Or.inl rfl)⟩
    · cases e6
theorem wG_fact {W : Nat → Int} (hW : wG W) {f k : Nat} {v : Int} (hf : (f : Int) < W 6) (hk : k < 7) (hv : (k = 0 → 0 ≤ v ∧ v < W 0) ∧ (k = 1 → 0 ≤ v ∧ v ≤ 99) ∧ (k = 2 ∨ k = 3 ∨ k = 4 → 0 ≤ v ∧ v ≤ 9) ∧ (k = 5 → 0 ≤ v ∧ v ≤ 7) ∧ (k = 6 → 0 ≤ v ∧ v ≤ 255)) : wG (fwFu W (19 + (7 * f + k)) v) := by
  obtain ⟨a1, a2, a3, a4, a5, a6, a7, a8, a9, a10⟩ := hW
  have rd : ∀ s : Nat, s < 19 → fwFu W (19 + (7 * f + k)) v s = W s := fun s hs => fwFu_ne (by omega)
  unfold wG
  rw [rd 0 (by omega), rd 1 (by omega), rd 2 (by omega), rd 3 (by omega), rd 4 (by omega), rd 5 (by omega), rd 6 (by omega)]
  refine ⟨a1, fun c hc => by rw [rd (9 + c) (by omega)]; exact a2 c hc, a3, a4, a5, a6, a7, a8, fun g hg => ?_, fun j h1 h2 => ?_⟩
  · obtain ⟨b0, b1, b2, b3, b4, b5, b6⟩ := a9 g hg
    obtain ⟨v0, v1, v2, v5, v6⟩ := hv
    unfold wFa
    rw [rd 0 (by omega)]
    unfold fwFu
    refine ⟨?_, ?_, ?_, ?_, ?_, ?_, ?_⟩
    · by_cases e : 19 + (7 * g + 0) = 19 + (7 * f + k)
      · rw [if_pos e]; exact v0 (by omega)
      · rw [if_neg e]; exact b0
    · by_cases e : 19 + (7 * g + 1) = 19 + (7 * f + k)
      · rw [if_pos e]; exact v1 (by omega)
      · rw [if_neg e]; exact b1
    · by_cases e : 19 + (7 * g + 2) = 19 + (7 * f + k)
      · rw [if_pos e]; exact v2 (by omega)
      · rw [if_neg e]; exact b2
    · by_cases e : 19 + (7 * g + 3) = 19 + (7 * f + k)
      · rw [if_pos e]; exact v2 (by omega)
      · rw [if_neg e]; exact b3
    · by_cases e : 19 + (7 * g + 4) = 19 + (7 * f + k)
      · rw [if_pos e]; exact v2 (by omega)
      · rw [if_neg e]; exact b4
    · by_cases e : 19 + (7 * g + 5) = 19 + (7 * f + k)
      · rw [if_pos e]; exact v5 (by omega)
      · rw [if_neg e]; exact b5
    · by_cases e : 19 + (7 * g + 6) = 19 + (7 * f + k)
      · rw [if_pos e]; exact v6 (by omega)
      · rw [if_neg e]; exact b6
  · rw [fwFu_ne (by omega)]
    exact a10 j h1 h2
theorem or_255 {x : Int} {g : Nat} (hx : 0 ≤ x ∧ x ≤ 255) (hg : g < 8) : 0 ≤ fwOr x (fwShl 1 (g : Int)) ∧ fwOr x (fwShl 1 (g : Int)) ≤ 255 := by
  obtain ⟨a, rfl⟩ : ∃ a : Nat, x = a := ⟨x.toNat, by omega⟩
  have h2 : 2 ^ g < 2 ^ 8 := Nat.pow_lt_pow_right (by omega) hg
  rw [fwShl1_nat (by omega), fwOr_nat (by omega) (by omega)]
  have := Nat.or_lt_two_pow (n := 8) (x := a) (y := 2 ^ g) (by omega) h2
  omega
/-- what a reading of FOLK leaves -/
def wS (W W' : Nat → Int) : Prop := W' 0 = W 0 ∧ W' 6 = W 6 ∧ W' 7 = W 7 ∧ W' 8 = W 8
theorem wS_fu {W : Nat → Int} {s : Nat} {v : Int} (h : 19 ≤ s) : wS W (fwFu W s v) := ⟨fwFu_ne (by omega), fwFu_ne (by omega), fwFu_ne (by omega), fwFu_ne (by omega)⟩
theorem wS.tr {W W1 W2 : Nat → Int} (a : wS W W1) (b : wS W1 W2) : wS W W2 := ⟨b.1.trans a.1, b.2.1.trans a.2.1, b.2.2.1.trans a.2.2.1, b.2.2.2.trans a.2.2.2⟩
theorem wG_bef {W : Nat → Int} (hW : wG W) {f g : Nat} (hf : (f : Int) < W 6) (hg : g < f) : wG (qBef W f g) ∧ wS W (qBef W f g) := by
  have h8 := hW.2.2.2.2.2.2.2.1
  have hF := hW.2.2.2.2.2.2.2.2.1
  have o1 := or_255 (hF f (by omega)).2.2.2.2.2.2 (g := g) (by omega)
  have w1 := wG_fact hW (f := f) (k := 6) hf (by omega) (v := fwOr (W (19 + (7 * f + 6))) (fwShl 1 (g : Int))) (by omega)
  have s1 : wS W (fwFu W (19 + (7 * f + 6)) (fwOr (W (19 + (7 * f + 6))) (fwShl 1 (g : Int)))) := wS_fu (by omega)
  have o2 := or_255 (w1.2.2.2.2.2.2.2.2.1 g (by omega)).2.2.2.2.2.2 (g := f) (by omega)
  have w2 := wG_fact w1 (f := g) (k := 6) (by rw [s1.2.1]; omega) (by omega) (v := fwOr ((fwFu W (19 + (7 * f + 6)) (fwOr (W (19 + (7 * f + 6))) (fwShl 1 (g : Int)))) (19 + (7 * g + 6))) (fwShl 1 (f : Int))) (by omega)
  exact ⟨w2, s1.tr (wS_fu (by omega))⟩
theorem qOk_tl {K V : Nat → Int} {f : Nat} : ∀ (n i : Nat) (W : Nat → Int), wG W → (f : Int) < W 6 → qOk (fun j W' => i ≤ j ∧ wG W' ∧ wS W W') (qTl K V f n i W) := by
  intro n
  induction n with
  | zero => intro i W hW hf j W' e; cases e; exact ⟨Nat.le_refl _, hW, rfl, rfl, rfl, rfl⟩
  | succ n ih =>
    intro i W hW hf j W' e
    rw [qTl] at e
    split at e
    · split at e
      · rename_i q
        have hb := wG_bef hW hf (g := (V i).toNat) (by omega)
        have := ih (i + 1) _ hb.1 (by rw [hb.2.2.1]; exact hf) j W' e
        exact ⟨by omega, this.2.1, hb.2.tr this.2.2⟩
      · cases e
    · cases e; exact ⟨Nat.le_refl _, hW, rfl, rfl, rfl, rfl⟩
theorem qOk_factW {K V : Nat → Int} {x lo hi : Int} {i f k : Nat} {W : Nat → Int} (hW : wG W) (hf : (f : Int) < W 6) (hk : k < 7) (hv : ∀ v, lo ≤ v → v ≤ hi → (k = 0 → 0 ≤ v ∧ v < W 0) ∧ (k = 1 → 0 ≤ v ∧ v ≤ 99) ∧ (k = 2 ∨ k = 3 ∨ k = 4 → 0 ≤ v ∧ v ≤ 9) ∧ (k = 5 → 0 ≤ v ∧ v ≤ 7) ∧ (k = 6 → 0 ≤ v ∧ v ≤ 255)) : qOk (fun j W' => i ≤ j ∧ wG W' ∧ wS W W') (qFact K V x lo hi (19 + (7 * f + k)) i W) :=
  qOk_fact (fun v h1 h2 => ⟨by omega, wG_fact hW hf hk (hv v h1 h2), wS_fu (by omega)⟩)
theorem qOk_talk {K V : Nat → Int} {f i : Nat} {W : Nat → Int} (hW : wG W) (hf : (f : Int) < W 6) : qOk (fun j W' => i ≤ j ∧ wG W' ∧ wS W W') (qTalk K V f i W) := by
  unfold qTalk
  refine qOk_then (qOk_factW hW hf (by omega) (by omega)) (fun j1 W1 e1 => ?_)
  obtain ⟨a1, a2, a3⟩ := e1
  refine qOk_then (P := fun j W' => i ≤ j ∧ W' = W1) (qOk_word (fun _ => ⟨by omega, rfl⟩)) (fun j2 W2 e2 => ?_)
  obtain ⟨b1, rfl⟩ := e2
  refine qOk_then (P := fun j W' => i ≤ j ∧ wG W' ∧ wS W W') (qOk_num (fun h1 h2 => ?_)) (fun j3 W3 e3 => ?_)
  · have hb := wG_bef a2 (f := f) (g := (V j2).toNat) (by rw [a3.2.1]; exact hf) (by omega)
    exact ⟨by omega, hb.1, a3.tr hb.2⟩
  · obtain ⟨c1, c2, c3⟩ := e3
    intro j4 W4 e4
    have := qOk_tl 900 j3 W3 c2 (by rw [c3.2.1]; exact hf) j4 W4 e4
    exact ⟨by omega, this.2.1, c3.tr this.2.2⟩
theorem wG_size {W : Nat → Int} (hW : wG W) {f : Nat} (h6 : W 6 = (f : Int)) (hf : f < 8) : wG (fwFu W 6 ((f : Int) + 1)) := by
  obtain ⟨a1, a2, a3, a4, a5, a6, a7, a8, a9, a10⟩ := hW
  have rd : ∀ s : Nat, s ≠ 6 → fwFu W 6 ((f : Int) + 1) s = W s := fun s hs => fwFu_ne hs
  unfold wG
  rw [rd 0 (by omega), rd 1 (by omega), rd 2 (by omega), rd 3 (by omega), rd 4 (by omega), rd 5 (by omega), fwFu_at]
  refine ⟨a1, fun c hc => by rw [rd (9 + c) (by omega)]; exact a2 c hc, a3, a4, a5, a6, a7, by omega, fun g hg => ?_, fun j h1 h2 => ?_⟩
  · have := a9 g hg
    unfold wFa at this ⊢
    rw [rd 0 (by omega), rd (19 + (7 * g + 0)) (by omega), rd (19 + (7 * g + 1)) (by omega), rd (19 + (7 * g + 2)) (by omega), rd (19 + (7 * g + 3)) (by omega), rd (19 + (7 * g + 4)) (by omega), rd (19 + (7 * g + 5)) (by omega), rd (19 + (7 * g + 6)) (by omega)]
    exact this
  · rw [rd (19 + j) (by omega)]
    exact a10 j (by omega) h2
theorem qOk_folk {K V : Nat → Int} {f i : Nat} {W : Nat → Int} (hW : wG W) (h6 : W 6 = (f : Int)) : qOk (fun j W' => i ≤ j ∧ wG W' ∧ W' 7 = W 7 ∧ W' 8 = W 8) (qFolk K V f i W) := by
  unfold qFolk
  split
  · intro j W' e; cases e
  · rename_i h8
    have w0 := wG_size hW h6 (by omega)
    have s7 : fwFu W 6 ((f : Int) + 1) 7 = W 7 := fwFu_ne (by omega)
    have s8 : fwFu W 6 ((f : Int) + 1) 8 = W 8 := fwFu_ne (by omega)
    have s6 : fwFu W 6 ((f : Int) + 1) 6 = (f : Int) + 1 := fwFu_at _ _ _
    revert w0 s7 s8 s6
    generalize fwFu W 6 ((f : Int) + 1) = W0
    intro w0 s7 s8 s6
    have fin : ∀ (j : Nat) (W' : Nat → Int), (i ≤ j ∧ wG W' ∧ wS W0 W') → i ≤ j ∧ wG W' ∧ W' 7 = W 7 ∧ W' 8 = W 8 := fun j W' k => ⟨k.1, k.2.1, k.2.2.2.2.1.trans s7, k.2.2.2.2.2.trans s8⟩
    refine qOk_then (P := fun j W' => i ≤ j ∧ W' = W0) (qOk_word (fun _ => ⟨by omega, rfl⟩)) (fun j1 W1 e1 => ?_)
    obtain ⟨a1, rfl⟩ := e1
    refine qOk_then (qOk_factW w0 (f := f) (by omega) (by omega) (by omega)) (fun j2 W2 e2 => ?_)
    obtain ⟨b1, b2, b3⟩ := e2
    refine qOk_then (qOk_factW b2 (f := f) (by rw [b3.2.1]; omega) (by omega) (by omega)) (fun j3 W3 e3 => ?_)
    obtain ⟨c1, c2, c3⟩ := e3
    have c4 := b3.tr c3
    refine qOk_then (qOk_factW c2 (f := f) (by rw [c4.2.1]; omega) (by omega) (by omega)) (fun j4 W4 e4 => ?_)
    obtain ⟨d1, d2, d3⟩ := e4
    have d4 := c4.tr d3
    refine qOk_then (qOk_factW d2 (f := f) (by rw [d4.2.1]; omega) (by omega) (by omega)) (fun j5 W5 e5 => ?_)
    obtain ⟨f1, f2, f3⟩ := e5
    have f4 := d4.tr f3
    refine qOk_then (qOk_factW f2 (f := f) (by rw [f4.2.1]; omega) (by omega) (by omega)) (fun j6 W6 e6 => ?_)
    obtain ⟨g1, g2, g3⟩ := e6
    have g4 := f4.tr g3
    split
    · intro j7 W7 e7
      have := qOk_talk g2 (f := f) (by rw [g4.2.1]; omega) j7 W7 e7
      exact fin j7 W7 ⟨by omega, this.2.1, g4.tr this.2.2⟩
    · intro j7 W7 e7
      cases e7
      exact fin _ _ ⟨by omega, g2, g4⟩
theorem wG_heap {W : Nat → Int} (hW : wG W) {v : Int} (h0 : 0 ≤ v) (h1 : v ≤ W 0 - 1) : wG (fwFu W 5 v) := by
  obtain ⟨a1, a2, a3, a4, a5, a6, a7, a8, a9, a10⟩ := hW
  have rd : ∀ s : Nat, s ≠ 5 → fwFu W 5 v s = W s := fun s hs => fwFu_ne hs
  unfold wG
  rw [rd 0 (by omega), rd 1 (by omega), rd 2 (by omega), rd 3 (by omega), rd 4 (by omega), rd 6 (by omega), fwFu_at]
  refine ⟨a1, fun c hc => by rw [rd (9 + c) (by omega)]; exact a2 c hc, a3, a4, a5, a6, by omega, a8, fun g hg => ?_, fun j h1 h2 => ?_⟩
  · have := a9 g hg
    unfold wFa at this ⊢
    rw [rd 0 (by omega), rd (19 + (7 * g + 0)) (by omega), rd (19 + (7 * g + 1)) (by omega), rd (19 + (7 * g + 2)) (by omega), rd (19 + (7 * g + 3)) (by omega), rd (19 + (7 * g + 4)) (by omega), rd (19 + (7 * g + 5)) (by omega), rd (19 + (7 * g + 6)) (by omega)]
    exact this
  · rw [rd (19 + j) (by omega)]
    exact a10 j h1 h2
/-- the picture between lines -/
def wL (W : Nat → Int) : Prop := (W 7 = 0 ∧ W = fun _ => 0) ∨ (1 ≤ W 7 ∧ wG W ∧ W 8 = 0)
theorem qOk_line {K V : Nat → Int} {i : Nat} {W : Nat → Int} (hW : wL W) : qOk (fun j W' => i < j ∧ wG W' ∧ W' 7 = W 7 ∧ W' 8 = 0) (qLine K V i W) := by
  unfold qLine
  refine qOk_then (P := fun j W' => i ≤ j ∧ wG W' ∧ W' 7 = W 7 ∧ W' 8 = 0) ?_ (fun j1 W1 e1 => qOk_word (fun _ => ⟨by omega, e1.2⟩))
  unfold qBody
  rcases hW with ⟨h7, rfl⟩ | ⟨h7, hW, h8⟩
  · rw [if_pos rfl]
    exact qOk_first i
  · rw [if_neg (by omega)]
    split
    · intro j W' e
      have := qOk_folk hW (f := (W 6).toNat) (by have := hW.2.2.2.2.2.2.2.1; omega) j W' e
      exact ⟨this.1, this.2.1, this.2.2.1, this.2.2.2.trans h8⟩
    · unfold qHeap
      refine qOk_fact (fun v h1 h2 => ⟨by omega, wG_heap hW h1 h2, ?_, ?_⟩)
      · exact fwFu_ne (by omega)
      · rw [fwFu_ne (by omega)]; exact h8
theorem wG_lines {W : Nat → Int} (hW : wG W) (v : Int) : wG (fwFu W 7 v) := by
  obtain ⟨a1, a2, a3, a4, a5, a6, a7, a8, a9, a10⟩ := hW
  have rd : ∀ s : Nat, s ≠ 7 → fwFu W 7 v s = W s := fun s hs => fwFu_ne hs
  unfold wG
  rw [rd 0 (by omega), rd 1 (by omega), rd 2 (by omega), rd 3 (by omega), rd 4 (by omega), rd 5 (by omega), rd 6 (by omega)]
  refine ⟨a1, fun c hc => by rw [rd (9 + c) (by omega)]; exact a2 c hc, a3, a4, a5, a6, a7, a8, fun g hg => ?_, fun j h1 h2 => ?_⟩
  · have := a9 g hg
    unfold wFa at this ⊢
    rw [rd 0 (by omega), rd (19 + (7 * g + 0)) (by omega), rd (19 + (7 * g + 1)) (by omega), rd (19 + (7 * g + 2)) (by omega), rd (19 + (7 * g + 3)) (by omega), rd (19 + (7 * g + 4)) (by omega), rd (19 + (7 * g + 5)) (by omega), rd (19 + (7 * g + 6)) (by omega)]
    exact this
  · rw [rd (19 + j) (by omega)]
    exact a10 j h1 h2
theorem qRun_stay {K V : Nat → Int} {c i : Nat} {W : Nat → Int} (h : qRun K V c = .inr (i, W)) (hk : K i = 0) : ∀ n, qRun K V (c + n) = .inr (i, W) := by
  intro n
  induction n with
  | zero => exact h
  | succ n ih => rw [← Nat.add_assoc, qRun, ih]; show (if K i = 0 then _ else _) = _; rw [if_pos hk]
theorem qRun_flt {K V : Nat → Int} {c : Nat} {e : Int × Nat} (h : qRun K V c = .inl e) : ∀ n, qRun K V (c + n) = .inl e := by
  intro n
  induction n with
  | zero => exact h
  | succ n ih => rw [← Nat.add_assoc, qRun, ih]; rfl
theorem qRun_next {K V : Nat → Int} {c i : Nat} {W : Nat → Int} (h : qRun K V c = .inr (i, W)) (hk : K i ≠ 0) : qRun K V (c + 1) = qThen (qLine K V i W) (fun i W => .inr (i, fwFu W 7 (W 7 + 1))) := by
  rw [qRun, h]
  show (if K i = 0 then _ else _) = _
  rw [if_neg hk]
theorem wL_init : wL (fun _ => 0) := Or.inl ⟨rfl, rfl⟩
theorem qRun_wL {K V : Nat → Int} {i i2 : Nat} {W W2 : Nat → Int} (hW : wL W) (e : qLine K V i W = .inr (i2, W2)) : i < i2 ∧ wL (fwFu W2 7 (W2 7 + 1)) ∧ W2 7 = W 7 := by
  have := qOk_line hW i2 W2 e
  refine ⟨this.1, Or.inr ⟨?_, wG_lines this.2.1 _, ?_⟩, this.2.2.1⟩
  · rw [fwFu_at, this.2.2.1]
    rcases hW with ⟨h7, -⟩ | ⟨h7, -⟩ <;> omega
  · rw [fwFu_ne (by omega)]; exact this.2.2.2
theorem wL_rng {W : Nat → Int} (hW : wL W) : (0 ≤ W 6 ∧ W 6 ≤ 8) ∧ (0 ≤ W 0 ∧ W 0 ≤ 10) ∧ (W 7 = 0 → W 0 = 0) := by
  rcases hW with ⟨h7, rfl⟩ | ⟨h7, hW, h8⟩
  · exact ⟨by dsimp only; omega, by dsimp only; omega, fun _ => rfl⟩
  · have h1 := hW.2.2.2.2.2.2.2.1
    have h2 := hW.1
    exact ⟨h1, by omega, fun q => by omega⟩

section
/-- the state of a play, of base 3, by who is won and who is barred -/
def dgt (a b f : Nat) : Nat := if a.testBit f = true then 1 else if b.testBit f = true then 2 else 0
def kO (a b : Nat) : Nat → Nat
  | 0 => 0
  | f + 1 => kO a b f + dgt a b f * 3 ^ f
theorem dgt_3 (a b f : Nat) : dgt a b f < 3 := by
  unfold dgt
  (repeat' split) <;> omega
theorem kO_lt (a b : Nat) : ∀ n, kO a b n < 3 ^ n := by
  intro n
  induction n with
  | zero => exact Nat.one_pos
  | succ n ih =>
    have h1 := dgt_3 a b n
    have h2 : dgt a b n * 3 ^ n ≤ 2 * 3 ^ n := Nat.mul_le_mul_right _ (by omega)
    rw [kO, Nat.pow_succ]
    omega
theorem kO_dg (a b : Nat) : ∀ n j, mDg (kO a b n) j = if j < n then dgt a b j else 0 := by
  intro n
  induction n with
  | zero => intro j; rw [if_neg (by omega)]; unfold mDg kO; simp
  | succ n ih =>
    intro j
    rw [kO, mDg_add (mDg_ge (kO_lt a b n) (Nat.le_refl _)) (dgt_3 a b n), ih]
    by_cases e : j = n
    · subst e
      rw [if_pos rfl, if_pos (Nat.lt_succ_self _)]
    · rw [if_neg e]
      by_cases c : j < n
      · rw [if_pos c, if_pos (by omega)]
      · rw [if_neg c, if_neg (by omega)]
theorem tb_ge {a n j : Nat} (ha : a < 2 ^ n) (hj : n ≤ j) : a.testBit j = false := Nat.testBit_lt_two_pow (Nat.lt_of_lt_of_le ha (Nat.pow_le_pow_right (by decide) hj))
theorem kO_dg2 {a b n : Nat} (ha : a < 2 ^ n) (hb : b < 2 ^ n) (j : Nat) : mDg (kO a b n) j = dgt a b j := by
  rw [kO_dg]
  by_cases c : j < n
  · rw [if_pos c]
  · rw [if_neg c]
    unfold dgt
    rw [tb_ge ha (by omega), tb_ge hb (by omega)]
    rfl
theorem dis {a b : Nat} (hd : a &&& b = 0) (j : Nat) (h1 : a.testBit j = true) : b.testBit j = false := by
  have := congrArg (fun z => Nat.testBit z j) hd
  simp only [Nat.testBit_and, Nat.zero_testBit, h1, Bool.true_and] at this
  exact this
theorem kO_w {a b n : Nat} (ha : a < 2 ^ n) (hb : b < 2 ^ n) (hn : n ≤ 8) : mWnN (kO a b n) = a := by
  apply Nat.eq_of_testBit_eq
  intro j
  unfold mWnN
  rw [mSetN_bit, kO_dg2 ha hb]
  unfold dgt
  cases h : a.testBit j with
  | true =>
    have : j < 8 := by
      rcases Nat.lt_or_ge j 8 with q | q
      · exact q
      · rw [tb_ge ha (by omega)] at h; cases h
    simp [this]
  | false =>
    simp only [Bool.false_eq_true, if_false]
    apply decide_eq_false
    intro q
    have := q.2
    split at this <;> omega
theorem kO_b {a b n : Nat} (ha : a < 2 ^ n) (hb : b < 2 ^ n) (hn : n ≤ 8) (hd : a &&& b = 0) : mBrN (kO a b n) = b := by
  apply Nat.eq_of_testBit_eq
  intro j
  unfold mBrN
  rw [mSetN_bit, kO_dg2 ha hb]
  unfold dgt
  cases h : a.testBit j with
  | true =>
    rw [dis hd j h, if_pos rfl]
    apply decide_eq_false
    omega
  | false =>
    simp only [Bool.false_eq_true, if_false]
    cases h2 : b.testBit j with
    | true =>
      have : j < 8 := by
        rcases Nat.lt_or_ge j 8 with q | q
        · exact q
        · rw [tb_ge hb (by omega)] at h2; cases h2
      simp [this]
    | false =>
      simp only [Bool.false_eq_true, if_false]
      apply decide_eq_false
      omega
theorem kO_mv {a b n : Nat} (ha : a < 2 ^ n) (hb : b < 2 ^ n) (hd : a &&& b = 0) : ∀ m, mMvN (kO a b n) m = cb a m + cb b m := by
  intro m
  induction m with
  | zero => rfl
  | succ m ih =>
    rw [mMvN, cb, cb, ih, kO_dg2 ha hb]
    unfold dgt
    cases h : a.testBit m with
    | true => rw [dis hd m h]; simp; omega
    | false => cases h2 : b.testBit m <;> simp <;> omega
theorem kO_a1 {a b f : Nat} (h1 : a.testBit f = false) (h2 : b.testBit f = false) : ∀ n, kO (a ||| 2 ^ f) b n = kO a b n + (if f < n then 1 * 3 ^ f else 0) := by
  intro n
  induction n with
  | zero => rfl
  | succ n ih =>
    rw [kO, kO, ih]
    unfold dgt
    rw [Nat.testBit_or, Nat.testBit_two_pow]
    by_cases e : f = n
    · subst e
      rw [if_neg (Nat.lt_irrefl _), if_pos (Nat.lt_succ_self _), h1, h2]
      simp
    · rw [decide_eq_false e, Bool.or_false]
      by_cases c : f < n
      · rw [if_pos c, if_pos (show f < n + 1 by omega)]; omega
      · rw [if_neg c, if_neg (show ¬ f < n + 1 by omega)]; omega
theorem kO_a2 {a b f : Nat} (h1 : a.testBit f = false) (h2 : b.testBit f = false) : ∀ n, kO a (b ||| 2 ^ f) n = kO a b n + (if f < n then 2 * 3 ^ f else 0) := by
  intro n
  induction n with
  | zero => rfl
  | succ n ih =>
    rw [kO, kO, ih]
    unfold dgt
    rw [Nat.testBit_or, Nat.testBit_two_pow]
    by_cases e : f = n
    · subst e
      rw [if_neg (Nat.lt_irrefl _), if_pos (Nat.lt_succ_self _), h1, h2]
      simp
    · rw [decide_eq_false e, Bool.or_false]
      by_cases c : f < n
      · rw [if_pos c, if_pos (show f < n + 1 by omega)]; omega
      · rw [if_neg c, if_neg (show ¬ f < n + 1 by omega)]; omega
theorem mv_ful {K : Nat} : ∀ n, mMvN K n ≤ n ∧ (mMvN K n = n ↔ ∀ f, f < n → mDg K f ≠ 0) := by
  intro n
  induction n with
  | zero => exact ⟨Nat.le_refl _, fun _ f hf => absurd hf (Nat.not_lt_zero _), fun _ => rfl⟩
  | succ n ih =>
    rw [mMvN]
    obtain ⟨i1, i2⟩ := ih
    by_cases c : mDg K n = 0
    · rw [if_pos c]
      exact ⟨by omega, fun q => by omega, fun q => absurd c (q n (Nat.lt_succ_self _))⟩
    · rw [if_neg c]
      refine ⟨by omega, fun q f hf => ?_, fun q => ?_⟩
      · rcases Nat.lt_succ_iff_lt_or_eq.mp hf with z | z
        · exact i2.mp (by omega) f z
        · rw [z]; exact c
      · have := i2.mpr (fun f hf => q f (by omega))
        omega
theorem mv_up {K n : Nat} (hK : K < 3 ^ n) : ∀ m, mMvN K (n + m) = mMvN K n := by
  intro m
  induction m with
  | zero => rfl
  | succ m ih => rw [show n + (m + 1) = (n + m) + 1 from rfl, mMvN, ih, mDg_ge hK (by omega)]; rfl
theorem mFull_mv {K n : Nat} (hK : K < 3 ^ n) (hn : n ≤ 8) : mFull n K = true ↔ n ≤ mMv K := by
  have e : mMv K = mMvN K n := by
    have := mv_up hK (8 - n)
    rw [show n + (8 - n) = 8 by omega] at this
    exact this
  have h := mv_ful (K := K) n
  unfold mFull
  rw [mAll_iff, e]
  constructor
  · intro q
    have := h.2.mpr (fun f hf => of_decide_eq_true (q f hf))
    omega
  · intro q f hf
    exact decide_eq_true (h.2.mp (by omega) f hf)
/-- how a play comes out from a state on: u each, v begins -/
def pV (h : fwH) (u : Nat) (v : Int) (a b : Nat) : Bool := mPl (mEw h) (h 5 0 3).toNat v (2 * u - mMv (kO a b (h 5 0 3).toNat)) (kO a b (h 5 0 3).toNat)
def pO (n a b : Nat) : Prop := a < 2 ^ n ∧ b < 2 ^ n ∧ n ≤ 8 ∧ a &&& b = 0
theorem pO_mv {n a b : Nat} (p : pO n a b) : mMv (kO a b n) = cb a 8 + cb b 8 := kO_mv p.1 p.2.1 p.2.2.2 8
theorem pV_e {h : fwH} {u : Nat} {v : Int} {a b : Nat} (p : pO (h 5 0 3).toNat a b) (hm : 2 * u ≤ cb a 8 + cb b 8 ∨ (h 5 0 3).toNat ≤ cb a 8 + cb b 8) : pV h u v a b = mEw h (kO a b (h 5 0 3).toNat) := by
  unfold pV
  rw [← pO_mv p] at hm
  rcases Nat.eq_zero_or_pos (2 * u - mMv (kO a b (h 5 0 3).toNat)) with z | z
  · rw [z]; rfl
  · rw [show 2 * u - mMv (kO a b (h 5 0 3).toNat) = (2 * u - mMv (kO a b (h 5 0 3).toNat) - 1) + 1 by omega, mPl, if_pos ((mFull_mv (kO_lt a b _) p.2.2.1).mpr (by omega))]
theorem pV_ch {h : fwH} {u : Nat} {v : Int} {a b f g : Nat} (p : pO (h 5 0 3).toNat a b) (hf : f < (h 5 0 3).toNat) (h1 : a.testBit f = false) (h2 : b.testBit f = false) (hg : 2 * u = g + 1 + (cb a 8 + cb b 8)) (w : Bool) : mPl (mEw h) (h 5 0 3).toNat v g (mChild w (kO a b (h 5 0 3).toNat) f) = if w = true then pV h u v (a ||| 2 ^ f) b else pV h u v a (b ||| 2 ^ f) := by
  have hn := p.2.2.1
  have d0 : mDg (kO a b (h 5 0 3).toNat) f = 0 := by
    rw [kO_dg2 p.1 p.2.1]
    unfold dgt
    rw [h1, h2]
    rfl
  have hm := pO_mv p
  unfold mChild pV
  cases w with
  | true =>
    rw [if_pos rfl, if_pos rfl, kO_a1 h1 h2, if_pos hf, ← (mWn_add1 d0 (by omega)).2.2, hm, show 2 * u - (cb a 8 + cb b 8 + 1) = g by omega]
  | false =>
    rw [if_neg (by decide), if_neg (by decide), kO_a2 h1 h2, if_pos hf, ← (mWn_add2 d0 (by omega)).2.2, hm, show 2 * u - (cb a 8 + cb b 8 + 1) = g by omega]
theorem pV_s {h : fwH} {u : Nat} {v : Int} {a b : Nat} (p : pO (h 5 0 3).toNat a b) (hm1 : cb a 8 + cb b 8 < 2 * u) (hm2 : cb a 8 + cb b 8 < (h 5 0 3).toNat) : pV h u v a b = ((!mAll (mPlB (mEw h) (mPl (mEw h) (h 5 0 3).toNat v (2 * u - (cb a 8 + cb b 8) - 1)) (mTn v (cb a 8 + cb b 8)) (kO a b (h 5 0 3).toNat)) (h 5 0 3).toNat) == mTn v (cb a 8 + cb b 8)) := by
  have hm := pO_mv p
  unfold pV
  rw [hm]
  have e : 2 * u - (cb a 8 + cb b 8) = (2 * u - (cb a 8 + cb b 8) - 1) + 1 := by omega
  have ef : ¬ mFull (h 5 0 3).toNat (kO a b (h 5 0 3).toNat) = true := fun q => by
    have := (mFull_mv (kO_lt a b _) p.2.2.1).mp q
    omega
  generalize hg : 2 * u - (cb a 8 + cb b 8) - 1 = g at e ⊢
  rw [e, mPl, if_neg ef, hm]
theorem pV_y {h : fwH} {u : Nat} {v : Int} {a b f : Nat} (p : pO (h 5 0 3).toNat a b) (hm1 : cb a 8 + cb b 8 < 2 * u) (hm2 : cb a 8 + cb b 8 < (h 5 0 3).toNat) (hf : f < (h 5 0 3).toNat) (h1 : a.testBit f = false) (h2 : b.testBit f = false) {w : Bool} (hw : mTn v (cb a 8 + cb b 8) = w) (hc : (if w = true then pV h u v (a ||| 2 ^ f) b else pV h u v a (b ||| 2 ^ f)) = w) : pV h u v a b = w := by
  rw [pV_s p hm1 hm2, hw]
  have z : mAll (mPlB (mEw h) (mPl (mEw h) (h 5 0 3).toNat v (2 * u - (cb a 8 + cb b 8) - 1)) w (kO a b (h 5 0 3).toNat)) (h 5 0 3).toNat = false := by
    cases c : mAll (mPlB (mEw h) (mPl (mEw h) (h 5 0 3).toNat v (2 * u - (cb a 8 + cb b 8) - 1)) w (kO a b (h 5 0 3).toNat)) (h 5 0 3).toNat with
    | false => rfl
    | true =>
      refine absurd ?_ (of_decide_eq_true ((mAll_iff _ _).mp c f hf))
      refine ⟨?_, ?_⟩
      · rw [kO_dg2 p.1 p.2.1]
        unfold dgt
        rw [h1, h2]
        rfl
      · rw [pV_ch (u := u) p hf h1 h2 (by omega)]
        exact hc
  rw [z]
  cases w <;> rfl
theorem pV_n {h : fwH} {u : Nat} {v : Int} {a b : Nat} (p : pO (h 5 0 3).toNat a b) (hm1 : cb a 8 + cb b 8 < 2 * u) (hm2 : cb a 8 + cb b 8 < (h 5 0 3).toNat) {w : Bool} (hw : mTn v (cb a 8 + cb b 8) = w) (hc : ∀ f, f < (h 5 0 3).toNat → a.testBit f = false → b.testBit f = false → ¬ (if w = true then pV h u v (a ||| 2 ^ f) b else pV h u v a (b ||| 2 ^ f)) = w) : pV h u v a b = !w := by
  rw [pV_s p hm1 hm2, hw]
  have z : mAll (mPlB (mEw h) (mPl (mEw h) (h 5 0 3).toNat v (2 * u - (cb a 8 + cb b 8) - 1)) w (kO a b (h 5 0 3).toNat)) (h 5 0 3).toNat = true := by
    refine (mAll_iff _ _).mpr (fun f hf => decide_eq_true (fun q => ?_))
    have q0 := q.1
    rw [kO_dg2 p.1 p.2.1] at q0
    unfold dgt at q0
    have h1 : a.testBit f = false := by
      cases c : a.testBit f with
      | false => rfl
      | true => rw [c, if_pos rfl] at q0; omega
    have h2 : b.testBit f = false := by
      cases c : b.testBit f with
      | false => rfl
      | true => rw [h1, c] at q0; simp at q0
    refine hc f hf h1 h2 ?_
    rw [← pV_ch (u := u) (v := v) p hf h1 h2 (g := 2 * u - (cb a 8 + cb b 8) - 1) (by omega)]
    exact q.2
  rw [z]
  cases w <;> rfl
theorem pop_cb : ∀ a : Nat, a < 256 → fwPop (a : Int) = (cb a 8 : Int) := by decide +kernel
theorem tn_rem : ∀ m : Nat, m < 17 → (fwRem (m : Int) 2 = 0 ↔ mTn 0 m = true) ∧ (fwRem (m : Int) 2 = 1 ↔ mTn 1 m = true) ∧ 0 ≤ fwRem (m : Int) 2 ∧ fwRem (m : Int) 2 ≤ 1 := by decide +kernel
theorem tn_iff {m : Nat} {y : Int} (hm : m < 17) (hy : y = 0 ∨ y = 1) : fwRem (m : Int) 2 = y ↔ mTn y m = true := by
  rcases hy with rfl | rfl
  · exact (tn_rem m hm).1
  · exact (tn_rem m hm).2.1
set_option maxRecDepth 100000 in
set_option maxHeartbeats 4000000 in
theorem c_s_isWinners {d : Nat} {h : fwH} {Q : Option fwV → fwH → Prop} (m : Nat) (y : Int) (hm : m < 17) (hy : y = 0 ∨ y = 1) (k : Q (some (aI (fwB (mTn y m = true)))) h) : fwCt mX12_isWinners (d + 0) [aI (m : Int), aI y] h Q := by
  refine fwCt_of [some (aI (m : Int)), some (aI y)] rfl rfl rfl ?_
  have hr9 := (tn_rem m hm).2.2
  have ht9 := tn_iff hm hy
  refine w_iload_n dX12_isWinners_0 rfl ?_
  refine w_iconst dX12_isWinners_1 ?_
  refine w_irem dX12_isWinners_2 (by omega) (by omega) ?_
  refine w_iload_n dX12_isWinners_3 rfl ?_
  refine w_icmp_ne 11 dX12_isWinners_4 (by decide) (by omega) (by omega) (fun c4 => ?_) (fun c4 => ?_)
  · refine w_iconst dX12_isWinners_11 ?_
    exact w_zretE (P := mTn y m = true) dX12_isWinners_12 rfl (by first | (rw [fwB_t (ht9.mp c4)]; done) | (rw [fwB_f (fun q => c4 (ht9.mpr q))]; done)) k
  · refine w_iconst dX12_isWinners_7 ?_
    refine w_goto 12 dX12_isWinners_8 (by decide) ?_
    exact w_zretE (P := mTn y m = true) dX12_isWinners_12 rfl (by first | (rw [fwB_t (ht9.mp c4)]; done) | (rw [fwB_f (fun q => c4 (ht9.mpr q))]; done)) k
theorem c_s_isWinE {d : Nat} {h : fwH} {Q : Option fwV → fwH → Prop} (x : Int) (m : Nat) (y : Int) (ex : x = (m : Int)) (hm : m < 17) (hy : y = 0 ∨ y = 1) (k : Q (some (aI (fwB (mTn y m = true)))) h) : fwCt mX12_isWinners (d + 0) [aI x, aI y] h Q := by
  subst ex
  exact c_s_isWinners m y hm hy k
theorem cb_le (x : Nat) : ∀ n, cb x n ≤ n := by
  intro n
  induction n with
  | zero => exact Nat.le_refl _
  | succ n ih => rw [cb]; split <;> omega
theorem or_2f {a f : Nat} (ha : a < 256) (hf : f < 8) : fwOr (a : Int) (fwShl 1 (f : Int)) = ((a ||| 2 ^ f : Nat) : Int) := by
  rw [fwShl1_nat (by omega), fwOr_nat (by omega) (Nat.pow_lt_pow_right (by decide) (by omega))]
theorem free_iff {a b f : Nat} (ha : a < 256) (hb : b < 256) (hf : f < 8) : fwAnd (fwShr (fwOr (a : Int) (b : Int)) (f : Int)) 1 = 1 ↔ ¬ (a.testBit f = false ∧ b.testBit f = false) := by
  have hl : a ||| b < 2 ^ 8 := Nat.or_lt_two_pow ha hb
  rw [fwOr_nat (by omega) (by omega), fwBit_nat (by omega) f (by omega), Nat.testBit_or]
  cases a.testBit f <;> cases b.testBit f <;> simp
theorem pO_1 {n a b f : Nat} (p : pO n a b) (hf : f < n) (h2 : b.testBit f = false) : pO n (a ||| 2 ^ f) b := by
  refine ⟨Nat.or_lt_two_pow p.1 (Nat.pow_lt_pow_right (by decide) hf), p.2.1, p.2.2.1, ?_⟩
  apply Nat.eq_of_testBit_eq
  intro j
  rw [Nat.testBit_and, Nat.testBit_or, Nat.testBit_two_pow, Nat.zero_testBit]
  by_cases e : f = j
  · subst e; rw [h2, Bool.and_false]
  · rw [decide_eq_false e, Bool.or_false]
    have := congrArg (fun z => Nat.testBit z j) p.2.2.2
    simpa only [Nat.testBit_and, Nat.zero_testBit] using this
theorem pO_2 {n a b f : Nat} (p : pO n a b) (hf : f < n) (h1 : a.testBit f = false) : pO n a (b ||| 2 ^ f) := by
  refine ⟨p.1, Nat.or_lt_two_pow p.2.1 (Nat.pow_lt_pow_right (by decide) hf), p.2.2.1, ?_⟩
  apply Nat.eq_of_testBit_eq
  intro j
  rw [Nat.testBit_and, Nat.testBit_or, Nat.testBit_two_pow, Nat.zero_testBit]
  by_cases e : f = j
  · subst e; rw [h1, Bool.false_and]
  · rw [decide_eq_false e, Bool.or_false]
    have := congrArg (fun z => Nat.testBit z j) p.2.2.2
    simpa only [Nat.testBit_and, Nat.zero_testBit] using this
theorem or_gt {a f : Nat} (h : a.testBit f = false) : a < a ||| 2 ^ f := by
  have h1 : a ≤ a ||| 2 ^ f := Nat.left_le_or
  rcases Nat.eq_or_lt_of_le h1 with e | e
  · exfalso
    have := congrArg (fun z => Nat.testBit z f) e
    simp only [Nat.testBit_or, Nat.testBit_two_pow, h, decide_true, Bool.or_true] at this
    cases this
  · exact e
/-- the table is right where it was filled: behind a pair -/
def tbl (gg : fwH) (u : Nat) (v : Int) (r : Nat → Int) (a b : Nat) : Prop := ∀ a2 b2 : Nat, pO (gg 5 0 3).toNat a2 b2 → (a < a2 ∨ (a = a2 ∧ b < b2)) → r (256 * a2 + b2) = fwB (pV gg u v a2 b2 = true)
set_option maxRecDepth 100000 in
set_option maxHeartbeats 4000000 in
theorem c_s_endBy {d : Nat} {h gg : fwH} {Q : Option fwV → fwH → Prop} (a b u : Nat) (v : Int) (J : cOk gg) (R : jF gg h) (hp : pO (gg 5 0 3).toNat a b) (hu : u ≤ 4) (hv : v = 0 ∨ v = 1) (hT : tbl gg u v (h 43 0) a b) (k : Q (some (aI (fwB (pV gg u v a b = true)))) h) : fwCt mX12_endBy (d + 3) [aR 12 0, aI (a : Int), aI (b : Int), aI (u : Int), aI v, aI (mWil gg 0)] h Q := by
  refine fwCt_of [some (aR 12 0), some (aI (a : Int)), some (aI (b : Int)), some (aI (u : Int)), some (aI v), some (aI (mWil gg 0)), none, none, none, none] rfl rfl rfl ?_
  obtain ⟨hl, hP, hG, -, -, -, hlw, -, ha, hs, -, hsc⟩ := id J
  obtain ⟨⟨g1, g2⟩, ⟨g3, g4⟩, ⟨g5, g6⟩, g7, -⟩ := id hG
  have hpz := hP.1
  have hw8 : 0 ≤ mWil gg 0 ∧ mWil gg 0 < 256 := mGers_8 (gg 4 0 1) (gg 17 0) (gg 4 0 2) (gg 4 0 4) (gg 18 0) (m := (gg 5 0 3).toNat) (-1) (by omega)
  have h28 : 2 ^ (gg 5 0 3).toNat ≤ 256 := Nat.le_trans (Nat.pow_le_pow_right (by decide) hp.2.2.1) (by decide)
  have ha8 : a < 256 := Nat.lt_of_lt_of_le hp.1 h28
  have hb8 : b < 256 := Nat.lt_of_lt_of_le hp.2.1 h28
  refine w_iload_n dX12_endBy_0 rfl ?_
  refine w_callS (d := d + 2) (S := []) [aI (a : Int)] dX12_endBy_1 ml_X12_229 ok_X12_bits st_X12_bits rfl (Nat.le_of_ble_eq_true rfl) ?_
  refine c_bitsP (d := (d + 2)) (a : Int) (by first | assumption | omega | decide) ?_
  show fwWP mX12_endBy (d + 3) 4 [some (aR 12 0), some (aI (a : Int)), some (aI (b : Int)), some (aI (u : Int)), some (aI v), some (aI (mWil gg 0)), none, none, none, none] [aI (fwPop (a : Int))] h Q
  have hpp1 := fwPop_rng (a : Int)
  refine w_iload_n dX12_endBy_4 rfl ?_
  refine w_callS (d := d + 2) (S := [aI (fwPop (a : Int))]) [aI (b : Int)] dX12_endBy_5 ml_X12_229 ok_X12_bits st_X12_bits rfl (Nat.le_of_ble_eq_true rfl) ?_
  refine c_bitsP (d := (d + 2)) (b : Int) (by first | assumption | omega | decide) ?_
  show fwWP mX12_endBy (d + 3) 8 [some (aR 12 0), some (aI (a : Int)), some (aI (b : Int)), some (aI (u : Int)), some (aI v), some (aI (mWil gg 0)), none, none, none, none] [aI (fwPop (b : Int)), aI (fwPop (a : Int))] h Q
  have hpp2 := fwPop_rng (b : Int)
  refine w_iadd dX12_endBy_8 ?_
  refine w_istore [some (aR 12 0), some (aI (a : Int)), some (aI (b : Int)), some (aI (u : Int)), some (aI v), some (aI (mWil gg 0)), some (aI ((fwPop (a : Int)) + (fwPop (b : Int)))), none, none, none] dX12_endBy_9 rfl (by decide) ?_
  have pa := pop_cb a ha8
  have pb := pop_cb b hb8
  have ca := cb_le a 8
  have cb9 := cb_le b 8
  refine w_iload dX12_endBy_11 rfl ?_
  refine w_iconst dX12_endBy_13 ?_
  refine w_iload_n dX12_endBy_14 rfl ?_
  refine w_imul dX12_endBy_15 ?_
  refine w_aload_n dX12_endBy_16 rfl ?_
  refine w_getr 36 0 dX12_endBy_17 fl_X12_9 rfl (by decide) ?_
  refine w_bipush dX12_endBy_20 rfl ?_
  refine w_ialdE (v := gg 5 0 3) dX12_endBy_22 rfl (by decide) (by omega) (by omega) R.2.2.2.2.2.2.1 ?_
  refine w_min (d := d + 2) (S := [aI ((fwPop (a : Int)) + (fwPop (b : Int)))]) dX12_endBy_23 ml_X12_112 (by omega) (by omega) (Nat.le_of_ble_eq_true rfl) ?_
  refine w_icmp_lt 43 dX12_endBy_26 (by decide) (by omega) (by omega) (fun c26 => ?_) (fun c26 => ?_)
  · refine w_iload dX12_endBy_43 rfl ?_
    refine w_iload dX12_endBy_45 rfl ?_
    refine w_callS (d := d + 2) (S := []) [aI ((fwPop (a : Int)) + (fwPop (b : Int))), aI v] dX12_endBy_47 ml_X12_279 ok_X12_isWinners st_X12_isWinners rfl (Nat.le_of_ble_eq_true rfl) ?_
    refine c_s_isWinE (d := (d + 2)) ((fwPop (a : Int)) + (fwPop (b : Int))) (cb a 8 + cb b 8) v (by omega) (by omega) hv ?_
    show fwWP mX12_endBy (d + 3) 50 [some (aR 12 0), some (aI (a : Int)), some (aI (b : Int)), some (aI (u : Int)), some (aI v), some (aI (mWil gg 0)), some (aI ((fwPop (a : Int)) + (fwPop (b : Int)))), none, none, none] [aI (fwB (mTn v (cb a 8 + cb b 8) = true))] h Q
    refine w_istore [some (aR 12 0), some (aI (a : Int)), some (aI (b : Int)), some (aI (u : Int)), some (aI v), some (aI (mWil gg 0)), some (aI ((fwPop (a : Int)) + (fwPop (b : Int)))), some (aI (fwB (mTn v (cb a 8 + cb b 8) = true))), none, none] dX12_endBy_50 rfl (by decide) ?_
    refine w_iconst dX12_endBy_52 ?_
    refine w_istore [some (aR 12 0), some (aI (a : Int)), some (aI (b : Int)), some (aI (u : Int)), some (aI v), some (aI (mWil gg 0)), some (aI ((fwPop (a : Int)) + (fwPop (b : Int)))), some (aI (fwB (mTn v (cb a 8 + cb b 8) = true))), some (aI 0), none] dX12_endBy_53 rfl (by decide) ?_
    have lp55 : ∀ c : Nat, c ≤ (gg 5 0 3).toNat → ∀ (y55  : Int), y55 = (c : Int) → (∀ f : Nat, f < c → a.testBit f = false → b.testBit f = false → ¬ (if mTn v (cb a 8 + cb b 8) = true then pV gg u v (a ||| 2 ^ f) b else pV gg u v a (b ||| 2 ^ f)) = mTn v (cb a 8 + cb b 8)) → fwWP mX12_endBy (d + 3) 55 [some (aR 12 0), some (aI (a : Int)), some (aI (b : Int)), some (aI (u : Int)), some (aI v), some (aI (mWil gg 0)), some (aI ((fwPop (a : Int)) + (fwPop (b : Int)))), some (aI (fwB (mTn v (cb a 8 + cb b 8) = true))), some (aI y55), none] [] h Q := by
      refine fw_up (fun c hc55 ih55 => ?_)
      intro y55  ey55 iv55_0
      subst ey55
      show fwWP mX12_endBy (d + 3) 55 [some (aR 12 0), some (aI (a : Int)), some (aI (b : Int)), some (aI (u : Int)), some (aI v), some (aI (mWil gg 0)), some (aI ((fwPop (a : Int)) + (fwPop (b : Int)))), some (aI (fwB (mTn v (cb a 8 + cb b 8) = true))), some (aI (c : Int)), none] [] h Q
      refine w_iload dX12_endBy_55 rfl ?_
      refine w_aload_n dX12_endBy_57 rfl ?_
      refine w_getr 36 0 dX12_endBy_58 fl_X12_9 rfl (by decide) ?_
      refine w_bipush dX12_endBy_61 rfl ?_
      refine w_ialdE (v := gg 5 0 3) dX12_endBy_63 rfl (by decide) (by omega) (by omega) R.2.2.2.2.2.2.1 ?_
      refine w_icmp_ge 138 dX12_endBy_64 (by decide) (by omega) (by omega) (fun c64 => ?_) (fun c64 => ?_)
      · refine w_iload dX12_endBy_138 rfl ?_
        refine w_ifB_ne 147 dX12_endBy_140 (by decide) (fun c140 => ?_) (fun c140 => ?_)
        · refine w_iconst dX12_endBy_147 ?_
          exact w_zretE (P := pV gg u v a b = true) dX12_endBy_148 rfl (by rw [pV_n hp (by omega) (by omega) (w := true) c140 (fun f hf h1 h2 => by have z := iv55_0 f (by omega) h1 h2; rw [c140] at z; exact z)]; rfl) k
        · refine w_iconst dX12_endBy_143 ?_
          refine w_goto 148 dX12_endBy_144 (by decide) ?_
          exact w_zretE (P := pV gg u v a b = true) dX12_endBy_148 rfl (by rw [pV_n hp (by omega) (by omega) (w := false) ((Bool.not_eq_true _).mp c140) (fun f hf h1 h2 => by have z := iv55_0 f (by omega) h1 h2; rw [(Bool.not_eq_true _).mp c140] at z; exact z)]; rfl) k
      · refine w_iload_n dX12_endBy_67 rfl ?_
        refine w_iload_n dX12_endBy_68 rfl ?_
        refine w_ior dX12_endBy_69 ?_
        refine w_iload dX12_endBy_70 rfl ?_
        refine w_callS (d := d + 2) (S := []) [aI (fwOr (a : Int) (b : Int)), aI (c : Int)] dX12_endBy_72 ml_X12_257 ok_X12_bit st_X12_bit rfl (Nat.le_of_ble_eq_true rfl) ?_
        refine c_X12_bit (d := (d + 2)) (fwOr (a : Int) (b : Int)) (c : Int) ?_
        show fwWP mX12_endBy (d + 3) 75 [some (aR 12 0), some (aI (a : Int)), some (aI (b : Int)), some (aI (u : Int)), some (aI v), some (aI (mWil gg 0)), some (aI ((fwPop (a : Int)) + (fwPop (b : Int)))), some (aI (fwB (mTn v (cb a 8 + cb b 8) = true))), some (aI (c : Int)), none] [aI (fwAnd (fwShr (fwOr (a : Int) (b : Int)) (c : Int)) 1)] h Q
        have hbt6 := bit_01 (fwOr (a : Int) (b : Int)) (c : Int)
        refine w_iconst dX12_endBy_75 ?_
        refine w_icmp_ne 82 dX12_endBy_76 (by decide) (by omega) (by omega) (fun c76 => ?_) (fun c76 => ?_)
        · have hfr : a.testBit c = false ∧ b.testBit c = false := Classical.byContradiction (fun q => c76 ((free_iff ha8 hb8 (by omega)).mpr q))
          have hf8 := shl_8 (x := (c : Int)) (by omega)
          have hf7 : fwShl 1 (c : Int) < 256 := shl_c8 (by omega)
          have hox := or_rg (x := (a : Int)) (y := fwShl 1 (c : Int)) (by omega) (by omega)
          have hoy := or_rg (x := (b : Int)) (y := fwShl 1 (c : Int)) (by omega) (by omega)
          refine w_iload dX12_endBy_82 rfl ?_
          refine w_ifB_eq 105 dX12_endBy_84 (by decide) (fun c84 => ?_) (fun c84 => ?_)
          · refine w_aload_n dX12_endBy_105 rfl ?_
            refine w_getr 43 0 dX12_endBy_106 fl_X12_38 rfl (by decide) ?_
            refine w_iload_n dX12_endBy_109 rfl ?_
            refine w_iload_n dX12_endBy_110 rfl ?_
            refine w_iconst dX12_endBy_111 ?_
            refine w_iload dX12_endBy_112 rfl ?_
            refine w_ishl dX12_endBy_114 ?_
            refine w_ior dX12_endBy_115 ?_
            refine w_callS (d := d + 2) (S := [aR 43 0]) [aI (a : Int), aI (fwOr (b : Int) (fwShl 1 (c : Int)))] dX12_endBy_116 ml_X12_282 ok_X12_pair st_X12_pair rfl (Nat.le_of_ble_eq_true rfl) ?_
            refine c_X12_pair (d := (d + 2)) (a : Int) (fwOr (b : Int) (fwShl 1 (c : Int))) ?_
            show fwWP mX12_endBy (d + 3) 119 [some (aR 12 0), some (aI (a : Int)), some (aI (b : Int)), some (aI (u : Int)), some (aI v), some (aI (mWil gg 0)), some (aI ((fwPop (a : Int)) + (fwPop (b : Int)))), some (aI (fwB (mTn v (cb a 8 + cb b 8) = true))), some (aI (c : Int)), none] [aI (256 * (a : Int) + (fwOr (b : Int) (fwShl 1 (c : Int)))), aR 43 0] h Q
            refine w_zaldE (v := fwB (pV gg u v a (b ||| 2 ^ c) = true)) dX12_endBy_119 rfl (by decide) (by omega) (by omega) (by rw [show ((256 * (a : Int) + (fwOr (b : Int) (fwShl 1 (c : Int)))).toNat) = 256 * a + (b ||| 2 ^ c) by rw [or_2f hb8 (by omega)]; omega]; exact hT _ _ (pO_2 hp (by omega) hfr.1) (Or.inr ⟨rfl, or_gt hfr.2⟩)) ?_
            refine w_istore [some (aR 12 0), some (aI (a : Int)), some (aI (b : Int)), some (aI (u : Int)), some (aI v), some (aI (mWil gg 0)), some (aI ((fwPop (a : Int)) + (fwPop (b : Int)))), some (aI (fwB (mTn v (cb a 8 + cb b 8) = true))), some (aI (c : Int)), some (aI (fwB (pV gg u v a (b ||| 2 ^ c) = true)))] dX12_endBy_120 rfl (by decide) ?_
            have hb9 := fwB_01 (pV gg u v a (b ||| 2 ^ c) = true)
            have hb8_ := fwB_01 (mTn v (cb a 8 + cb b 8) = true)
            refine w_iload dX12_endBy_122 rfl ?_
            refine w_iload dX12_endBy_124 rfl ?_
            refine w_icmp_ne 132 dX12_endBy_126 (by decide) (by omega) (by omega) (fun c126 => ?_) (fun c126 => ?_)
            · refine w_iinc [some (aR 12 0), some (aI (a : Int)), some (aI (b : Int)), some (aI (u : Int)), some (aI v), some (aI (mWil gg 0)), some (aI ((fwPop (a : Int)) + (fwPop (b : Int)))), some (aI (fwB (mTn v (cb a 8 + cb b 8) = true))), some (aI ((c : Int) + 1)), some (aI (fwB (pV gg u v a (b ||| 2 ^ c) = true)))] dX12_endBy_132 rfl rfl (by decide) ?_
              refine w_goto 55 dX12_endBy_135 (by decide) ?_
              refine w_drop [9] [some (aR 12 0), some (aI (a : Int)), some (aI (b : Int)), some (aI (u : Int)), some (aI v), some (aI (mWil gg 0)), some (aI ((fwPop (a : Int)) + (fwPop (b : Int)))), some (aI (fwB (mTn v (cb a 8 + cb b 8) = true))), some (aI ((c : Int) + 1)), none] rfl ?_
              refine ih55 (by omega) _ ?_ ?_
              · exact (by omega)
              · exact (fun f hf h1 h2 => (Nat.lt_succ_iff_lt_or_eq.mp hf).elim (fun z => iv55_0 f z h1 h2) (fun z => by subst z; rw [if_neg c84]; intro q9; rw [Bool.not_eq_true] at c84; rw [c84] at q9; rw [c84, fwB_f (by rw [q9]; decide), fwB_f (by decide)] at c126; exact c126 rfl))
            · refine w_iload dX12_endBy_129 rfl ?_
              exact w_zretE (P := pV gg u v a b = true) dX12_endBy_131 rfl (fwB_eq (by rw [pV_y hp (by omega) (by omega) (f := c) (by omega) hfr.1 hfr.2 (w := false) ((Bool.not_eq_true _).mp c84) (by rw [if_neg (by decide)]; exact (Bool.not_eq_true _).mp (fun q => by rw [fwB_t q, fwB_f c84] at c126; omega))]; exact ⟨fun q => absurd q c84, fun q => absurd q (by decide)⟩)) k
          · refine w_aload_n dX12_endBy_87 rfl ?_
            refine w_getr 43 0 dX12_endBy_88 fl_X12_38 rfl (by decide) ?_
            refine w_iload_n dX12_endBy_91 rfl ?_
            refine w_iconst dX12_endBy_92 ?_
            refine w_iload dX12_endBy_93 rfl ?_
            refine w_ishl dX12_endBy_95 ?_
            refine w_ior dX12_endBy_96 ?_
            refine w_iload_n dX12_endBy_97 rfl ?_
            refine w_callS (d := d + 2) (S := [aR 43 0]) [aI (fwOr (a : Int) (fwShl 1 (c : Int))), aI (b : Int)] dX12_endBy_98 ml_X12_282 ok_X12_pair st_X12_pair rfl (Nat.le_of_ble_eq_true rfl) ?_
            refine c_X12_pair (d := (d + 2)) (fwOr (a : Int) (fwShl 1 (c : Int))) (b : Int) ?_
            show fwWP mX12_endBy (d + 3) 101 [some (aR 12 0), some (aI (a : Int)), some (aI (b : Int)), some (aI (u : Int)), some (aI v), some (aI (mWil gg 0)), some (aI ((fwPop (a : Int)) + (fwPop (b : Int)))), some (aI (fwB (mTn v (cb a 8 + cb b 8) = true))), some (aI (c : Int)), none] [aI (256 * (fwOr (a : Int) (fwShl 1 (c : Int))) + (b : Int)), aR 43 0] h Q
            refine w_zaldE (v := fwB (pV gg u v (a ||| 2 ^ c) b = true)) dX12_endBy_101 rfl (by decide) (by omega) (by omega) (by rw [show ((256 * (fwOr (a : Int) (fwShl 1 (c : Int))) + (b : Int)).toNat) = 256 * (a ||| 2 ^ c) + b by rw [or_2f ha8 (by omega)]; omega]; exact hT _ _ (pO_1 hp (by omega) hfr.2) (Or.inl (or_gt hfr.1))) ?_
            refine w_goto 120 dX12_endBy_102 (by decide) ?_
            refine w_istore [some (aR 12 0), some (aI (a : Int)), some (aI (b : Int)), some (aI (u : Int)), some (aI v), some (aI (mWil gg 0)), some (aI ((fwPop (a : Int)) + (fwPop (b : Int)))), some (aI (fwB (mTn v (cb a 8 + cb b 8) = true))), some (aI (c : Int)), some (aI (fwB (pV gg u v (a ||| 2 ^ c) b = true)))] dX12_endBy_120 rfl (by decide) ?_
            have hb9 := fwB_01 (pV gg u v (a ||| 2 ^ c) b = true)
            have hb8_ := fwB_01 (mTn v (cb a 8 + cb b 8) = true)
            refine w_iload dX12_endBy_122 rfl ?_
            refine w_iload dX12_endBy_124 rfl ?_
            refine w_icmp_ne 132 dX12_endBy_126 (by decide) (by omega) (by omega) (fun c126 => ?_) (fun c126 => ?_)
            · refine w_iinc [some (aR 12 0), some (aI (a : Int)), some (aI (b : Int)), some (aI (u : Int)), some (aI v), some (aI (mWil gg 0)), some (aI ((fwPop (a : Int)) + (fwPop (b : Int)))), some (aI (fwB (mTn v (cb a 8 + cb b 8) = true))), some (aI ((c : Int) + 1)), some (aI (fwB (pV gg u v (a ||| 2 ^ c) b = true)))] dX12_endBy_132 rfl rfl (by decide) ?_
              refine w_goto 55 dX12_endBy_135 (by decide) ?_
              refine w_drop [9] [some (aR 12 0), some (aI (a : Int)), some (aI (b : Int)), some (aI (u : Int)), some (aI v), some (aI (mWil gg 0)), some (aI ((fwPop (a : Int)) + (fwPop (b : Int)))), some (aI (fwB (mTn v (cb a 8 + cb b 8) = true))), some (aI ((c : Int) + 1)), none] rfl ?_
              refine ih55 (by omega) _ ?_ ?_
              · exact (by omega)
              · exact (fun f hf h1 h2 => (Nat.lt_succ_iff_lt_or_eq.mp hf).elim (fun z => iv55_0 f z h1 h2) (fun z => by subst z; rw [if_pos c84]; intro q9; rw [c84] at q9; rw [fwB_t q9, fwB_t c84] at c126; exact c126 rfl))
            · refine w_iload dX12_endBy_129 rfl ?_
              exact w_zretE (P := pV gg u v a b = true) dX12_endBy_131 rfl (fwB_eq (by rw [pV_y hp (by omega) (by omega) (f := c) (by omega) hfr.1 hfr.2 (w := true) c84 (by rw [if_pos rfl]; exact Classical.byContradiction (fun q => by rw [fwB_f q, fwB_t c84] at c126; omega))]; exact ⟨fun _ => rfl, fun _ => c84⟩)) k
        · have hbz := (free_iff (f := c) ha8 hb8 (by omega)).mp c76
          refine w_goto 132 dX12_endBy_79 (by decide) ?_
          refine w_iinc [some (aR 12 0), some (aI (a : Int)), some (aI (b : Int)), some (aI (u : Int)), some (aI v), some (aI (mWil gg 0)), some (aI ((fwPop (a : Int)) + (fwPop (b : Int)))), some (aI (fwB (mTn v (cb a 8 + cb b 8) = true))), some (aI ((c : Int) + 1)), none] dX12_endBy_132 rfl rfl (by decide) ?_
          refine w_goto 55 dX12_endBy_135 (by decide) ?_
          refine ih55 (by omega) _ ?_ ?_
          · exact (by omega)
          · exact (fun f hf h1 h2 => (Nat.lt_succ_iff_lt_or_eq.mp hf).elim (fun z => iv55_0 f z h1 h2) (fun z => by subst z; exact absurd ⟨h1, h2⟩ hbz))
    refine lp55 0 (Nat.zero_le _) _ ?_ ?_
    · exact (by omega)
    · exact (fun f hf => absurd hf (Nat.not_lt_zero _))
  · have ho8 := or_rg hw8 (y := (a : Int)) (by omega)
    refine w_aload_n dX12_endBy_29 rfl ?_
    refine w_aload_n dX12_endBy_30 rfl ?_
    refine w_iload dX12_endBy_31 rfl ?_
    refine w_iload_n dX12_endBy_33 rfl ?_
    refine w_ior dX12_endBy_34 ?_
    refine w_iload_n dX12_endBy_35 rfl ?_
    refine w_callV (d := d + 2) (S := [aR 12 0]) [aI (fwOr (mWil gg 0) (a : Int)), aI (b : Int)] dX12_endBy_36 ml_X12_270 ok_X12_signing vi_X12_signing rfl rfl (by decide) rfl (Nat.le_of_ble_eq_true rfl) ?_
    refine c_sgE (d := (d + 1)) (fwOr (mWil gg 0) (a : Int)) (b : Int) J R (by omega) (by omega) ?_
    show fwWP mX12_endBy (d + 3) 39 [some (aR 12 0), some (aI (a : Int)), some (aI (b : Int)), some (aI (u : Int)), some (aI v), some (aI (mWil gg 0)), some (aI ((fwPop (a : Int)) + (fwPop (b : Int)))), none, none, none] [aI (mSign (gg 18 0) (gg 5 0 3).toNat (fwOr (mWil gg 0) (a : Int)) (b : Int)), aR 12 0] h Q
    refine w_callV (d := d + 2) (S := []) [aI (mSign (gg 18 0) (gg 5 0 3).toNat (fwOr (mWil gg 0) (a : Int)) (b : Int))] dX12_endBy_39 ml_X12_273 ok_X12_isEnough vi_X12_isEnough rfl rfl (by decide) rfl (Nat.le_of_ble_eq_true rfl) ?_
    refine c_X12_isEnough (d := d) (mSign (gg 18 0) (gg 5 0 3).toNat (fwOr (mWil gg 0) (a : Int)) (b : Int)) J R ?_
    show fwWP mX12_endBy (d + 3) 42 [some (aR 12 0), some (aI (a : Int)), some (aI (b : Int)), some (aI (u : Int)), some (aI v), some (aI (mWil gg 0)), some (aI ((fwPop (a : Int)) + (fwPop (b : Int)))), none, none, none] [aI (fwB (gg 3 0 4 ≤ mNames (gg 18 0) (mSign (gg 18 0) (gg 5 0 3).toNat (fwOr (mWil gg 0) (a : Int)) (b : Int)) (gg 5 0 3).toNat))] h Q
    exact w_zretE (P := pV gg u v a b = true) dX12_endBy_42 rfl (fwB_eq (by rw [pV_e hp (by omega)]; unfold mEw; rw [decide_eq_true_iff, show mWn (kO a b (gg 5 0 3).toNat) = (a : Int) from congrArg _ (kO_w hp.1 hp.2.1 hp.2.2.1), show mBr (kO a b (gg 5 0 3).toNat) = (b : Int) from congrArg _ (kO_b hp.1 hp.2.1 hp.2.2.1 hp.2.2.2)])) k
theorem c_s_endE {d : Nat} {h gg : fwH} {Q : Option fwV → fwH → Prop} (x y : Int) (a b u : Nat) (v : Int) (ex : x = (a : Int)) (ey : y = (b : Int)) (J : cOk gg) (R : jF gg h) (hp : pO (gg 5 0 3).toNat a b) (hu : u ≤ 4) (hv : v = 0 ∨ v = 1) (hT : tbl gg u v (h 43 0) a b) (k : Q (some (aI (fwB (pV gg u v a b = true)))) h) : fwCt mX12_endBy (d + 3) [aR 12 0, aI x, aI y, aI (u : Int), aI v, aI (mWil gg 0)] h Q := by
  subst ex
  subst ey
  exact c_s_endBy a b u v J R hp hu hv hT k
set_option maxRecDepth 100000 in
set_option maxHeartbeats 4000000 in
theorem c_s_playBy {d : Nat} {h gg : fwH} {Q : Option fwV → fwH → Prop} (u : Nat) (y : Int) (J : cOk gg) (R : jF gg h) (K : jA gg h) (hsh : sc h) (hx : u ≤ 4) (hy : y = 0 ∨ y = 1) (hmt : 0 < gg 3 0 6) (k : ∀ g, (∀ a2 b2 : Nat, pO (gg 5 0 3).toNat a2 b2 → g 43 0 (256 * a2 + b2) = fwB (pV gg u y a2 b2 = true)) → scr h g → Q (some (aI (fwB (pV gg u y 0 0 = true)))) g) : fwCt mX12_playBy (d + 6) [aR 12 0, aI (u : Int), aI y] h Q := by
  refine fwCt_of [some (aR 12 0), some (aI (u : Int)), some (aI y), none, none, none] rfl rfl rfl ?_
  obtain ⟨hl, hP, hG, hM0, htd, hut, hlw, hhc, ha, hs, hT, hsc⟩ := id J
  have hb17 : hB (gg 17 0) := fun c hc => by have := hM0 c hc; omega
  obtain ⟨⟨g1, g2⟩, ⟨g3, g4⟩, ⟨g5, g6⟩, g7, -⟩ := id hG
  have h17_99 : ∀ c : Nat, (c : Int) < gg 4 0 1 → gg 17 0 c ≤ 99 := fun c hc => (hM0 c (by omega)).2
  have hpz := hP.1
  have hrs1 := R.2.2.2.2.2.2.2.2.2.2.2
  obtain ⟨PN, hPN⟩ : ∃ PN : Nat, PN = 2 ^ (gg 5 0 3).toNat := ⟨_, rfl⟩
  have hAL : fwShl 1 (gg 5 0 3) = (PN : Int) := by rw [hPN, show gg 5 0 3 = (((gg 5 0 3).toNat : Nat) : Int) by omega]; exact fwShl1_nat (by omega)
  have hs8 := shl_8 (x := gg 5 0 3) (by omega)
  refine w_aload_n dX12_playBy_0 rfl ?_
  refine w_callV (d := d + 5) (S := []) [] dX12_playBy_1 ml_X12_240 ok_X12_asItIs vi_X12_asItIs rfl rfl (by decide) rfl (Nat.le_of_ble_eq_true rfl) ?_
  refine c_X12_asItIs (d := d) J R K (show 1 ≤ gg 4 0 1 by omega) (show 1 ≤ gg 4 0 3 by omega) ?_
  intro A1_1 hA1_1
  show fwWP mX12_playBy (d + 6) 4 [some (aR 12 0), some (aI (u : Int)), some (aI y), none, none, none] [] (fwUc h 42 0 A1_1) Q
  refine w_aload_n dX12_playBy_4 rfl ?_
  refine w_callV (d := d + 5) (S := []) [] dX12_playBy_5 ml_X12_263 ok_X12_willingSet vi_X12_willingSet rfl rfl (by decide) rfl (Nat.le_of_ble_eq_true rfl) ?_
  refine c_X12_willingSet (d := d) (gg 17 0) J R hA1_1 hb17 (show 1 ≤ gg 4 0 1 by omega) ?_
  intro A5_2 hA5_2
  show fwWP mX12_playBy (d + 6) 8 [some (aR 12 0), some (aI (u : Int)), some (aI y), none, none, none] [aI (mGers (gg 4 0 1) (gg 17 0) (gg 4 0 2) (gg 4 0 4) (gg 18 0) (gg 5 0 3).toNat (-1))] (fwUc (fwUc h 42 0 A1_1) 42 0 A5_2) Q
  rw [show (fwUc (fwUc h 42 0 A1_1) 42 0 A5_2) = (fwUc h 42 0 A5_2) from by funext a b; simp only [fwUc]; (repeat' split); all_goals first | rfl | (exfalso; omega)]
  have hwr2 := mGers_r (gg 4 0 1) (gg 17 0) (gg 4 0 2) (gg 4 0 4) (gg 18 0) (m := (gg 5 0 3).toNat) (-1) (by omega)
  have hw8_3 := mGers_8 (gg 4 0 1) (gg 17 0) (gg 4 0 2) (gg 4 0 4) (gg 18 0) (m := (gg 5 0 3).toNat) (-1) (by omega)
  change fwWP _ _ _ _ (aI (mWil gg 0) :: _) _ _
  have hw8 : 0 ≤ mWil gg 0 ∧ mWil gg 0 < 256 := hw8_3
  refine w_istore_n [some (aR 12 0), some (aI (u : Int)), some (aI y), some (aI (mWil gg 0)), none, none] dX12_playBy_8 rfl (by decide) ?_
  refine w_aload_n dX12_playBy_9 rfl ?_
  refine w_callV (d := d + 5) (S := []) [] dX12_playBy_10 ml_X12_77 ok_X12_all vi_X12_all rfl rfl (by decide) rfl (Nat.le_of_ble_eq_true rfl) ?_
  refine c_X12_all (d := (d + 5)) J R ?_
  show fwWP mX12_playBy (d + 6) 13 [some (aR 12 0), some (aI (u : Int)), some (aI y), some (aI (mWil gg 0)), none, none] [aI (fwShl 1 (gg 5 0 3) - 1)] (fwUc h 42 0 A5_2) Q
  have hsh4 := fwShl1_rng (x := gg 5 0 3) (by omega)
  refine w_istore [some (aR 12 0), some (aI (u : Int)), some (aI y), some (aI (mWil gg 0)), some (aI (fwShl 1 (gg 5 0 3) - 1)), none] dX12_playBy_13 rfl (by decide) ?_
  have lp15 : ∀ c : Nat, c ≤ PN → ∀ (y15  : Int) (hh15 : fwH), y15 = fwShl 1 (gg 5 0 3) - 1 - (c : Int) → (∃ r : Nat → Int, hh15 = (fwUc (fwUc h 42 0 A5_2) 43 0 r) ∧ (∀ a2 b2 : Nat, pO (gg 5 0 3).toNat a2 b2 → PN ≤ a2 + c → r (256 * a2 + b2) = fwB (pV gg u y a2 b2 = true))) → fwWP mX12_playBy (d + 6) 15 [some (aR 12 0), some (aI (u : Int)), some (aI y), some (aI (mWil gg 0)), some (aI y15), none] [] hh15 Q := by
    refine fw_up (fun c hc15 ih15 => ?_)
    intro y15  hh15 ey15 eh15
    subst ey15
    obtain ⟨r_15, eh15, hp15⟩ := eh15
    subst eh15
    show fwWP mX12_playBy (d + 6) 15 [some (aR 12 0), some (aI (u : Int)), some (aI y), some (aI (mWil gg 0)), some (aI (fwShl 1 (gg 5 0 3) - 1 - (c : Int))), none] [] (fwUc (fwUc h 42 0 A5_2) 43 0 r_15) Q
    refine w_iload dX12_playBy_15 rfl ?_
    refine w_if_lt 74 dX12_playBy_17 (by decide) (by omega) (fun c17 => ?_) (fun c17 => ?_)
    · refine w_aload_n dX12_playBy_74 rfl ?_
      refine w_getr 43 0 dX12_playBy_75 fl_X12_38 rfl (by decide) ?_
      refine w_iconst dX12_playBy_78 ?_
      refine w_zaldE (v := fwB (pV gg u y 0 0 = true)) dX12_playBy_79 rfl (by decide) (by omega) (by omega) (by rw [show (0 : Int).toNat = 256 * 0 + 0 by omega]; exact hp15 0 0 ⟨Nat.two_pow_pos _, Nat.two_pow_pos _, by omega, rfl⟩ (by omega)) ?_
      exact w_zret dX12_playBy_80 rfl (fwB_01 _) (k _ (fun a2 b2 p => hp15 a2 b2 p (by omega)) (scr_uc (scr_uc (scr_rf hsh) rfl (by decide) (by decide) (by decide)) rfl (by decide) (by decide) (by decide)))
    · refine w_aload_n dX12_playBy_20 rfl ?_
      refine w_callV (d := d + 5) (S := []) [] dX12_playBy_21 ml_X12_77 ok_X12_all vi_X12_all rfl rfl (by decide) rfl (Nat.le_of_ble_eq_true rfl) ?_
      refine c_X12_all (d := (d + 5)) J R ?_
      show fwWP mX12_playBy (d + 6) 24 [some (aR 12 0), some (aI (u : Int)), some (aI y), some (aI (mWil gg 0)), some (aI (fwShl 1 (gg 5 0 3) - 1 - (c : Int))), none] [aI (fwShl 1 (gg 5 0 3) - 1)] (fwUc (fwUc h 42 0 A5_2) 43 0 r_15) Q
      have hsh6 := fwShl1_rng (x := gg 5 0 3) (by omega)
      refine w_istore [some (aR 12 0), some (aI (u : Int)), some (aI y), some (aI (mWil gg 0)), some (aI (fwShl 1 (gg 5 0 3) - 1 - (c : Int))), some (aI (fwShl 1 (gg 5 0 3) - 1))] dX12_playBy_24 rfl (by decide) ?_
      have lp26 : ∀ c2 : Nat, c2 ≤ PN → ∀ (y26  : Int) (hh26 : fwH), y26 = fwShl 1 (gg 5 0 3) - 1 - (c2 : Int) → (∃ r : Nat → Int, hh26 = (fwUc (fwUc h 42 0 A5_2) 43 0 r) ∧ (∀ a2 b2 : Nat, pO (gg 5 0 3).toNat a2 b2 → (PN ≤ a2 + c ∨ (a2 + c + 1 = PN ∧ PN ≤ b2 + c2)) → r (256 * a2 + b2) = fwB (pV gg u y a2 b2 = true))) → fwWP mX12_playBy (d + 6) 26 [some (aR 12 0), some (aI (u : Int)), some (aI y), some (aI (mWil gg 0)), some (aI (fwShl 1 (gg 5 0 3) - 1 - (c : Int))), some (aI y26)] [] hh26 Q := by
        refine fw_up (fun c2 hc26 ih26 => ?_)
        intro y26  hh26 ey26 eh26
        subst ey26
        obtain ⟨r_26, eh26, hp26⟩ := eh26
        subst eh26
        show fwWP mX12_playBy (d + 6) 26 [some (aR 12 0), some (aI (u : Int)), some (aI y), some (aI (mWil gg 0)), some (aI (fwShl 1 (gg 5 0 3) - 1 - (c : Int))), some (aI (fwShl 1 (gg 5 0 3) - 1 - (c2 : Int)))] [] (fwUc (fwUc h 42 0 A5_2) 43 0 r_26) Q
        refine w_iload dX12_playBy_26 rfl ?_
        refine w_if_lt 68 dX12_playBy_28 (by decide) (by omega) (fun c28 => ?_) (fun c28 => ?_)
        · refine w_iinc [some (aR 12 0), some (aI (u : Int)), some (aI y), some (aI (mWil gg 0)), some (aI ((fwShl 1 (gg 5 0 3) - 1 - (c : Int)) + (-1))), some (aI (fwShl 1 (gg 5 0 3) - 1 - (c2 : Int)))] dX12_playBy_68 rfl rfl (by decide) ?_
          refine w_goto 15 dX12_playBy_71 (by decide) ?_
          refine w_drop [5] [some (aR 12 0), some (aI (u : Int)), some (aI y), some (aI (mWil gg 0)), some (aI ((fwShl 1 (gg 5 0 3) - 1 - (c : Int)) + (-1))), none] rfl ?_
          refine ih15 (by omega) _ _ ?_ ?_
          · exact (by omega)
          · exact ⟨_, rfl, fun a2 b2 p q => hp26 a2 b2 p (by have := p.2.1; omega)⟩
        · obtain ⟨a, ea⟩ : ∃ a : Nat, a + c + 1 = PN := ⟨PN - 1 - c, by omega⟩
          obtain ⟨b, eb⟩ : ∃ b : Nat, b + c2 + 1 = PN := ⟨PN - 1 - c2, by omega⟩
          have exa : fwShl 1 (gg 5 0 3) - 1 - (c : Int) = (a : Int) := by omega
          have exb : fwShl 1 (gg 5 0 3) - 1 - (c2 : Int) = (b : Int) := by omega
          have eab : fwAnd (fwShl 1 (gg 5 0 3) - 1 - (c : Int)) (fwShl 1 (gg 5 0 3) - 1 - (c2 : Int)) = ((a &&& b : Nat) : Int) := by rw [exa, exb]; exact and_255 (by omega) (by omega)
          refine w_iload dX12_playBy_31 rfl ?_
          refine w_iload dX12_playBy_33 rfl ?_
          refine w_iand dX12_playBy_35 ?_
          refine w_if_ne 62 dX12_playBy_36 (by decide) (by have := and_w (x := fwShl 1 (gg 5 0 3) - 1 - (c : Int)) (y := fwShl 1 (gg 5 0 3) - 1 - (c2 : Int)) (by omega) (by omega); omega) (fun c36 => ?_) (fun c36 => ?_)
          · have hnd : ¬ a &&& b = 0 := by omega
            refine w_iinc [some (aR 12 0), some (aI (u : Int)), some (aI y), some (aI (mWil gg 0)), some (aI (fwShl 1 (gg 5 0 3) - 1 - (c : Int))), some (aI ((fwShl 1 (gg 5 0 3) - 1 - (c2 : Int)) + (-1)))] dX12_playBy_62 rfl rfl (by decide) ?_
            refine w_goto 26 dX12_playBy_65 (by decide) ?_
            refine ih26 (by omega) _ _ ?_ ?_
            · exact (by omega)
            · exact ⟨_, rfl, fun a2 b2 p q => by have q256 : a2 < 256 ∧ b2 < 256 := ⟨Nat.lt_of_lt_of_le p.1 (by omega), Nat.lt_of_lt_of_le p.2.1 (by omega)⟩; exact (Decidable.em (a2 = a ∧ b2 = b)).elim (fun e => by rw [← e.1, ← e.2] at hnd; exact absurd p.2.2.2 hnd) (fun e => hp26 a2 b2 p (by omega))⟩
          · have hdj : a &&& b = 0 := by omega
            have hpO : pO (gg 5 0 3).toNat a b := ⟨by omega, by omega, by omega, hdj⟩
            refine w_aload_n dX12_playBy_39 rfl ?_
            refine w_getr 43 0 dX12_playBy_40 fl_X12_38 rfl (by decide) ?_
            refine w_iload dX12_playBy_43 rfl ?_
            refine w_iload dX12_playBy_45 rfl ?_
            refine w_callS (d := d + 5) (S := [aR 43 0]) [aI (fwShl 1 (gg 5 0 3) - 1 - (c : Int)), aI (fwShl 1 (gg 5 0 3) - 1 - (c2 : Int))] dX12_playBy_47 ml_X12_282 ok_X12_pair st_X12_pair rfl (Nat.le_of_ble_eq_true rfl) ?_
            refine c_X12_pair (d := (d + 5)) (fwShl 1 (gg 5 0 3) - 1 - (c : Int)) (fwShl 1 (gg 5 0 3) - 1 - (c2 : Int)) ?_
            show fwWP mX12_playBy (d + 6) 50 [some (aR 12 0), some (aI (u : Int)), some (aI y), some (aI (mWil gg 0)), some (aI (fwShl 1 (gg 5 0 3) - 1 - (c : Int))), some (aI (fwShl 1 (gg 5 0 3) - 1 - (c2 : Int)))] [aI (256 * (fwShl 1 (gg 5 0 3) - 1 - (c : Int)) + (fwShl 1 (gg 5 0 3) - 1 - (c2 : Int))), aR 43 0] (fwUc (fwUc h 42 0 A5_2) 43 0 r_26) Q
            refine w_aload_n dX12_playBy_50 rfl ?_
            refine w_iload dX12_playBy_51 rfl ?_
            refine w_iload dX12_playBy_53 rfl ?_
            refine w_iload_n dX12_playBy_55 rfl ?_
            refine w_iload_n dX12_playBy_56 rfl ?_
            refine w_iload_n dX12_playBy_57 rfl ?_
            refine w_callV (d := d + 5) (S := [aI (256 * (fwShl 1 (gg 5 0 3) - 1 - (c : Int)) + (fwShl 1 (gg 5 0 3) - 1 - (c2 : Int))), aR 43 0]) [aI (fwShl 1 (gg 5 0 3) - 1 - (c : Int)), aI (fwShl 1 (gg 5 0 3) - 1 - (c2 : Int)), aI (u : Int), aI y, aI (mWil gg 0)] dX12_playBy_58 ml_X12_285 ok_X12_endBy vi_X12_endBy rfl rfl (by decide) rfl (Nat.le_of_ble_eq_true rfl) ?_
            refine c_s_endE (d := (d + 2)) (fwShl 1 (gg 5 0 3) - 1 - (c : Int)) (fwShl 1 (gg 5 0 3) - 1 - (c2 : Int)) a b u y exa exb J R hpO (by omega) (by omega) (fun a2 b2 p q => hp26 a2 b2 p (by omega)) ?_
            show fwWP mX12_playBy (d + 6) 61 [some (aR 12 0), some (aI (u : Int)), some (aI y), some (aI (mWil gg 0)), some (aI (fwShl 1 (gg 5 0 3) - 1 - (c : Int))), some (aI (fwShl 1 (gg 5 0 3) - 1 - (c2 : Int)))] [aI (fwB (pV gg u y a b = true)), aI (256 * (fwShl 1 (gg 5 0 3) - 1 - (c : Int)) + (fwShl 1 (gg 5 0 3) - 1 - (c2 : Int))), aR 43 0] (fwUc (fwUc h 42 0 A5_2) 43 0 r_26) Q
            have hb01 := fwB_01 (pV gg u y a b = true)
            refine w_zast dX12_playBy_61 rfl (by decide) (by omega) (by omega) (by first | omega | exact fwB_01 _) ?_
            refine w_iinc [some (aR 12 0), some (aI (u : Int)), some (aI y), some (aI (mWil gg 0)), some (aI (fwShl 1 (gg 5 0 3) - 1 - (c : Int))), some (aI ((fwShl 1 (gg 5 0 3) - 1 - (c2 : Int)) + (-1)))] dX12_playBy_62 rfl rfl (by decide) ?_
            refine w_goto 26 dX12_playBy_65 (by decide) ?_
            refine ih26 (by omega) _ _ ?_ ?_
            · exact (by omega)
            · exact ⟨fwFu r_26 (256 * (fwShl 1 (gg 5 0 3) - 1 - (c : Int)) + (fwShl 1 (gg 5 0 3) - 1 - (c2 : Int))).toNat (fwB (pV gg u y a b = true)), by rw [fwUp_uc], fun a2 b2 p q => by have q256 : a2 < 256 ∧ b2 < 256 := ⟨Nat.lt_of_lt_of_le p.1 (by omega), Nat.lt_of_lt_of_le p.2.1 (by omega)⟩; unfold fwFu; exact (Decidable.em (a2 = a ∧ b2 = b)).elim (fun e => by rw [if_pos (by omega), e.1, e.2]) (fun e => by rw [if_neg (by omega)]; exact hp26 a2 b2 p (by omega))⟩
      refine lp26 0 (Nat.zero_le _) _ _ ?_ ?_
      · exact (by omega)
      · exact ⟨_, rfl, fun a2 b2 p q => hp15 a2 b2 p (by have := p.2.1; omega)⟩
  refine lp15 0 (Nat.zero_le _) _ _ ?_ ?_
  · exact (by omega)
  · exact ⟨h 43 0, (fwUc_self _ 43 0).symm, fun a2 b2 p q => by have := p.1; omega⟩
theorem ix_0 {c : Nat} (hc : c ≤ 20) : (256 * 0 + fwShl 1 (c : Int)).toNat = 256 * 0 + 2 ^ c := by
  rw [fwShl1_nat hc]
  generalize 2 ^ c = P
  omega
theorem ix_1 {c : Nat} (hc : c ≤ 20) : (256 * fwShl 1 (c : Int) + 0).toNat = 256 * 2 ^ c + 0 := by
  rw [fwShl1_nat hc]
  generalize 2 ^ c = P
  omega
theorem kO_0 : ∀ n, kO 0 0 n = 0 := by
  intro n
  induction n with
  | zero => rfl
  | succ n ih => rw [kO, ih]; unfold dgt; rw [Nat.zero_testBit]; simp
theorem pV_0 (h : fwH) (u : Nat) (y : Int) : pV h u y 0 0 = mPlay h u y := by
  unfold pV mPlay
  rw [kO_0, mMv_0, Nat.sub_zero]
theorem pV_1f {h : fwH} {u : Nat} {y : Int} {f : Nat} (hf : f < (h 5 0 3).toNat) (hn : (h 5 0 3).toNat ≤ 8) (hu : 0 < u) : (if mTn y 0 = true then pV h u y (2 ^ f) 0 else pV h u y 0 (2 ^ f)) = mPl (mEw h) (h 5 0 3).toNat y (2 * u - 1) (mChild (mTn y 0) 0 f) := by
  have z := pV_ch (h := h) (u := u) (v := y) (a := 0) (b := 0) (f := f) (g := 2 * u - 1) ⟨Nat.two_pow_pos _, Nat.two_pow_pos _, hn, rfl⟩ hf (Nat.zero_testBit _) (Nat.zero_testBit _) (by have e9 : cb 0 8 = 0 := (by decide); omega) (mTn y 0)
  rw [kO_0] at z
  rw [z, Nat.zero_or]
set_option maxRecDepth 100000 in
set_option maxHeartbeats 4000000 in
theorem c_X12_play {d : Nat} {h gg : fwH} {Q : Option fwV → fwH → Prop} (x : Int) (y : Int) (J : cOk gg) (R : jF gg h) (K : jA gg h) (hsh : sc h) (hx : -2147483648 ≤ x ∧ x < 2147483648) (hy : -2147483648 ≤ y ∧ y < 2147483648) (k : ∀ g, scr h g → Q (some (aI (an_play gg x y))) g) : fwCt mX12_play (d + 7) [aR 12 0, aI x, aI y] h Q := by
  refine fwCt_of [some (aR 12 0), some (aI x), some (aI y)] rfl rfl rfl ?_
  obtain ⟨hl, hP, hG, hM0, htd, hut, hlw, hhc, ha, hs, hT, hsc⟩ := id J
  have hb17 : hB (gg 17 0) := fun c hc => by have := hM0 c hc; omega
  obtain ⟨⟨g1, g2⟩, ⟨g3, g4⟩, ⟨g5, g6⟩, g7, -⟩ := id hG
  have h17_99 : ∀ c : Nat, (c : Int) < gg 4 0 1 → gg 17 0 c ≤ 99 := fun c hc => (hM0 c (by omega)).2
  have hpz := hP.1
  have hrs1 := R.2.2.2.2.2.2.2.2.2.2.2
  refine w_aload_n dX12_play_0 rfl ?_
  refine w_callV (d := d + 6) (S := []) [] dX12_play_1 ml_X12_73 ok_X12_isMount vi_X12_isMount rfl rfl (by decide) rfl (Nat.le_of_ble_eq_true rfl) ?_
  refine c_X12_isMount (d := (d + 6)) J R ?_
  show fwWP mX12_play (d + 7) 4 [some (aR 12 0), some (aI x), some (aI y)] [aI (fwB (0 < gg 3 0 6))] h Q
  refine w_ifB_eq 46 dX12_play_4 (by decide) (fun c4 => ?_) (fun c4 => ?_)
  · refine w_bipush dX12_play_46 rfl ?_
    exact w_iretE dX12_play_48 rfl (by unfold an_play; rw [if_neg (by omega)]) (k _ (scr_rf hsh))
  · refine w_iload_n dX12_play_7 rfl ?_
    refine w_i2l dX12_play_8 (by omega) ?_
    refine w_lconst (z := 0) dX12_play_9 rfl ?_
    refine w_ldc2 (n := 4) dX12_play_10 cs_X12_289 ?_
    refine w_callS (d := d + 6) (S := []) [aJ x, aJ 0, aJ 4] dX12_play_13 ml_X12_65 ok_X12_in st_X12_in rfl (Nat.le_of_ble_eq_true rfl) ?_
    refine c_X12_in (d := (d + 6)) x 0 4 (by omega) (by omega) (by omega) ?_
    show fwWP mX12_play (d + 7) 16 [some (aR 12 0), some (aI x), some (aI y)] [aI (fwB (0 ≤ x ∧ x ≤ 4))] h Q
    refine w_ifB_eq 46 dX12_play_16 (by decide) (fun c16 => ?_) (fun c16 => ?_)
    · refine w_bipush dX12_play_46 rfl ?_
      exact w_iretE dX12_play_48 rfl (by unfold an_play; rw [if_neg (by omega)]) (k _ (scr_rf hsh))
    · refine w_iload_n dX12_play_19 rfl ?_
      refine w_i2l dX12_play_20 (by omega) ?_
      refine w_lconst (z := 0) dX12_play_21 rfl ?_
      refine w_lconst (z := 1) dX12_play_22 rfl ?_
      refine w_callS (d := d + 6) (S := []) [aJ y, aJ 0, aJ 1] dX12_play_23 ml_X12_65 ok_X12_in st_X12_in rfl (Nat.le_of_ble_eq_true rfl) ?_
      refine c_X12_in (d := (d + 6)) y 0 1 (by omega) (by omega) (by omega) ?_
      show fwWP mX12_play (d + 7) 26 [some (aR 12 0), some (aI x), some (aI y)] [aI (fwB (0 ≤ y ∧ y ≤ 1))] h Q
      refine w_ifB_eq 46 dX12_play_26 (by decide) (fun c26 => ?_) (fun c26 => ?_)
      · refine w_bipush dX12_play_46 rfl ?_
        exact w_iretE dX12_play_48 rfl (by unfold an_play; rw [if_neg (by omega)]) (k _ (scr_rf hsh))
      · obtain ⟨u, rfl⟩ : ∃ u : Nat, x = (u : Int) := ⟨x.toNat, by omega⟩
        refine w_aload_n dX12_play_29 rfl ?_
        refine w_iload_n dX12_play_30 rfl ?_
        refine w_iload_n dX12_play_31 rfl ?_
        refine w_callV (d := d + 6) (S := []) [aI (u : Int), aI y] dX12_play_32 ml_X12_291 ok_X12_playBy vi_X12_playBy rfl rfl (by decide) rfl (Nat.le_of_ble_eq_true rfl) ?_
        refine c_s_playBy (d := d) u y J R K hsh (by omega) (by omega) (by omega) ?_
        intro g4 tb4 sg4
        show fwWP mX12_play (d + 7) 35 [some (aR 12 0), some (aI (u : Int)), some (aI y)] [aI (fwB (pV gg u y 0 0 = true))] g4 Q
        have rr4 := scr_36 sg4
        refine w_ifB_eq 42 dX12_play_35 (by decide) (fun c35 => ?_) (fun c35 => ?_)
        · refine w_iconst dX12_play_42 ?_
          refine w_goto 48 dX12_play_43 (by decide) ?_
          exact w_iretE dX12_play_48 rfl (by unfold an_play; rw [if_pos (by omega), Int.toNat_natCast, ← pV_0, if_neg c35]) (k _ sg4)
        · refine w_iconst dX12_play_38 ?_
          refine w_goto 48 dX12_play_39 (by decide) ?_
          exact w_iretE dX12_play_48 rfl (by unfold an_play; rw [if_pos (by omega), Int.toNat_natCast, ← pV_0, if_pos c35]) (k _ sg4)
set_option maxRecDepth 100000 in
set_option maxHeartbeats 4000000 in
theorem c_X12_moves {d : Nat} {h gg : fwH} {Q : Option fwV → fwH → Prop} (x : Int) (y : Int) (J : cOk gg) (R : jF gg h) (K : jA gg h) (hsh : sc h) (hx : -2147483648 ≤ x ∧ x < 2147483648) (hy : -2147483648 ≤ y ∧ y < 2147483648) (k : ∀ g, scr h g → Q (some (aI (an_moves gg x y))) g) : fwCt mX12_moves (d + 7) [aR 12 0, aI x, aI y] h Q := by
  refine fwCt_of [some (aR 12 0), some (aI x), some (aI y), none, none] rfl rfl rfl ?_
  obtain ⟨hl, hP, hG, hM0, htd, hut, hlw, hhc, ha, hs, hT, hsc⟩ := id J
  have hb17 : hB (gg 17 0) := fun c hc => by have := hM0 c hc; omega
  obtain ⟨⟨g1, g2⟩, ⟨g3, g4⟩, ⟨g5, g6⟩, g7, -⟩ := id hG
  have h17_99 : ∀ c : Nat, (c : Int) < gg 4 0 1 → gg 17 0 c ≤ 99 := fun c hc => (hM0 c (by omega)).2
  have hpz := hP.1
  have hrs1 := R.2.2.2.2.2.2.2.2.2.2.2
  refine w_aload_n dX12_moves_0 rfl ?_
  refine w_callV (d := d + 6) (S := []) [] dX12_moves_1 ml_X12_73 ok_X12_isMount vi_X12_isMount rfl rfl (by decide) rfl (Nat.le_of_ble_eq_true rfl) ?_
  refine c_X12_isMount (d := (d + 6)) J R ?_
  show fwWP mX12_moves (d + 7) 4 [some (aR 12 0), some (aI x), some (aI y), none, none] [aI (fwB (0 < gg 3 0 6))] h Q
  refine w_ifB_eq 29 dX12_moves_4 (by decide) (fun c4 => ?_) (fun c4 => ?_)
  · refine w_bipush dX12_moves_29 rfl ?_
    exact w_iretE dX12_moves_31 rfl (by unfold an_moves; rw [if_neg (by omega)]) (k _ (scr_rf hsh))
  · refine w_iload_n dX12_moves_7 rfl ?_
    refine w_i2l dX12_moves_8 (by omega) ?_
    refine w_lconst (z := 0) dX12_moves_9 rfl ?_
    refine w_ldc2 (n := 4) dX12_moves_10 cs_X12_289 ?_
    refine w_callS (d := d + 6) (S := []) [aJ x, aJ 0, aJ 4] dX12_moves_13 ml_X12_65 ok_X12_in st_X12_in rfl (Nat.le_of_ble_eq_true rfl) ?_
    refine c_X12_in (d := (d + 6)) x 0 4 (by omega) (by omega) (by omega) ?_
    show fwWP mX12_moves (d + 7) 16 [some (aR 12 0), some (aI x), some (aI y), none, none] [aI (fwB (0 ≤ x ∧ x ≤ 4))] h Q
    refine w_ifB_eq 29 dX12_moves_16 (by decide) (fun c16 => ?_) (fun c16 => ?_)
    · refine w_bipush dX12_moves_29 rfl ?_
      exact w_iretE dX12_moves_31 rfl (by unfold an_moves; rw [if_neg (by omega)]) (k _ (scr_rf hsh))
    · refine w_iload_n dX12_moves_19 rfl ?_
      refine w_i2l dX12_moves_20 (by omega) ?_
      refine w_lconst (z := 0) dX12_moves_21 rfl ?_
      refine w_lconst (z := 1) dX12_moves_22 rfl ?_
      refine w_callS (d := d + 6) (S := []) [aJ y, aJ 0, aJ 1] dX12_moves_23 ml_X12_65 ok_X12_in st_X12_in rfl (Nat.le_of_ble_eq_true rfl) ?_
      refine c_X12_in (d := (d + 6)) y 0 1 (by omega) (by omega) (by omega) ?_
      show fwWP mX12_moves (d + 7) 26 [some (aR 12 0), some (aI x), some (aI y), none, none] [aI (fwB (0 ≤ y ∧ y ≤ 1))] h Q
      refine w_ifB_ne 32 dX12_moves_26 (by decide) (fun c26 => ?_) (fun c26 => ?_)
      · refine w_iload_n dX12_moves_32 rfl ?_
        refine w_if_eq 46 dX12_moves_33 (by decide) (by omega) (fun c33 => ?_) (fun c33 => ?_)
        · refine w_iconst dX12_moves_46 ?_
          exact w_iretE dX12_moves_47 rfl (by unfold an_moves; rw [if_pos (by omega)]; unfold mMov; rw [if_pos (by omega)]) (k _ (scr_rf hsh))
        · refine w_aload_n dX12_moves_36 rfl ?_
          refine w_getr 36 0 dX12_moves_37 fl_X12_9 rfl (by decide) ?_
          refine w_bipush dX12_moves_40 rfl ?_
          refine w_ialdE (v := gg 5 0 3) dX12_moves_42 rfl (by decide) (by omega) (by omega) R.2.2.2.2.2.2.1 ?_
          refine w_if_ne 48 dX12_moves_43 (by decide) (by omega) (fun c43 => ?_) (fun c43 => ?_)
          · obtain ⟨u, rfl⟩ : ∃ u : Nat, x = (u : Int) := ⟨x.toNat, by omega⟩
            refine w_aload_n dX12_moves_48 rfl ?_
            refine w_iload_n dX12_moves_49 rfl ?_
            refine w_iload_n dX12_moves_50 rfl ?_
            refine w_callV (d := d + 6) (S := []) [aI (u : Int), aI y] dX12_moves_51 ml_X12_291 ok_X12_playBy vi_X12_playBy rfl rfl (by decide) rfl (Nat.le_of_ble_eq_true rfl) ?_
            refine c_s_playBy (d := d) u y J R K hsh (by omega) (by omega) (by omega) ?_
            intro g6 tb6 sg6
            show fwWP mX12_moves (d + 7) 54 [some (aR 12 0), some (aI (u : Int)), some (aI y), none, none] [aI (fwB (pV gg u y 0 0 = true))] g6 Q
            have rr6 := scr_36 sg6
            refine w_pop dX12_moves_54 rfl ?_
            refine w_iconst dX12_moves_55 ?_
            refine w_iload_n dX12_moves_56 rfl ?_
            refine w_callS (d := d + 6) (S := []) [aI 0, aI y] dX12_moves_57 ml_X12_279 ok_X12_isWinners st_X12_isWinners rfl (Nat.le_of_ble_eq_true rfl) ?_
            refine c_s_isWinE (d := (d + 6)) 0 0 y rfl (by decide) (by omega) ?_
            show fwWP mX12_moves (d + 7) 60 [some (aR 12 0), some (aI (u : Int)), some (aI y), none, none] [aI (fwB (mTn y 0 = true))] g6 Q
            refine w_istore_n [some (aR 12 0), some (aI (u : Int)), some (aI y), some (aI (fwB (mTn y 0 = true))), none] dX12_moves_60 rfl (by decide) ?_
            refine w_iconst dX12_moves_61 ?_
            refine w_istore [some (aR 12 0), some (aI (u : Int)), some (aI y), some (aI (fwB (mTn y 0 = true))), some (aI 0)] dX12_moves_62 rfl (by decide) ?_
            have lp64 : ∀ c : Nat, c ≤ (gg 5 0 3).toNat → ∀ (y64  : Int), y64 = (c : Int) → (mFst (mMovB gg u y) c = c) → fwWP mX12_moves (d + 7) 64 [some (aR 12 0), some (aI (u : Int)), some (aI y), some (aI (fwB (mTn y 0 = true))), some (aI y64)] [] g6 Q := by
              refine fw_up (fun c hc64 ih64 => ?_)
              intro y64  ey64 iv64_0
              subst ey64
              show fwWP mX12_moves (d + 7) 64 [some (aR 12 0), some (aI (u : Int)), some (aI y), some (aI (fwB (mTn y 0 = true))), some (aI (c : Int))] [] g6 Q
              refine w_iload dX12_moves_64 rfl ?_
              refine w_aload_n dX12_moves_66 rfl ?_
              refine w_getr 36 0 dX12_moves_67 fl_X12_9 rfl (by decide) ?_
              refine w_bipush dX12_moves_70 rfl ?_
              refine w_ialdE (v := gg 5 0 3) dX12_moves_72 rfl (by decide) (by omega) (by omega) (by rw [rr6]; exact R.2.2.2.2.2.2.1) ?_
              refine w_icmp_ge 122 dX12_moves_73 (by decide) (by omega) (by omega) (fun c73 => ?_) (fun c73 => ?_)
              · refine w_iconst dX12_moves_122 ?_
                exact w_iretE dX12_moves_123 rfl (by unfold an_moves; rw [if_pos (by omega), Int.toNat_natCast]; unfold mMov; rw [if_neg (by omega), if_pos (by rw [show (gg 5 0 3).toNat = c by omega]; exact iv64_0)]) (k _ sg6)
              · have hf8 := shl_8 (x := (c : Int)) (by omega)
                have hf7 : fwShl 1 (c : Int) < 256 := shl_c8 (by omega)
                refine w_iload_n dX12_moves_76 rfl ?_
                refine w_ifB_eq 96 dX12_moves_77 (by decide) (fun c77 => ?_) (fun c77 => ?_)
                · refine w_aload_n dX12_moves_96 rfl ?_
                  refine w_getr 43 0 dX12_moves_97 fl_X12_38 rfl (by decide) ?_
                  refine w_iconst dX12_moves_100 ?_
                  refine w_iconst dX12_moves_101 ?_
                  refine w_iload dX12_moves_102 rfl ?_
                  refine w_ishl dX12_moves_104 ?_
                  refine w_callS (d := d + 6) (S := [aR 43 0]) [aI 0, aI (fwShl 1 (c : Int))] dX12_moves_105 ml_X12_282 ok_X12_pair st_X12_pair rfl (Nat.le_of_ble_eq_true rfl) ?_
                  refine c_X12_pair (d := (d + 6)) 0 (fwShl 1 (c : Int)) ?_
                  show fwWP mX12_moves (d + 7) 108 [some (aR 12 0), some (aI (u : Int)), some (aI y), some (aI (fwB (mTn y 0 = true))), some (aI (c : Int))] [aI (256 * 0 + (fwShl 1 (c : Int))), aR 43 0] g6 Q
                  refine w_zaldE (v := fwB (pV gg u y 0 (2 ^ c) = true)) dX12_moves_108 rfl (by decide) (by omega) (by omega) (by rw [show ((256 * 0 + (fwShl 1 (c : Int))).toNat) = 256 * 0 + 2 ^ c from ix_0 (by omega)]; exact tb6 _ _ ⟨Nat.two_pow_pos _, Nat.pow_lt_pow_right (by decide) (by omega), by omega, Nat.zero_and _⟩) ?_
                  have hb9 := fwB_01 (pV gg u y 0 (2 ^ c) = true)
                  have hb8_ := fwB_01 (mTn y 0 = true)
                  refine w_iload_n dX12_moves_109 rfl ?_
                  refine w_icmp_ne 116 dX12_moves_110 (by decide) (by omega) (by omega) (fun c110 => ?_) (fun c110 => ?_)
                  · refine w_iinc [some (aR 12 0), some (aI (u : Int)), some (aI y), some (aI (fwB (mTn y 0 = true))), some (aI ((c : Int) + 1))] dX12_moves_116 rfl rfl (by decide) ?_
                    refine w_goto 64 dX12_moves_119 (by decide) ?_
                    refine ih64 (by omega) _ ?_ ?_
                    · exact (by omega)
                    · exact (mFst_go iv64_0 (decide_eq_true (by rw [← pV_1f (by omega) (by omega) (by omega), if_neg c77]; intro q9; rw [(Bool.not_eq_true _).mp c77] at q9; rw [fwB_f (by rw [q9]; decide), fwB_f c77] at c110; exact c110 rfl)))
                  · refine w_iload dX12_moves_113 rfl ?_
                    exact w_iretE dX12_moves_115 rfl (by unfold an_moves; rw [if_pos (by omega), Int.toNat_natCast]; unfold mMov; have z9 := mFst_stop iv64_0 (fun q => of_decide_eq_true q (by rw [← pV_1f (by omega) (by omega) (by omega), if_neg c77, (Bool.not_eq_true _).mp c77]; exact (Bool.not_eq_true _).mp (fun q => by rw [fwB_t q, fwB_f c77] at c110; omega))) ((gg 5 0 3).toNat - c); rw [show c + ((gg 5 0 3).toNat - c) = (gg 5 0 3).toNat by omega] at z9; rw [if_neg (by omega), z9, if_neg (by omega)]) (k _ sg6)
                · refine w_aload_n dX12_moves_80 rfl ?_
                  refine w_getr 43 0 dX12_moves_81 fl_X12_38 rfl (by decide) ?_
                  refine w_iconst dX12_moves_84 ?_
                  refine w_iload dX12_moves_85 rfl ?_
                  refine w_ishl dX12_moves_87 ?_
                  refine w_iconst dX12_moves_88 ?_
                  refine w_callS (d := d + 6) (S := [aR 43 0]) [aI (fwShl 1 (c : Int)), aI 0] dX12_moves_89 ml_X12_282 ok_X12_pair st_X12_pair rfl (Nat.le_of_ble_eq_true rfl) ?_
                  refine c_X12_pair (d := (d + 6)) (fwShl 1 (c : Int)) 0 ?_
                  show fwWP mX12_moves (d + 7) 92 [some (aR 12 0), some (aI (u : Int)), some (aI y), some (aI (fwB (mTn y 0 = true))), some (aI (c : Int))] [aI (256 * (fwShl 1 (c : Int)) + 0), aR 43 0] g6 Q
                  refine w_zaldE (v := fwB (pV gg u y (2 ^ c) 0 = true)) dX12_moves_92 rfl (by decide) (by omega) (by omega) (by rw [show ((256 * (fwShl 1 (c : Int)) + 0).toNat) = 256 * 2 ^ c + 0 from ix_1 (by omega)]; exact tb6 _ _ ⟨Nat.pow_lt_pow_right (by decide) (by omega), Nat.two_pow_pos _, by omega, Nat.and_zero _⟩) ?_
                  refine w_goto 109 dX12_moves_93 (by decide) ?_
                  have hb9 := fwB_01 (pV gg u y (2 ^ c) 0 = true)
                  have hb8_ := fwB_01 (mTn y 0 = true)
                  refine w_iload_n dX12_moves_109 rfl ?_
                  refine w_icmp_ne 116 dX12_moves_110 (by decide) (by omega) (by omega) (fun c110 => ?_) (fun c110 => ?_)
                  · refine w_iinc [some (aR 12 0), some (aI (u : Int)), some (aI y), some (aI (fwB (mTn y 0 = true))), some (aI ((c : Int) + 1))] dX12_moves_116 rfl rfl (by decide) ?_
                    refine w_goto 64 dX12_moves_119 (by decide) ?_
                    refine ih64 (by omega) _ ?_ ?_
                    · exact (by omega)
                    · exact (mFst_go iv64_0 (decide_eq_true (by rw [← pV_1f (by omega) (by omega) (by omega), if_pos c77]; intro q9; rw [c77] at q9; rw [fwB_t q9, fwB_t c77] at c110; exact c110 rfl)))
                  · refine w_iload dX12_moves_113 rfl ?_
                    exact w_iretE dX12_moves_115 rfl (by unfold an_moves; rw [if_pos (by omega), Int.toNat_natCast]; unfold mMov; have z9 := mFst_stop iv64_0 (fun q => of_decide_eq_true q (by rw [← pV_1f (by omega) (by omega) (by omega), if_pos c77, c77]; exact Classical.byContradiction (fun q => by rw [fwB_f q, fwB_t c77] at c110; omega))) ((gg 5 0 3).toNat - c); rw [show c + ((gg 5 0 3).toNat - c) = (gg 5 0 3).toNat by omega] at z9; rw [if_neg (by omega), z9, if_neg (by omega)]) (k _ sg6)
            refine lp64 0 (Nat.zero_le _) _ ?_ ?_
            · exact (by omega)
            · exact rfl
          · refine w_iconst dX12_moves_46 ?_
            exact w_iretE dX12_moves_47 rfl (by unfold an_moves; rw [if_pos (by omega)]; unfold mMov; rw [if_pos (by omega)]) (k _ (scr_rf hsh))
      · refine w_bipush dX12_moves_29 rfl ?_
        exact w_iretE dX12_moves_31 rfl (by unfold an_moves; rw [if_neg (by omega)]) (k _ (scr_rf hsh))
end
section
section PAIRSS
variable {d d2 : Nat} {e : fwH} {Q : Option fwV → fwH → Prop}
theorem prs_play (I : jI e) (x : Int) (y : Int) (hx : -2147483648 ≤ x ∧ x < 2147483648) (hy : -2147483648 ≤ y ∧ y < 2147483648) (k : ∀ v g1, prM mX12_play (d2 + 7) [aI x, aI y] v g1 → Q (some (aI v)) g1) : fwCt mX11_play (d + 30) [aR 0 0, aI x, aI y] e Q :=
  c_X11_play x y I.1 hx hy (fun g hg => k _ _ (fun Q2 k2 => c_X12_play (gg := e) x y I.1 (jF_g I hg) (jA_g I hg) hg.2.2 hx hy (fun g2 hg2 => k2 _ (jI_scr I (scr_tr hg hg2)))))
theorem prs_moves (I : jI e) (x : Int) (y : Int) (hx : -2147483648 ≤ x ∧ x < 2147483648) (hy : -2147483648 ≤ y ∧ y < 2147483648) (k : ∀ v g1, prM mX12_moves (d2 + 7) [aI x, aI y] v g1 → Q (some (aI v)) g1) : fwCt mX11_moves (d + 31) [aR 0 0, aI x, aI y] e Q :=
  c_X11_moves x y I.1 hx hy (fun g hg => k _ _ (fun Q2 k2 => c_X12_moves (gg := e) x y I.1 (jF_g I hg) (jA_g I hg) hg.2.2 hx hy (fun g2 hg2 => k2 _ (jI_scr I (scr_tr hg hg2)))))
end PAIRSS
end

/-! bits of small numbers, in words of Nat -/
theorem fwOr_nat {a b : Nat} (ha : a < 2 ^ 31) (hb : b < 2 ^ 31) : fwOr (a : Int) (b : Int) = ((a ||| b : Nat) : Int) := by
  unfold fwOr
  have e1 : Int32.ofInt (a : Int) = nI a := rfl
  have e2 : Int32.ofInt (b : Int) = nI b := rfl
  have e3 : nI a ||| nI b = nI (a ||| b) := by
    apply Int32.toBitVec_inj.mp
    rw [Int32.toBitVec_or]
    apply BitVec.eq_of_toNat_eq
    rw [BitVec.toNat_or, pk_tn (by omega), pk_tn (by omega), pk_tn (Nat.lt_trans (Nat.or_lt_two_pow ha hb) (by decide))]
  rw [e1, e2, e3, nI_toInt (Nat.or_lt_two_pow ha hb)]
theorem fwAnd_nat {a b : Nat} (ha : a < 2 ^ 31) (hb : b < 2 ^ 31) : fwAnd (a : Int) (b : Int) = ((a &&& b : Nat) : Int) := by
  unfold fwAnd
  have e1 : Int32.ofInt (a : Int) = nI a := rfl
  have e2 : Int32.ofInt (b : Int) = nI b := rfl
  have hl : a &&& b < 2 ^ 31 := Nat.lt_of_le_of_lt Nat.and_le_left ha
  have e3 : nI a &&& nI b = nI (a &&& b) := by
    apply Int32.toBitVec_inj.mp
    rw [Int32.toBitVec_and]
    apply BitVec.eq_of_toNat_eq
    rw [BitVec.toNat_and, pk_tn (by omega), pk_tn (by omega), pk_tn (by omega)]
  rw [e1, e2, e3, nI_toInt hl]
theorem fwShr_nat {a : Nat} (ha : a < 2 ^ 31) : ∀ f : Nat, f < 32 → fwShr (a : Int) (f : Int) = ((a / 2 ^ f : Nat) : Int) := by
  intro f hf
  unfold fwShr
  have e1 : Int32.ofInt (a : Int) = nI a := rfl
  have key : ∀ f : Nat, f < 32 → ((Int32.ofInt (f : Int) &&& 31).toBitVec.smod 32).toNat = f := by decide +kernel
  rw [e1, pk_shrN ha _ f (key f hf), nI_toInt (Nat.lt_of_le_of_lt (Nat.div_le_self _ _) ha)]
theorem fwBit_nat {a : Nat} (ha : a < 2 ^ 31) (f : Nat) (hf : f < 32) : fwAnd (fwShr (a : Int) (f : Int)) 1 = if a.testBit f then 1 else 0 := by
  rw [fwShr_nat ha f hf, show (1 : Int) = ((1 : Nat) : Int) from rfl, fwAnd_nat (Nat.lt_of_le_of_lt (Nat.div_le_self _ _) ha) (by decide)]
  rw [Nat.and_one_is_mod, Nat.testBit_eq_decide_div_mod_eq]
  by_cases h : a / 2 ^ f % 2 = 1
  · simp [h]
  · have : a / 2 ^ f % 2 = 0 := by omega
    simp [this]
theorem fwShl1_nat {f : Nat} (hf : f ≤ 20) : fwShl 1 (f : Int) = ((2 ^ f : Nat) : Int) := by
  rw [fwShl1 f hf]
  simp
theorem fwB_eq {P Q : Prop} [Decidable P] [Decidable Q] (h : P ↔ Q) : fwB P = fwB Q := by
  unfold fwB
  by_cases hp : P
  · rw [if_pos hp, if_pos (h.mp hp)]
  · rw [if_neg hp, if_neg (fun q => hp (h.mpr q))]
/-- digits of base 3 -/
def mDg (K f : Nat) : Nat := K / 3 ^ f % 3
theorem mDg_add {K f c : Nat} (h0 : mDg K f = 0) (hc : c < 3) (j : Nat) : mDg (K + c * 3 ^ f) j = if j = f then c else mDg K j := by
  unfold mDg at *
  rcases Nat.lt_trichotomy j f with h | h | h
  · rw [if_neg (by omega)]
    obtain ⟨m, rfl⟩ : ∃ m, f = j + (m + 1) := ⟨f - j - 1, by omega⟩
    have e : K + c * 3 ^ (j + (m + 1)) = K + 3 ^ j * (c * 3 ^ m * 3) := by
      rw [Nat.pow_add, Nat.pow_succ]
      congr 1
      simp only [Nat.mul_comm, Nat.mul_left_comm, Nat.mul_assoc]
    rw [e, Nat.add_mul_div_left _ _ (Nat.pow_pos (by decide)), Nat.add_mul_mod_self_right]
  · subst h
    rw [if_pos rfl, Nat.add_mul_div_right _ _ (Nat.pow_pos (by decide))]
    omega
  · rw [if_neg (by omega)]
    obtain ⟨m, rfl⟩ : ∃ m, j = f + 1 + m := ⟨j - f - 1, by omega⟩
    rw [Nat.pow_add, Nat.pow_succ, ← Nat.div_div_eq_div_mul, ← Nat.div_div_eq_div_mul, ← Nat.div_div_eq_div_mul, ← Nat.div_div_eq_div_mul, Nat.add_mul_div_right _ _ (Nat.pow_pos (by decide))]
    rw [show (K / 3 ^ f + c) / 3 = K / 3 ^ f / 3 by omega]
theorem mDg_lt {K f n c : Nat} (h0 : mDg K f = 0) (hc : c < 3) (hf : f < n) (hK : K < 3 ^ n) : K + c * 3 ^ f < 3 ^ n := by
  unfold mDg at h0
  obtain ⟨m, rfl⟩ : ∃ m, n = f + 1 + m := ⟨n - f - 1, by omega⟩
  have hp : 0 < 3 ^ f := Nat.pow_pos (by decide)
  have e : 3 ^ (f + 1 + m) = 3 ^ f * (3 * 3 ^ m) := by rw [Nat.pow_add, Nat.pow_succ, Nat.mul_assoc]
  rw [e] at hK ⊢
  have h1 : K / 3 ^ f < 3 * 3 ^ m := Nat.div_lt_of_lt_mul hK
  have h2 := Nat.div_add_mod K (3 ^ f)
  have h3 := Nat.mod_lt K hp
  have h4 : K / 3 ^ f + c + 1 ≤ 3 * 3 ^ m := by omega
  have h5 : 3 ^ f * (K / 3 ^ f + c + 1) ≤ 3 ^ f * (3 * 3 ^ m) := Nat.mul_le_mul_left _ h4
  have h6 : 3 ^ f * (K / 3 ^ f + c + 1) = 3 ^ f * (K / 3 ^ f) + c * 3 ^ f + 3 ^ f := by
    rw [Nat.mul_add, Nat.mul_add, Nat.mul_one, Nat.mul_comm (3 ^ f) c]
  omega
/-- the set of those whose digit is v, below n -/
def mSetN (K v : Nat) : Nat → Nat
  | 0 => 0
  | f + 1 => mSetN K v f ||| (if mDg K f = v then 2 ^ f else 0)
theorem mSetN_bit (K v : Nat) : ∀ n j : Nat, (mSetN K v n).testBit j = decide (j < n ∧ mDg K j = v) := by
  intro n
  induction n with
  | zero => intro j; simp [mSetN]
  | succ n ih =>
    intro j
    rw [mSetN, Nat.testBit_or, ih]
    by_cases e : mDg K n = v
    · rw [if_pos e, Nat.testBit_two_pow]
      by_cases q : n = j
      · subst q
        simp [e]
      · simp only [q, decide_false, Bool.or_false]
        congr 1
        apply propext
        constructor
        · intro h; exact ⟨by omega, h.2⟩
        · intro h; exact ⟨by omega, h.2⟩
    · rw [if_neg e, Nat.zero_testBit, Bool.or_false]
      congr 1
      apply propext
      constructor
      · intro h; exact ⟨by omega, h.2⟩
      · intro h
        refine ⟨?_, h.2⟩
        rcases Nat.lt_or_ge j n with q | q
        · exact q
        · exfalso
          have : j = n := by omega
          subst this
          exact e h.2
theorem mSetN_lt (K v : Nat) : ∀ n, mSetN K v n < 2 ^ n := by
  intro n
  induction n with
  | zero => simp [mSetN]
  | succ n ih =>
    rw [mSetN]
    refine Nat.or_lt_two_pow (Nat.lt_trans ih (Nat.pow_lt_pow_right (by decide) (by omega))) ?_
    split
    · exact Nat.pow_lt_pow_right (by decide) (by omega)
    · exact Nat.two_pow_pos _
def mMvN (K : Nat) : Nat → Nat
  | 0 => 0
  | f + 1 => mMvN K f + (if mDg K f = 0 then 0 else 1)
theorem mMvN_add {K f c : Nat} (h0 : mDg K f = 0) (hc : c < 3) (hc0 : c ≠ 0) : ∀ n, mMvN (K + c * 3 ^ f) n = mMvN K n + (if f < n then 1 else 0) := by
  intro n
  induction n with
  | zero => simp [mMvN]
  | succ n ih =>
    rw [mMvN, mMvN, ih, mDg_add h0 hc]
    by_cases e : n = f
    · subst e
      rw [if_pos rfl, if_neg hc0, if_neg (by omega), if_pos h0, if_pos (by omega)]
    · rw [if_neg e]
      (repeat' split) <;> omega
def mWnN (K : Nat) : Nat := mSetN K 1 8
def mBrN (K : Nat) : Nat := mSetN K 2 8
def mMv (K : Nat) : Nat := mMvN K 8
abbrev mWn (K : Nat) : Int := (mWnN K : Int)
abbrev mBr (K : Nat) : Int := (mBrN K : Int)
theorem mWnN_lt (K : Nat) : mWnN K < 256 := mSetN_lt K 1 8
theorem mBrN_lt (K : Nat) : mBrN K < 256 := mSetN_lt K 2 8
theorem mSetN_add {K f c v : Nat} (h0 : mDg K f = 0) (hc : c < 3) (hf : f < 8) (hv : v ≠ 0) : mSetN (K + c * 3 ^ f) v 8 = if c = v then mSetN K v 8 ||| 2 ^ f else mSetN K v 8 := by
  apply Nat.eq_of_testBit_eq
  intro j
  rw [mSetN_bit, mDg_add h0 hc]
  by_cases e : c = v
  · subst e
    rw [if_pos rfl, Nat.testBit_or, mSetN_bit, Nat.testBit_two_pow]
    by_cases q : j = f
    · subst q
      simp [hf]
    · rw [if_neg q]
      simp [Ne.symm q]
  · rw [if_neg e, mSetN_bit]
    by_cases q : j = f
    · subst q
      simp [e, h0, Ne.symm hv]
    · rw [if_neg q]
theorem mWn_add1 {K f : Nat} (h0 : mDg K f = 0) (hf : f < 8) : fwOr (mWn K) (fwShl 1 (f : Int)) = mWn (K + 1 * 3 ^ f) ∧ mBr K = mBr (K + 1 * 3 ^ f) ∧ mMv K + 1 = mMv (K + 1 * 3 ^ f) := by
  refine ⟨?_, ?_, ?_⟩
  · rw [fwShl1_nat (by omega), fwOr_nat (Nat.lt_trans (mWnN_lt K) (by decide)) (Nat.pow_lt_pow_right (by decide) (by omega))]
    unfold mWn mWnN
    rw [mSetN_add h0 (by decide) hf (by decide), if_pos rfl]
  · unfold mBr mBrN
    rw [mSetN_add h0 (by decide) hf (by decide), if_neg (by decide)]
  · unfold mMv
    rw [mMvN_add h0 (by decide) (by decide), if_pos hf]
theorem mWn_add2 {K f : Nat} (h0 : mDg K f = 0) (hf : f < 8) : mWn K = mWn (K + 2 * 3 ^ f) ∧ fwOr (mBr K) (fwShl 1 (f : Int)) = mBr (K + 2 * 3 ^ f) ∧ mMv K + 1 = mMv (K + 2 * 3 ^ f) := by
  refine ⟨?_, ?_, ?_⟩
  · unfold mWn mWnN
    rw [mSetN_add h0 (by decide) hf (by decide), if_neg (by decide)]
  · rw [fwShl1_nat (by omega), fwOr_nat (Nat.lt_trans (mBrN_lt K) (by decide)) (Nat.pow_lt_pow_right (by decide) (by omega))]
    unfold mBr mBrN
    rw [mSetN_add h0 (by decide) hf (by decide), if_pos rfl]
  · unfold mMv
    rw [mMvN_add h0 (by decide) (by decide), if_pos hf]
theorem mDg_3 (K f : Nat) : mDg K f = 0 ∨ mDg K f = 1 ∨ mDg K f = 2 := by unfold mDg; omega
theorem mWB_lt (K : Nat) : mWnN K ||| mBrN K < 2 ^ 31 := Nat.lt_trans (Nat.or_lt_two_pow (mWnN_lt K) (mBrN_lt K) : _ < 2 ^ 8) (by decide)
theorem mWB_bit (K j : Nat) : (mWnN K ||| mBrN K).testBit j = decide (j < 8 ∧ mDg K j ≠ 0) := by
  unfold mWnN mBrN
  rw [Nat.testBit_or, mSetN_bit, mSetN_bit]
  rcases mDg_3 K j with e | e | e <;> simp [e]
theorem mFree {K f : Nat} (hf : f < 8) : fwAnd (fwShr (fwOr (mWn K) (mBr K)) (f : Int)) 1 = 0 ↔ mDg K f = 0 := by
  rw [fwOr_nat (Nat.lt_trans (mWnN_lt K) (by decide)) (Nat.lt_trans (mBrN_lt K) (by decide)), fwBit_nat (mWB_lt K) f (by omega), mWB_bit]
  by_cases e : mDg K f = 0 <;> simp [e, hf]
def mFull (nf K : Nat) : Bool := mAll (fun f => decide (mDg K f ≠ 0)) nf
theorem mDg_ge {K n j : Nat} (hK : K < 3 ^ n) (hj : n ≤ j) : mDg K j = 0 := by
  unfold mDg
  rw [Nat.div_eq_of_lt (Nat.lt_of_lt_of_le hK (Nat.pow_le_pow_right (by decide) hj))]
theorem mFull_iff {K n : Nat} (hn : n ≤ 8) (hK : K < 3 ^ n) : fwOr (mWn K) (mBr K) = fwShl 1 (n : Int) - 1 ↔ mFull n K = true := by
  rw [fwOr_nat (Nat.lt_trans (mWnN_lt K) (by decide)) (Nat.lt_trans (mBrN_lt K) (by decide)), fwShl1_nat (by omega)]
  have e : (((mWnN K ||| mBrN K : Nat) : Int) = ((2 ^ n : Nat) : Int) - 1) ↔ mWnN K ||| mBrN K = 2 ^ n - 1 := by
    have := Nat.two_pow_pos n
    omega
  rw [e]
  unfold mFull
  rw [mAll_iff]
  constructor
  · intro h j hj
    have h2 : (mWnN K ||| mBrN K).testBit j = (2 ^ n - 1).testBit j := by rw [h]
    rw [mWB_bit, Nat.testBit_two_pow_sub_one] at h2
    simp only [hj, decide_true] at h2
    exact decide_eq_true (of_decide_eq_true h2).2
  · intro h
    apply Nat.eq_of_testBit_eq
    intro j
    rw [mWB_bit, Nat.testBit_two_pow_sub_one]
    by_cases q : j < n
    · have := of_decide_eq_true (h j q)
      simp only [q, decide_true]
      exact decide_eq_true ⟨by omega, this⟩
    · have h9 := mDg_ge hK (show n ≤ j by omega)
      simp [q, h9]

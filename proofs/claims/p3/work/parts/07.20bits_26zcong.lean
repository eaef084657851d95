section
/-! bits of small numbers, in words of Nat -/
theorem fwOr_nat {a b : Nat} (ha : a < 2 ^ 31) (hb : b < 2 ^ 31) : fwOr (a : Int) (b : Int) = ((a ||| b : Nat) : Int) := by
  unfold fwOr
  have e1 : Int32.ofInt (a : Int) = nI a := rfl
  have e2 : Int32.ofInt (b : Int) = nI b := rfl
  have e3 : nI a ||| nI b = nI (a ||| b) := by
    apply Int32.toBitVec_inj.mp
    rw [Int32.toBitVec_or]
    apply BitVec.eq_of_toNat_eq
    rw [BitVec.toNat_or, pk_tn (by omega), pk_tn (by omega), pk_tn (Nat.lt_trans (Nat.or_lt_two_pow ha hb) (by decide))]
  rw [e1, e2, e3, nI_toInt (Nat.or_lt_two_pow ha hb)]
theorem fwAnd_nat {a b : Nat} (ha : a < 2 ^ 31) (hb : b < 2 ^ 31) : fwAnd (a : Int) (b : Int) = ((a &&& b : Nat) : Int) := by
  unfold fwAnd
  have e1 : Int32.ofInt (a : Int) = nI a := rfl
  have e2 : Int32.ofInt (b : Int) = nI b := rfl
  have hl : a &&& b < 2 ^ 31 := Nat.lt_of_le_of_lt Nat.and_le_left ha
  have e3 : nI a &&& nI b = nI (a &&& b) := by
    apply Int32.toBitVec_inj.mp
    rw [Int32.toBitVec_and]
    apply BitVec.eq_of_toNat_eq
    rw [BitVec.toNat_and, pk_tn (by omega), pk_tn (by omega), pk_tn (by omega)]
  rw [e1, e2, e3, nI_toInt hl]
theorem fwShr_nat {a : Nat} (ha : a < 2 ^ 31) : ∀ f : Nat, f < 32 → fwShr (a : Int) (f : Int) = ((a / 2 ^ f : Nat) : Int) := by
  intro f hf
  unfold fwShr
  have e1 : Int32.ofInt (a : Int) = nI a := rfl
  have key : ∀ f : Nat, f < 32 → ((Int32.ofInt (f : Int) &&& 31).toBitVec.smod 32).toNat = f := by decide +kernel
  rw [e1, pk_shrN ha _ f (key f hf), nI_toInt (Nat.lt_of_le_of_lt (Nat.div_le_self _ _) ha)]
theorem fwBit_nat {a : Nat} (ha : a < 2 ^ 31) (f : Nat) (hf : f < 32) : fwAnd (fwShr (a : Int) (f : Int)) 1 = if a.testBit f then 1 else 0 := by
  rw [fwShr_nat ha f hf, show (1 : Int) = ((1 : Nat) : Int) from rfl, fwAnd_nat (Nat.lt_of_le_of_lt (Nat.div_le_self _ _) ha) (by decide)]
  rw [Nat.and_one_is_mod, Nat.testBit_eq_decide_div_mod_eq]
  by_cases h : a / 2 ^ f % 2 = 1
  · simp [h]
  · have : a / 2 ^ f % 2 = 0 := by omega
    simp [this]
theorem fwShl1_nat {f : Nat} (hf : f ≤ 20) : fwShl 1 (f : Int) = ((2 ^ f : Nat) : Int) := by
  rw [fwShl1 f hf]
  simp
theorem fwB_eq {P Q : Prop} [Decidable P] [Decidable Q] (h : P ↔ Q) : fwB P = fwB Q := by
  unfold fwB
  by_cases hp : P
  · rw [if_pos hp, if_pos (h.mp hp)]
  · rw [if_neg hp, if_neg (fun q => hp (h.mpr q))]
/-- digits of base 3 -/
def mDg (K f : Nat) : Nat := K / 3 ^ f % 3
theorem mDg_add {K f c : Nat} (h0 : mDg K f = 0) (hc : c < 3) (j : Nat) : mDg (K + c * 3 ^ f) j = if j = f then c else mDg K j := by
  unfold mDg at *
  rcases Nat.lt_trichotomy j f with h | h | h
  · rw [if_neg (by omega)]
    obtain ⟨m, rfl⟩ : ∃ m, f = j + (m + 1) := ⟨f - j - 1, by omega⟩
    have e : K + c * 3 ^ (j + (m + 1)) = K + 3 ^ j * (c * 3 ^ m * 3) := by
      rw [Nat.pow_add, Nat.pow_succ]
      congr 1
      simp only [Nat.mul_comm, Nat.mul_left_comm, Nat.mul_assoc]
    rw [e, Nat.add_mul_div_left _ _ (Nat.pow_pos (by decide)), Nat.add_mul_mod_self_right]
  · subst h
    rw [if_pos rfl, Nat.add_mul_div_right _ _ (Nat.pow_pos (by decide))]
    omega
  · rw [if_neg (by omega)]
    obtain ⟨m, rfl⟩ : ∃ m, j = f + 1 + m := ⟨j - f - 1, by omega⟩
    rw [Nat.pow_add, Nat.pow_succ, ← Nat.div_div_eq_div_mul, ← Nat.div_div_eq_div_mul, ← Nat.div_div_eq_div_mul, ← Nat.div_div_eq_div_mul, Nat.add_mul_div_right _ _ (Nat.pow_pos (by decide))]
    rw [show (K / 3 ^ f + c) / 3 = K / 3 ^ f / 3 by omega]
theorem mDg_lt {K f n c : Nat} (h0 : mDg K f = 0) (hc : c < 3) (hf : f < n) (hK : K < 3 ^ n) : K + c * 3 ^ f < 3 ^ n := by
  unfold mDg at h0
  obtain ⟨m, rfl⟩ : ∃ m, n = f + 1 + m := ⟨n - f - 1, by omega⟩
  have hp : 0 < 3 ^ f := Nat.pow_pos (by decide)
  have e : 3 ^ (f + 1 + m) = 3 ^ f * (3 * 3 ^ m) := by rw [Nat.pow_add, Nat.pow_succ, Nat.mul_assoc]
  rw [e] at hK ⊢
  have h1 : K / 3 ^ f < 3 * 3 ^ m := Nat.div_lt_of_lt_mul hK
  have h2 := Nat.div_add_mod K (3 ^ f)
  have h3 := Nat.mod_lt K hp
  have h4 : K / 3 ^ f + c + 1 ≤ 3 * 3 ^ m := by omega
  have h5 : 3 ^ f * (K / 3 ^ f + c + 1) ≤ 3 ^ f * (3 * 3 ^ m) := Nat.mul_le_mul_left _ h4
  have h6 : 3 ^ f * (K / 3 ^ f + c + 1) = 3 ^ f * (K / 3 ^ f) + c * 3 ^ f + 3 ^ f := by
    rw [Nat.mul_add, Nat.mul_add, Nat.mul_one, Nat.mul_comm (3 ^ f) c]
  omega
/-- the set of those whose digit is v, below n -/
def mSetN (K v : Nat) : Nat → Nat
  | 0 => 0
  | f + 1 => mSetN K v f ||| (if mDg K f = v then 2 ^ f else 0)
theorem mSetN_bit (K v : Nat) : ∀ n j : Nat, (mSetN K v n).testBit j = decide (j < n ∧ mDg K j = v) := by
  intro n
  induction n with
  | zero => intro j; simp [mSetN]
  | succ n ih =>
    intro j
    rw [mSetN, Nat.testBit_or, ih]
    by_cases e : mDg K n = v
    · rw [if_pos e, Nat.testBit_two_pow]
      by_cases q : n = j
      · subst q
        simp [e]
      · simp only [q, decide_false, Bool.or_false]
        congr 1
        apply propext
        constructor
        · intro h; exact ⟨by omega, h.2⟩
        · intro h; exact ⟨by omega, h.2⟩
    · rw [if_neg e, Nat.zero_testBit, Bool.or_false]
      congr 1
      apply propext
      constructor
      · intro h; exact ⟨by omega, h.2⟩
      · intro h
        refine ⟨?_, h.2⟩
        rcases Nat.lt_or_ge j n with q | q
        · exact q
        · exfalso
          have : j = n := by omega
          subst this
          exact e h.2
theorem mSetN_lt (K v : Nat) : ∀ n, mSetN K v n < 2 ^ n := by
  intro n
  induction n with
  | zero => simp [mSetN]
  | succ n ih =>
    rw [mSetN]
    refine Nat.or_lt_two_pow (Nat.lt_trans ih (Nat.pow_lt_pow_right (by decide) (by omega))) ?_
    split
    · exact Nat.pow_lt_pow_right (by decide) (by omega)
    · exact Nat.two_pow_pos _
def mMvN (K : Nat) : Nat → Nat
  | 0 => 0
  | f + 1 => mMvN K f + (if mDg K f = 0 then 0 else 1)
theorem mMvN_add {K f c : Nat} (h0 : mDg K f = 0) (hc : c < 3) (hc0 : c ≠ 0) : ∀ n, mMvN (K + c * 3 ^ f) n = mMvN K n + (if f < n then 1 else 0) := by
  intro n
  induction n with
  | zero => simp [mMvN]
  | succ n ih =>
    rw [mMvN, mMvN, ih, mDg_add h0 hc]
    by_cases e : n = f
    · subst e
      rw [if_pos rfl, if_neg hc0, if_neg (by omega), if_pos h0, if_pos (by omega)]
    · rw [if_neg e]
      (repeat' split) <;> omega
def mWnN (K : Nat) : Nat := mSetN K 1 8
def mBrN (K : Nat) : Nat := mSetN K 2 8
def mMv (K : Nat) : Nat := mMvN K 8
abbrev mWn (K : Nat) : Int := (mWnN K : Int)
abbrev mBr (K : Nat) : Int := (mBrN K : Int)
theorem mWnN_lt (K : Nat) : mWnN K < 256 := mSetN_lt K 1 8
theorem mBrN_lt (K : Nat) : mBrN K < 256 := mSetN_lt K 2 8
theorem mSetN_add {K f c v : Nat} (h0 : mDg K f = 0) (hc : c < 3) (hf : f < 8) (hv : v ≠ 0) : mSetN (K + c * 3 ^ f) v 8 = if c = v then mSetN K v 8 ||| 2 ^ f else mSetN K v 8 := by
  apply Nat.eq_of_testBit_eq
  intro j
  rw [mSetN_bit, mDg_add h0 hc]
  by_cases e : c = v
  · subst e
    rw [if_pos rfl, Nat.testBit_or, mSetN_bit, Nat.testBit_two_pow]
    by_cases q : j = f
    · subst q
      simp [hf]
    · rw [if_neg q]
      simp [Ne.symm q]
  · rw [if_neg e, mSetN_bit]
    by_cases q : j = f
    · subst q
      simp [e, h0, Ne.symm hv]
    · rw [if_neg q]
theorem mWn_add1 {K f : Nat} (h0 : mDg K f = 0) (hf : f < 8) : fwOr (mWn K) (fwShl 1 (f : Int)) = mWn (K + 1 * 3 ^ f) ∧ mBr K = mBr (K + 1 * 3 ^ f) ∧ mMv K + 1 = mMv (K + 1 * 3 ^ f) := by
  refine ⟨?_, ?_, ?_⟩
  · rw [fwShl1_nat (by omega), fwOr_nat (Nat.lt_trans (mWnN_lt K) (by decide)) (Nat.pow_lt_pow_right (by decide) (by omega))]
    unfold mWn mWnN
    rw [mSetN_add h0 (by decide) hf (by decide), if_pos rfl]
  · unfold mBr mBrN
    rw [mSetN_add h0 (by decide) hf (by decide), if_neg (by decide)]
  · unfold mMv
    rw [mMvN_add h0 (by decide) (by decide), if_pos hf]
theorem mWn_add2 {K f : Nat} (h0 : mDg K f = 0) (hf : f < 8) : mWn K = mWn (K + 2 * 3 ^ f) ∧ fwOr (mBr K) (fwShl 1 (f : Int)) = mBr (K + 2 * 3 ^ f) ∧ mMv K + 1 = mMv (K + 2 * 3 ^ f) := by
  refine ⟨?_, ?_, ?_⟩
  · unfold mWn mWnN
    rw [mSetN_add h0 (by decide) hf (by decide), if_neg (by decide)]
  · rw [fwShl1_nat (by omega), fwOr_nat (Nat.lt_trans (mBrN_lt K) (by decide)) (Nat.pow_lt_pow_right (by decide) (by omega))]
    unfold mBr mBrN
    rw [mSetN_add h0 (by decide) hf (by decide), if_pos rfl]
  · unfold mMv
    rw [mMvN_add h0 (by decide) (by decide), if_pos hf]
theorem mDg_3 (K f : Nat) : mDg K f = 0 ∨ mDg K f = 1 ∨ mDg K f = 2 := by unfold mDg; omega
theorem mWB_lt (K : Nat) : mWnN K ||| mBrN K < 2 ^ 31 := Nat.lt_trans (Nat.or_lt_two_pow (mWnN_lt K) (mBrN_lt K) : _ < 2 ^ 8) (by decide)
theorem mWB_bit (K j : Nat) : (mWnN K ||| mBrN K).testBit j = decide (j < 8 ∧ mDg K j ≠ 0) := by
  unfold mWnN mBrN
  rw [Nat.testBit_or, mSetN_bit, mSetN_bit]
  rcases mDg_3 K j with e | e | e <;> simp [e]
theorem mFree {K f : Nat} (hf : f < 8) : fwAnd (fwShr (fwOr (mWn K) (mBr K)) (f : Int)) 1 = 0 ↔ mDg K f = 0 := by
  rw [fwOr_nat (Nat.lt_trans (mWnN_lt K) (by decide)) (Nat.lt_trans (mBrN_lt K) (by decide)), fwBit_nat (mWB_lt K) f (by omega), mWB_bit]
  by_cases e : mDg K f = 0 <;> simp [e, hf]
def mFull (nf K : Nat) : Bool := mAll (fun f => decide (mDg K f ≠ 0)) nf
theorem mDg_ge {K n j : Nat} (hK : K < 3 ^ n) (hj : n ≤ j) : mDg K j = 0 := by
  unfold mDg
  rw [Nat.div_eq_of_lt (Nat.lt_of_lt_of_le hK (Nat.pow_le_pow_right (by decide) hj))]
theorem mFull_iff {K n : Nat} (hn : n ≤ 8) (hK : K < 3 ^ n) : fwOr (mWn K) (mBr K) = fwShl 1 (n : Int) - 1 ↔ mFull n K = true := by
  rw [fwOr_nat (Nat.lt_trans (mWnN_lt K) (by decide)) (Nat.lt_trans (mBrN_lt K) (by decide)), fwShl1_nat (by omega)]
  have e : (((mWnN K ||| mBrN K : Nat) : Int) = ((2 ^ n : Nat) : Int) - 1) ↔ mWnN K ||| mBrN K = 2 ^ n - 1 := by
    have := Nat.two_pow_pos n
    omega
  rw [e]
  unfold mFull
  rw [mAll_iff]
  constructor
  · intro h j hj
    have h2 : (mWnN K ||| mBrN K).testBit j = (2 ^ n - 1).testBit j := by rw [h]
    rw [mWB_bit, Nat.testBit_two_pow_sub_one] at h2
    simp only [hj, decide_true] at h2
    exact decide_eq_true (of_decide_eq_true h2).2
  · intro h
    apply Nat.eq_of_testBit_eq
    intro j
    rw [mWB_bit, Nat.testBit_two_pow_sub_one]
    by_cases q : j < n
    · have := of_decide_eq_true (h j q)
      simp only [q, decide_true]
      exact decide_eq_true ⟨by omega, this⟩
    · have h9 := mDg_ge hK (show n ≤ j by omega)
      simp [q, h9]
end
section
/-! the play: a state of it is one number, of base 3 -/
def mTn (st : Int) (m : Nat) : Bool := decide (fwAnd ((m : Int) + st) 1 = 0)
def mChild (w : Bool) (K f : Nat) : Nat := if w = true then K + 1 * 3 ^ f else K + 2 * 3 ^ f
def mPlB (E : Nat → Bool) (V : Nat → Bool) (w : Bool) (K f : Nat) : Bool := decide (¬ (mDg K f = 0 ∧ V (mChild w K f) = w))
/-- how a play comes out, with g turns left -/
def mPl (E : Nat → Bool) (nf : Nat) (st : Int) : Nat → Nat → Bool
  | 0, K => E K
  | g + 1, K => if mFull nf K = true then E K else ((!mAll (mPlB E (mPl E nf st g) (mTn st (mMv K)) K) nf) == mTn st (mMv K))
def mE (h : fwH) (K : Nat) : Bool := decide (mEno (h 18 0) (h 5 0 3).toNat (h 3 0 4) (fwOr (h 6 0 2) (mWn K)) (mBr K))
abbrev mPlH (h : fwH) (g K : Nat) : Bool := mPl (mE h) (h 5 0 3).toNat (h 6 0 4) g K
def plH (h : fwH) : Prop := pOk h 0 ∧ (0 ≤ h 3 0 4 ∧ h 3 0 4 ≤ 999) ∧ (0 ≤ h 6 0 3 ∧ h 6 0 3 ≤ 8) ∧ (h 6 0 4 = 0 ∨ h 6 0 4 = 1)
def memo (h : fwH) (O : Nat → Int) : Prop := ∀ K, K < 6561 → O K = 0 ∨ O K = if mPlH h ((h 6 0 3).toNat - mMv K) K = true then 1 else 2
theorem memo_up {h : fwH} {O : Nat → Int} (hO : memo h O) {K : Nat} {v : Int} (hv : v = if mPlH h ((h 6 0 3).toNat - mMv K) K = true then 1 else 2) : memo h (fwFu O K v) := by
  intro J hJ
  unfold fwFu
  split
  · rename_i e
    subst e
    exact Or.inr hv
  · exact hO J hJ
theorem pl3 {n K : Nat} (hn : n ≤ 8) (hK : K < 3 ^ n) : K < 6561 := Nat.lt_of_lt_of_le hK (Nat.le_trans (Nat.pow_le_pow_right (by decide) hn) (by decide))
theorem mSetN_rng (K : Nat) : (0 ≤ mWn K ∧ mWn K < 256) ∧ 0 ≤ mBr K ∧ mBr K < 256 := by
  have h1 := mWnN_lt K
  have h2 := mBrN_lt K
  unfold mWn mBr
  omega
theorem mMv_le (K : Nat) : mMv K ≤ 8 := by
  have key : ∀ n, mMvN K n ≤ n := by
    intro n
    induction n with
    | zero => exact Nat.le_refl _
    | succ n ih => rw [mMvN]; split <;> omega
  exact key 8
/-- what comesOut does with g turns left -/
def plI (d g : Nat) : Prop := ∀ (h : fwH) (Q : Option fwV → fwH → Prop) (K : Nat) (a b c e : Int), a = mWn K → b = mBr K → c = (mMv K : Int) → e = (K : Int) → plH h → (h 6 0 3).toNat = g + mMv K → K < 3 ^ (h 5 0 3).toNat → memo h (h 24 0) → (∀ O, memo h O → Q (some (aI (fwB (mPlH h g K = true)))) (fwUc h 24 0 O)) → fwCt mX4_comesOut d [aR 6 0, aI a, aI b, aI c, aI e] h Q
set_option maxRecDepth 100000 in
set_option maxHeartbeats 4000000 in
theorem c_X4_begin {d : Nat} {h : fwH} {Q : Option fwV → fwH → Prop} (x y : Int) (hP : pOk h 0) (hG : gOk h 0) (hn : 1 ≤ h 4 0 1) (hM : ∀ c : Nat, c < 10 → h 17 0 c ≤ 999) (k : ∀ A B, Q none (fwUc (fwUc (fwUc (fwUc h 6 0 (fwFu (fwFu (fwFu (h 6 0) 2 (mWil h 0)) 3 (2 * x)) 4 y)) 19 0 A) 20 0 B) 24 0 (fun _ => 0))) : fwCt mX4_begin (d + 4) [aR 6 0, aI x, aI y] h Q := by
  refine fwCt_of [some (aR 6 0), some (aI x), some (aI y), none] rfl rfl rfl ?_
  refine w_aload_n dX4_begin_0 rfl ?_
  refine w_aload_n dX4_begin_1 rfl ?_
  refine w_getr 3 0 dX4_begin_2 fl_X4_15 rfl (by decide) ?_
  refine w_getr 5 0 dX4_begin_5 fl_X4_19 rfl (by decide) ?_
  refine w_aload_n dX4_begin_8 rfl ?_
  refine w_getr 3 0 dX4_begin_9 fl_X4_15 rfl (by decide) ?_
  refine w_getr 4 0 dX4_begin_12 fl_X4_25 rfl (by decide) ?_
  refine w_iconst dX4_begin_15 ?_
  refine w_callV (d := d + 3) (S := [aR 6 0]) [aR 4 0, aI (-1)] dX4_begin_16 ml_X4_29 ok_X3_gainersBy vi_X3_gainersBy rfl rfl (by decide) rfl (Nat.le_of_ble_eq_true rfl) ?_
  refine c_willing0 (d := d) (by first | assumption | omega | decide) (by first | assumption | omega | decide) (show 1 ≤ (h 4 0 1) by first | assumption | omega | decide) (by first | assumption | omega | decide) ?_
  intro A1 B2
  show fwWP mX4_begin (d + 4) 19 [some (aR 6 0), some (aI x), some (aI y), none] [aI (mWil h 0), aR 6 0] (fwUc (fwUc h 19 0 A1) 20 0 B2) Q
  refine w_puti dX4_begin_19 fl_X4_68 fp_6_2 rfl (by decide) ?_
  rw [show (fwUp (fwUc (fwUc h 19 0 A1) 20 0 B2) 6 0 2 (mWil h 0)) = (fwUc (fwUc (fwUc h 19 0 A1) 20 0 B2) 6 0 (fwFu (h 6 0) 2 (mWil h 0))) from fwUp_fu _ _ _ _ _]
  rw [show (fwUc (fwUc (fwUc h 19 0 A1) 20 0 B2) 6 0 (fwFu (h 6 0) 2 (mWil h 0))) = (fwUc (fwUc (fwUc h 6 0 (fwFu (h 6 0) 2 (mWil h 0))) 19 0 A1) 20 0 B2) from by funext a b; simp only [fwUc]; (repeat' split); all_goals first | rfl | (exfalso; omega)]
  refine w_aload_n dX4_begin_22 rfl ?_
  refine w_iconst dX4_begin_23 ?_
  refine w_iload_n dX4_begin_24 rfl ?_
  refine w_imul dX4_begin_25 ?_
  refine w_puti dX4_begin_26 fl_X4_71 fp_6_3 rfl (by decide) ?_
  rw [show (fwUp (fwUc (fwUc (fwUc h 6 0 (fwFu (h 6 0) 2 (mWil h 0))) 19 0 A1) 20 0 B2) 6 0 3 (2 * x)) = (fwUc (fwUc (fwUc (fwUc h 6 0 (fwFu (h 6 0) 2 (mWil h 0))) 19 0 A1) 20 0 B2) 6 0 (fwFu ((fwFu (h 6 0) 2 (mWil h 0))) 3 (2 * x))) from fwUp_fu _ _ _ _ _]
  rw [show (fwUc (fwUc (fwUc (fwUc h 6 0 (fwFu (h 6 0) 2 (mWil h 0))) 19 0 A1) 20 0 B2) 6 0 (fwFu ((fwFu (h 6 0) 2 (mWil h 0))) 3 (2 * x))) = (fwUc (fwUc (fwUc h 6 0 (fwFu ((fwFu (h 6 0) 2 (mWil h 0))) 3 (2 * x))) 19 0 A1) 20 0 B2) from by funext a b; simp only [fwUc]; (repeat' split); all_goals first | rfl | (exfalso; omega)]
  refine w_aload_n dX4_begin_29 rfl ?_
  refine w_iload_n dX4_begin_30 rfl ?_
  refine w_puti dX4_begin_31 fl_X4_74 fp_6_4 rfl (by decide) ?_
  rw [show (fwUp (fwUc (fwUc (fwUc h 6 0 (fwFu ((fwFu (h 6 0) 2 (mWil h 0))) 3 (2 * x))) 19 0 A1) 20 0 B2) 6 0 4 y) = (fwUc (fwUc (fwUc (fwUc h 6 0 (fwFu ((fwFu (h 6 0) 2 (mWil h 0))) 3 (2 * x))) 19 0 A1) 20 0 B2) 6 0 (fwFu ((fwFu ((fwFu (h 6 0) 2 (mWil h 0))) 3 (2 * x))) 4 y)) from fwUp_fu _ _ _ _ _]
  rw [show (fwUc (fwUc (fwUc (fwUc h 6 0 (fwFu ((fwFu (h 6 0) 2 (mWil h 0))) 3 (2 * x))) 19 0 A1) 20 0 B2) 6 0 (fwFu ((fwFu ((fwFu (h 6 0) 2 (mWil h 0))) 3 (2 * x))) 4 y)) = (fwUc (fwUc (fwUc h 6 0 (fwFu ((fwFu ((fwFu (h 6 0) 2 (mWil h 0))) 3 (2 * x))) 4 y)) 19 0 A1) 20 0 B2) from by funext a b; simp only [fwUc]; (repeat' split); all_goals first | rfl | (exfalso; omega)]
  refine w_iconst dX4_begin_34 ?_
  refine w_istore_n [some (aR 6 0), some (aI x), some (aI y), some (aI 0)] dX4_begin_35 rfl (by decide) ?_
  have lp36 : ∀ c : Nat, c ≤ 6561 → ∀ (y36  : Int) (hh36 : fwH), y36 = (c : Int) → hh36 = (fwUc (fwUc (fwUc (fwUc h 6 0 (fwFu (fwFu (fwFu (h 6 0) 2 (mWil h 0)) 3 (2 * x)) 4 y)) 19 0 A1) 20 0 B2) 24 0 (fwFl (fun _ => 0) (h 24 0) c)) → fwWP mX4_begin (d + 4) 36 [some (aR 6 0), some (aI x), some (aI y), some (aI y36)] [] hh36 Q := by
    refine fw_up (fun c hc36 ih36 => ?_)
    intro y36  hh36 ey36 eh36
    subst ey36
    subst eh36
    show fwWP mX4_begin (d + 4) 36 [some (aR 6 0), some (aI x), some (aI y), some (aI (c : Int))] [] (fwUc (fwUc (fwUc (fwUc h 6 0 (fwFu (fwFu (fwFu (h 6 0) 2 (mWil h 0)) 3 (2 * x)) 4 y)) 19 0 A1) 20 0 B2) 24 0 (fwFl (fun _ => 0) (h 24 0) c)) Q
    refine w_iload_n dX4_begin_36 rfl ?_
    refine w_aload_n dX4_begin_37 rfl ?_
    refine w_getr 24 0 dX4_begin_38 fl_X4_9 rfl (by decide) ?_
    refine w_alen dX4_begin_41 rfl (by decide) (by decide) ?_
    refine w_icmp_ge 58 dX4_begin_42 (by decide) (by omega) (by omega) (fun c42 => ?_) (fun c42 => ?_)
    · have ec36 : 6561 = c := by omega
      subst ec36
      refine w_heq _ (fwFl_all (by decide)) ?_
      exact w_vret dX4_begin_58 rfl (k _ _)
    · refine w_aload_n dX4_begin_45 rfl ?_
      refine w_getr 24 0 dX4_begin_46 fl_X4_9 rfl (by decide) ?_
      refine w_iload_n dX4_begin_49 rfl ?_
      refine w_iconst dX4_begin_50 ?_
      refine w_bast dX4_begin_51 rfl (by decide) (by omega) (by omega) (by first | omega | exact fwB_01 _) ?_
      refine w_iinc [some (aR 6 0), some (aI x), some (aI y), some (aI ((c : Int) + 1))] dX4_begin_52 rfl rfl (by decide) ?_
      refine w_goto 36 dX4_begin_55 (by decide) ?_
      refine ih36 (by omega) _ _ ?_ ?_
      · exact (by omega)
      · exact (by rw [fwUp_uc, Int.toNat_natCast]; exact congrArg _ (fwFl_succ (fun _ => 0) (h 24 0) c))
  refine lp36 0 (Nat.zero_le _) _ _ ?_ ?_
  · exact (by omega)
  · exact (by rw [fwFl_0]; exact (fwUc_self (fwUc (fwUc (fwUc h 6 0 (fwFu (fwFu (fwFu (h 6 0) 2 (mWil h 0)) 3 (2 * x)) 4 y)) 19 0 A1) 20 0 B2) 24 0).symm)
set_option maxRecDepth 100000 in
set_option maxHeartbeats 4000000 in
theorem c_X4_winsNow {d : Nat} {h : fwH} {Q : Option fwV → fwH → Prop} (m : Nat)  (k : Q (some (aI (fwB (mTn (h 6 0 4) m = true)))) h) : fwCt mX4_winsNow (d + 0) [aR 6 0, aI (m : Int)] h Q := by
  refine fwCt_of [some (aR 6 0), some (aI (m : Int))] rfl rfl rfl ?_
  refine w_iload_n dX4_winsNow_0 rfl ?_
  refine w_aload_n dX4_winsNow_1 rfl ?_
  refine w_geti dX4_winsNow_2 fl_X4_74 rfl (by decide) ?_
  refine w_iadd dX4_winsNow_5 ?_
  refine w_iconst dX4_winsNow_6 ?_
  refine w_iand dX4_winsNow_7 ?_
  have hb := fwAnd_rng1 ((m : Int) + h 6 0 4)
  refine w_if_ne 15 dX4_winsNow_8 (by decide) (by omega) (fun c8 => ?_) (fun c8 => ?_)
  · refine w_iconst dX4_winsNow_15 ?_
    exact w_zretE (P := mTn (h 6 0 4) m = true) dX4_winsNow_16 rfl (by unfold mTn; first | (rw [fwB_t (by simp only [decide_eq_true_eq]; omega)]) | (rw [fwB_f (by simp only [decide_eq_true_eq]; omega)])) k
  · refine w_iconst dX4_winsNow_11 ?_
    refine w_goto 16 dX4_winsNow_12 (by decide) ?_
    exact w_zretE (P := mTn (h 6 0 4) m = true) dX4_winsNow_16 rfl (by unfold mTn; first | (rw [fwB_t (by simp only [decide_eq_true_eq]; omega)]) | (rw [fwB_f (by simp only [decide_eq_true_eq]; omega)])) k
theorem fwTh3 : ∀ f : Nat, f < 8 → fwTh.getD f 0 = ((3 ^ f : Nat) : Int) := by decide
set_option maxRecDepth 100000 in
set_option maxHeartbeats 4000000 in
theorem c_X4_comesOutBy {d : Nat} {h : fwH} {Q : Option fwV → fwH → Prop} (g K f : Nat) (ih : plI (d + 4) g) (hL : plH h) (hg : (h 6 0 3).toNat = g + 1 + mMv K) (hK : K < 3 ^ (h 5 0 3).toNat) (hO : memo h (h 24 0)) (hf : (f : Int) < h 5 0 3) (h0 : mDg K f = 0) (k : ∀ O, memo h O → Q (some (aI (fwB (mPlH h g (mChild (mTn (h 6 0 4) (mMv K)) K f) = true)))) (fwUc h 24 0 O)) : fwCt mX4_comesOutBy (d + 5) [aR 6 0, aI (f : Int), aI (mWn K), aI (mBr K), aI (mMv K : Int), aI (K : Int)] h Q := by
  refine fwCt_of [some (aR 6 0), some (aI (f : Int)), some (aI (mWn K)), some (aI (mBr K)), some (aI (mMv K : Int)), some (aI (K : Int)), none] rfl rfl rfl ?_
  have hp1 := hL.1.1
  have hf8 : f < 8 := by omega
  refine w_iload_n dX4_comesOutBy_0 rfl ?_
  refine w_if_lt 20 dX4_comesOutBy_1 (by decide) (by omega) (fun c1 => ?_) (fun c1 => ?_)
  · (exfalso; omega)
  · refine w_iload_n dX4_comesOutBy_4 rfl ?_
    refine w_threes dX4_comesOutBy_5 fj_X4_85 ?_
    refine w_thrLen dX4_comesOutBy_8 ?_
    refine w_icmp_ge 20 dX4_comesOutBy_9 (by decide) (by omega) (by omega) (fun c9 => ?_) (fun c9 => ?_)
    · (exfalso; omega)
    · refine w_threes dX4_comesOutBy_12 fj_X4_85 ?_
      refine w_iload_n dX4_comesOutBy_15 rfl ?_
      refine w_thrAt dX4_comesOutBy_16 (by omega) (by omega) ?_
      refine w_goto 21 dX4_comesOutBy_17 (by decide) ?_
      refine w_istore [some (aR 6 0), some (aI (f : Int)), some (aI (mWn K)), some (aI (mBr K)), some (aI (mMv K : Int)), some (aI (K : Int)), some (aI (fwTh.getD ((f : Int)).toNat 0))] dX4_comesOutBy_21 rfl (by decide) ?_
      refine w_aload_n dX4_comesOutBy_23 rfl ?_
      refine w_iload dX4_comesOutBy_24 rfl ?_
      refine w_callV (d := d + 4) (S := []) [aI (mMv K : Int)] dX4_comesOutBy_26 ml_X4_77 ok_X4_winsNow vi_X4_winsNow rfl rfl (by decide) rfl (Nat.le_of_ble_eq_true rfl) ?_
      refine c_X4_winsNow (d := (d + 4)) (mMv K) ?_
      show fwWP mX4_comesOutBy (d + 5) 29 [some (aR 6 0), some (aI (f : Int)), some (aI (mWn K)), some (aI (mBr K)), some (aI (mMv K : Int)), some (aI (K : Int)), some (aI (fwTh.getD ((f : Int)).toNat 0))] [aI (fwB (mTn (h 6 0 4) (mMv K) = true))] h Q
      refine w_ifB_eq 52 dX4_comesOutBy_29 (by decide) (fun cw => ?_) (fun cw => ?_)
      · refine w_aload_n dX4_comesOutBy_52 rfl ?_
        refine w_iload_n dX4_comesOutBy_53 rfl ?_
        refine w_iload_n dX4_comesOutBy_54 rfl ?_
        refine w_iconst dX4_comesOutBy_55 ?_
        refine w_iload_n dX4_comesOutBy_56 rfl ?_
        refine w_ishl dX4_comesOutBy_57 ?_
        refine w_ior dX4_comesOutBy_58 ?_
        refine w_iload dX4_comesOutBy_59 rfl ?_
        refine w_iconst dX4_comesOutBy_61 ?_
        refine w_iadd dX4_comesOutBy_62 ?_
        refine w_iload dX4_comesOutBy_63 rfl ?_
        refine w_iconst dX4_comesOutBy_65 ?_
        refine w_iload dX4_comesOutBy_66 rfl ?_
        refine w_imul dX4_comesOutBy_68 ?_
        refine w_iadd dX4_comesOutBy_69 ?_
        refine w_callV (d := d + 4) (S := []) [aI (mWn K), aI (fwOr (mBr K) (fwShl 1 (f : Int))), aI ((mMv K : Int) + 1), aI ((K : Int) + (2 * (fwTh.getD ((f : Int)).toNat 0)))] dX4_comesOutBy_70 ml_X4_60 ok_X4_comesOut vi_X4_comesOut rfl rfl (by decide) rfl (Nat.le_of_ble_eq_true rfl) ?_
        refine ih h _ (K + 2 * 3 ^ f) (mWn K) (fwOr (mBr K) (fwShl 1 (f : Int))) ((mMv K : Int) + 1) ((K : Int) + (2 * (fwTh.getD ((f : Int)).toNat 0))) (by have := (mWn_add2 h0 hf8).1; omega) (by have := (mWn_add2 h0 hf8).2.1; omega) (by have := (mWn_add2 h0 hf8).2.2; omega) (by rw [Int.toNat_natCast, fwTh3 f hf8]; simp only [Int.natCast_add, Int.natCast_mul, Int.natCast_pow]; omega) hL (by have := (mWn_add2 h0 hf8).2.2; omega) (mDg_lt h0 (by decide) (by omega) hK) hO ?_
        intro O1 hO1
        show fwWP mX4_comesOutBy (d + 5) 73 [some (aR 6 0), some (aI (f : Int)), some (aI (mWn K)), some (aI (mBr K)), some (aI (mMv K : Int)), some (aI (K : Int)), some (aI (fwTh.getD ((f : Int)).toNat 0))] [aI (fwB (mPlH h g (K + 2 * 3 ^ f) = true))] (fwUc h 24 0 O1) Q
        exact w_zretE (P := mPlH h g (mChild (mTn (h 6 0 4) (mMv K)) K f) = true) dX4_comesOutBy_73 rfl (by unfold mChild; rw [if_neg cw]) (k _ hO1)
      · refine w_aload_n dX4_comesOutBy_32 rfl ?_
        refine w_iload_n dX4_comesOutBy_33 rfl ?_
        refine w_iconst dX4_comesOutBy_34 ?_
        refine w_iload_n dX4_comesOutBy_35 rfl ?_
        refine w_ishl dX4_comesOutBy_36 ?_
        refine w_ior dX4_comesOutBy_37 ?_
        refine w_iload_n dX4_comesOutBy_38 rfl ?_
        refine w_iload dX4_comesOutBy_39 rfl ?_
        refine w_iconst dX4_comesOutBy_41 ?_
        refine w_iadd dX4_comesOutBy_42 ?_
        refine w_iload dX4_comesOutBy_43 rfl ?_
        refine w_iload dX4_comesOutBy_45 rfl ?_
        refine w_iadd dX4_comesOutBy_47 ?_
        refine w_callV (d := d + 4) (S := []) [aI (fwOr (mWn K) (fwShl 1 (f : Int))), aI (mBr K), aI ((mMv K : Int) + 1), aI ((K : Int) + (fwTh.getD ((f : Int)).toNat 0))] dX4_comesOutBy_48 ml_X4_60 ok_X4_comesOut vi_X4_comesOut rfl rfl (by decide) rfl (Nat.le_of_ble_eq_true rfl) ?_
        refine ih h _ (K + 1 * 3 ^ f) (fwOr (mWn K) (fwShl 1 (f : Int))) (mBr K) ((mMv K : Int) + 1) ((K : Int) + (fwTh.getD ((f : Int)).toNat 0)) (by have := (mWn_add1 h0 hf8).1; omega) (by have := (mWn_add1 h0 hf8).2.1; omega) (by have := (mWn_add1 h0 hf8).2.2; omega) (by rw [Int.toNat_natCast, fwTh3 f hf8]; simp only [Int.natCast_add, Int.natCast_mul, Int.natCast_pow]; omega) hL (by have := (mWn_add1 h0 hf8).2.2; omega) (mDg_lt h0 (by decide) (by omega) hK) hO ?_
        intro O1 hO1
        show fwWP mX4_comesOutBy (d + 5) 51 [some (aR 6 0), some (aI (f : Int)), some (aI (mWn K)), some (aI (mBr K)), some (aI (mMv K : Int)), some (aI (K : Int)), some (aI (fwTh.getD ((f : Int)).toNat 0))] [aI (fwB (mPlH h g (K + 1 * 3 ^ f) = true))] (fwUc h 24 0 O1) Q
        exact w_zretE (P := mPlH h g (mChild (mTn (h 6 0 4) (mMv K)) K f) = true) dX4_comesOutBy_51 rfl (by unfold mChild; rw [if_pos cw]) (k _ hO1)
set_option maxRecDepth 100000 in
set_option maxHeartbeats 4000000 in
theorem c_X4_canReach {d : Nat} {h : fwH} {Q : Option fwV → fwH → Prop} (g K : Nat) (ih : plI (d + 4) g) (hL : plH h) (hg : (h 6 0 3).toNat = g + 1 + mMv K) (hK : K < 3 ^ (h 5 0 3).toNat) (hO : memo h (h 24 0)) (k : ∀ O, memo h O → Q (some (aI (fwB ((!mAll (mPlB (mE h) (mPlH h g) (mTn (h 6 0 4) (mMv K)) K) (h 5 0 3).toNat) = true)))) (fwUc h 24 0 O)) : fwCt mX4_canReach (d + 6) [aR 6 0, aI (fwB (mTn (h 6 0 4) (mMv K) = true)), aI (mWn K), aI (mBr K), aI (mMv K : Int), aI (K : Int)] h Q := by
  refine fwCt_of [some (aR 6 0), some (aI (fwB (mTn (h 6 0 4) (mMv K) = true))), some (aI (mWn K)), some (aI (mBr K)), some (aI (mMv K : Int)), some (aI (K : Int)), none] rfl rfl rfl ?_
  have hp1 := hL.1.1
  refine w_iconst dX4_canReach_0 ?_
  refine w_istore [some (aR 6 0), some (aI (fwB (mTn (h 6 0 4) (mMv K) = true))), some (aI (mWn K)), some (aI (mBr K)), some (aI (mMv K : Int)), some (aI (K : Int)), some (aI 0)] dX4_canReach_1 rfl (by decide) ?_
  have lp3 : ∀ f : Nat, f ≤ (h 5 0 3).toNat → ∀ (y3  : Int) (hh3 : fwH), y3 = (f : Int) → (∃ O : Nat → Int, hh3 = (fwUc h 24 0 O) ∧ memo h O) → (mAll (mPlB (mE h) (mPlH h g) (mTn (h 6 0 4) (mMv K)) K) f = true) → fwWP mX4_canReach (d + 6) 3 [some (aR 6 0), some (aI (fwB (mTn (h 6 0 4) (mMv K) = true))), some (aI (mWn K)), some (aI (mBr K)), some (aI (mMv K : Int)), some (aI (K : Int)), some (aI y3)] [] hh3 Q := by
    refine fw_up (fun f hc3 ih3 => ?_)
    intro y3  hh3 ey3 eh3 iv3_0
    subst ey3
    obtain ⟨O_3, eh3, hp3⟩ := eh3
    subst eh3
    show fwWP mX4_canReach (d + 6) 3 [some (aR 6 0), some (aI (fwB (mTn (h 6 0 4) (mMv K) = true))), some (aI (mWn K)), some (aI (mBr K)), some (aI (mMv K : Int)), some (aI (K : Int)), some (aI (f : Int))] [] (fwUc h 24 0 O_3) Q
    refine w_iload dX4_canReach_3 rfl ?_
    refine w_aload_n dX4_canReach_5 rfl ?_
    refine w_getr 3 0 dX4_canReach_6 fl_X4_15 rfl (by decide) ?_
    refine w_getr 5 0 dX4_canReach_9 fl_X4_19 rfl (by decide) ?_
    refine w_getiE (v := h 5 0 3) dX4_canReach_12 fl_X4_39 rfl (by decide) (by first | rfl | simp [fwUp, fwUc]) ?_
    refine w_icmp_ge 53 dX4_canReach_15 (by decide) (by omega) (by omega) (fun c15 => ?_) (fun c15 => ?_)
    · have ec3 : (h 5 0 3).toNat = f := by omega
      subst ec3
      refine w_iconst dX4_canReach_53 ?_
      exact w_zretE (P := (!mAll (mPlB (mE h) (mPlH h g) (mTn (h 6 0 4) (mMv K)) K) (h 5 0 3).toNat) = true) dX4_canReach_54 rfl (by rw [fwB_f (by rw [iv3_0]; decide)]) (k _ hp3)
    · refine w_iload_n dX4_canReach_18 rfl ?_
      refine w_iload_n dX4_canReach_19 rfl ?_
      refine w_ior dX4_canReach_20 ?_
      refine w_iload dX4_canReach_21 rfl ?_
      refine w_ishr dX4_canReach_23 ?_
      refine w_iconst dX4_canReach_24 ?_
      refine w_iand dX4_canReach_25 ?_
      have hb := fwAnd_rng1 (fwShr (fwOr (mWn K) (mBr K)) (f : Int))
      have hfr := mFree (K := K) (f := f) (by omega)
      refine w_if_ne 47 dX4_canReach_26 (by decide) (by omega) (fun c26 => ?_) (fun c26 => ?_)
      · refine w_iinc [some (aR 6 0), some (aI (fwB (mTn (h 6 0 4) (mMv K) = true))), some (aI (mWn K)), some (aI (mBr K)), some (aI (mMv K : Int)), some (aI (K : Int)), some (aI ((f : Int) + 1))] dX4_canReach_47 rfl rfl (by decide) ?_
        refine w_goto 3 dX4_canReach_50 (by decide) ?_
        refine ih3 (by omega) _ _ ?_ ?_ ?_
        · exact (by omega)
        · exact ⟨_, rfl, hp3⟩
        · exact (by rw [mAll, iv3_0, Bool.true_and]; exact decide_eq_true (fun q => c26 (hfr.mpr q.1)))
      · have h0 : mDg K f = 0 := hfr.mp c26
        refine w_aload_n dX4_canReach_29 rfl ?_
        refine w_iload dX4_canReach_30 rfl ?_
        refine w_iload_n dX4_canReach_32 rfl ?_
        refine w_iload_n dX4_canReach_33 rfl ?_
        refine w_iload dX4_canReach_34 rfl ?_
        refine w_iload dX4_canReach_36 rfl ?_
        refine w_callV (d := d + 5) (S := []) [aI (f : Int), aI (mWn K), aI (mBr K), aI (mMv K : Int), aI (K : Int)] dX4_canReach_38 ml_X4_64 ok_X4_comesOutBy vi_X4_comesOutBy rfl rfl (by decide) rfl (Nat.le_of_ble_eq_true rfl) ?_
        refine c_X4_comesOutBy (d := d) g K f ih hL hg hK hp3 (show (f : Int) < h 5 0 3 by omega) h0 ?_
        intro O2 hO2
        show fwWP mX4_canReach (d + 6) 41 [some (aR 6 0), some (aI (fwB (mTn (h 6 0 4) (mMv K) = true))), some (aI (mWn K)), some (aI (mBr K)), some (aI (mMv K : Int)), some (aI (K : Int)), some (aI (f : Int))] [aI (fwB (mPlH h g (mChild (mTn (h 6 0 4) (mMv K)) K f) = true))] (fwUc (fwUc h 24 0 O_3) 24 0 O2) Q
        rw [show fwUc (fwUc h 24 0 O_3) 24 0 O2 = (fwUc h 24 0 O2) from by funext a b; simp only [fwUc]; (repeat' split); all_goals first | rfl | (exfalso; omega)]
        have hf1 := fwB_rng (mPlH h g (mChild (mTn (h 6 0 4) (mMv K)) K f) = true)
        have hf2 := fwB_rng (mTn (h 6 0 4) (mMv K) = true)
        refine w_iload_n dX4_canReach_41 rfl ?_
        refine w_icmp_ne 47 dX4_canReach_42 (by decide) (by omega) (by omega) (fun c42 => ?_) (fun c42 => ?_)
        · refine w_iinc [some (aR 6 0), some (aI (fwB (mTn (h 6 0 4) (mMv K) = true))), some (aI (mWn K)), some (aI (mBr K)), some (aI (mMv K : Int)), some (aI (K : Int)), some (aI ((f : Int) + 1))] dX4_canReach_47 rfl rfl (by decide) ?_
          refine w_goto 3 dX4_canReach_50 (by decide) ?_
          refine ih3 (by omega) _ _ ?_ ?_ ?_
          · exact (by omega)
          · exact ⟨_, rfl, hO2⟩
          · exact (by rw [mAll, iv3_0, Bool.true_and]; exact decide_eq_true (fun q => c42 (fwB_iff.mpr (Bool.eq_iff_iff.mp q.2))))
        · refine w_iconst dX4_canReach_45 ?_
          exact w_zretE (P := (!mAll (mPlB (mE h) (mPlH h g) (mTn (h 6 0 4) (mMv K)) K) (h 5 0 3).toNat) = true) dX4_canReach_46 rfl (by rw [fwB_t (by cases q : mAll (mPlB (mE h) (mPlH h g) (mTn (h 6 0 4) (mMv K)) K) (h 5 0 3).toNat with | false => rfl | true => exact absurd ⟨h0, Bool.eq_iff_iff.mpr (fwB_iff.mp c42)⟩ (of_decide_eq_true ((mAll_iff _ _).mp q f (by omega))))]) (k _ hO2)
  refine lp3 0 (Nat.zero_le _) _ _ ?_ ?_ ?_
  · exact (by omega)
  · exact ⟨h 24 0, (fwUc_self h 24 0).symm, hO⟩
  · exact rfl
set_option maxRecDepth 100000 in
set_option maxHeartbeats 4000000 in
theorem c_comesOut0 {d : Nat} {h : fwH} {Q : Option fwV → fwH → Prop} (K : Nat) (hL : plH h) (hg : (h 6 0 3).toNat = 0 + mMv K) (hK : K < 3 ^ (h 5 0 3).toNat) (hO : memo h (h 24 0)) (k : ∀ O, memo h O → Q (some (aI (fwB (mPlH h 0 K = true)))) (fwUc h 24 0 O)) : fwCt mX4_comesOut (d + 4) [aR 6 0, aI (mWn K), aI (mBr K), aI (mMv K : Int), aI (K : Int)] h Q := by
  refine fwCt_of [some (aR 6 0), some (aI (mWn K)), some (aI (mBr K)), some (aI (mMv K : Int)), some (aI (K : Int)), none, none, none] rfl rfl rfl ?_
  have hp1 := hL.1.1
  have hlw := hL.2.1
  have htu := hL.2.2.1
  have hP := hL.1
  have hwr := mSetN_rng K
  have hmv := mMv_le K
  have hfu := mFull_iff (K := K) (n := (h 5 0 3).toNat) (by omega) hK
  rw [show (((h 5 0 3).toNat : Nat) : Int) = h 5 0 3 by omega] at hfu
  have hor := fwOr_rng (mWn K) (mBr K)
  have hsh := fwShl1_rng (x := h 5 0 3) (by omega)
  have hK9 := pl3 (n := (h 5 0 3).toNat) (by omega) hK
  have J25 : ∀ v : Int, v = fwB (mFull (h 5 0 3).toNat K = true) → fwWP mX4_comesOut (d + 4) 25 [some (aR 6 0), some (aI (mWn K)), some (aI (mBr K)), some (aI (mMv K : Int)), some (aI (K : Int)), none, none, none] [aI v] h Q := by
    intro v ev
    subst ev
    refine w_istore [some (aR 6 0), some (aI (mWn K)), some (aI (mBr K)), some (aI (mMv K : Int)), some (aI (K : Int)), some (aI (fwB (mFull (h 5 0 3).toNat K = true))), none, none] dX4_comesOut_25 rfl (by decide) ?_
    refine w_iload dX4_comesOut_27 rfl ?_
    refine w_ifB_ne 55 dX4_comesOut_29 (by decide) (fun cf => ?_) (fun cf => ?_)
    · refine w_aload_n dX4_comesOut_55 rfl ?_
      refine w_getr 3 0 dX4_comesOut_56 fl_X4_15 rfl (by decide) ?_
      refine w_aload_n dX4_comesOut_59 rfl ?_
      refine w_geti dX4_comesOut_60 fl_X4_68 rfl (by decide) ?_
      refine w_iload_n dX4_comesOut_63 rfl ?_
      refine w_ior dX4_comesOut_64 ?_
      refine w_iload_n dX4_comesOut_65 rfl ?_
      refine w_callV (d := d + 3) (S := []) [aI (fwOr (h 6 0 2) (mWn K)), aI (mBr K)] dX4_comesOut_66 ml_X4_49 ok_X2_isEnough vi_X2_isEnough rfl rfl (by decide) rfl (Nat.le_of_ble_eq_true rfl) ?_
      refine c_X2_isEnough (d := (d + 1)) (fwOr (h 6 0 2) (mWn K)) (mBr K) (by first | assumption | omega | decide) (by first | assumption | omega | decide) ?_
      show fwWP mX4_comesOut (d + 4) 69 [some (aR 6 0), some (aI (mWn K)), some (aI (mBr K)), some (aI (mMv K : Int)), some (aI (K : Int)), some (aI (fwB (mFull (h 5 0 3).toNat K = true))), none, none] [aI (fwB (mEno (h 18 0) (h 5 0 3).toNat (h 3 0 4) (fwOr (h 6 0 2) (mWn K)) (mBr K)))] h Q
      have hpl0 : mPlH h 0 K = mE h K := rfl
      have k9 := k (h 24 0) hO
      rw [fwUc_self] at k9
      exact w_zretE (P := mPlH h 0 K = true) dX4_comesOut_69 rfl (fwB_eq (by rw [hpl0]; exact decide_eq_true_iff.symm)) k9
    · refine w_iload_n dX4_comesOut_32 rfl ?_
      refine w_aload_n dX4_comesOut_33 rfl ?_
      refine w_geti dX4_comesOut_34 fl_X4_71 rfl (by decide) ?_
      refine w_icmp_ge 55 dX4_comesOut_37 (by decide) (by omega) (by omega) (fun c37 => ?_) (fun c37 => ?_)
      · refine w_aload_n dX4_comesOut_55 rfl ?_
        refine w_getr 3 0 dX4_comesOut_56 fl_X4_15 rfl (by decide) ?_
        refine w_aload_n dX4_comesOut_59 rfl ?_
        refine w_geti dX4_comesOut_60 fl_X4_68 rfl (by decide) ?_
        refine w_iload_n dX4_comesOut_63 rfl ?_
        refine w_ior dX4_comesOut_64 ?_
        refine w_iload_n dX4_comesOut_65 rfl ?_
        refine w_callV (d := d + 3) (S := []) [aI (fwOr (h 6 0 2) (mWn K)), aI (mBr K)] dX4_comesOut_66 ml_X4_49 ok_X2_isEnough vi_X2_isEnough rfl rfl (by decide) rfl (Nat.le_of_ble_eq_true rfl) ?_
        refine c_X2_isEnough (d := (d + 1)) (fwOr (h 6 0 2) (mWn K)) (mBr K) (by first | assumption | omega | decide) (by first | assumption | omega | decide) ?_
        show fwWP mX4_comesOut (d + 4) 69 [some (aR 6 0), some (aI (mWn K)), some (aI (mBr K)), some (aI (mMv K : Int)), some (aI (K : Int)), some (aI (fwB (mFull (h 5 0 3).toNat K = true))), none, none] [aI (fwB (mEno (h 18 0) (h 5 0 3).toNat (h 3 0 4) (fwOr (h 6 0 2) (mWn K)) (mBr K)))] h Q
        have hpl0 : mPlH h 0 K = mE h K := rfl
        have k9 := k (h 24 0) hO
        rw [fwUc_self] at k9
        exact w_zretE (P := mPlH h 0 K = true) dX4_comesOut_69 rfl (fwB_eq (by rw [hpl0]; exact decide_eq_true_iff.symm)) k9
      · (exfalso; omega)
  refine w_iload_n dX4_comesOut_0 rfl ?_
  refine w_iload_n dX4_comesOut_1 rfl ?_
  refine w_ior dX4_comesOut_2 ?_
  refine w_iconst dX4_comesOut_3 ?_
  refine w_aload_n dX4_comesOut_4 rfl ?_
  refine w_getr 3 0 dX4_comesOut_5 fl_X4_15 rfl (by decide) ?_
  refine w_getr 5 0 dX4_comesOut_8 fl_X4_19 rfl (by decide) ?_
  refine w_geti dX4_comesOut_11 fl_X4_39 rfl (by decide) ?_
  refine w_ishl dX4_comesOut_14 ?_
  refine w_iconst dX4_comesOut_15 ?_
  refine w_isub dX4_comesOut_16 ?_
  refine w_icmp_ne 24 dX4_comesOut_17 (by decide) (by omega) (by omega) (fun c17 => ?_) (fun c17 => ?_)
  · refine w_iconst dX4_comesOut_24 ?_
    exact J25 _ (by first | (rw [fwB_t (hfu.mp (by omega))]) | (rw [fwB_f (fun q => by have := hfu.mpr q; omega)]))
  · refine w_iconst dX4_comesOut_20 ?_
    refine w_goto 25 dX4_comesOut_21 (by decide) ?_
    exact J25 _ (by first | (rw [fwB_t (hfu.mp (by omega))]) | (rw [fwB_f (fun q => by have := hfu.mpr q; omega)]))
set_option maxRecDepth 100000 in
set_option maxHeartbeats 4000000 in
theorem c_comesOutS {d : Nat} {h : fwH} {Q : Option fwV → fwH → Prop} (g K : Nat) (ih : plI (d + 4) g) (hL : plH h) (hg : (h 6 0 3).toNat = g + 1 + mMv K) (hK : K < 3 ^ (h 5 0 3).toNat) (hO : memo h (h 24 0)) (k : ∀ O, memo h O → Q (some (aI (fwB (mPlH h (g + 1) K = true)))) (fwUc h 24 0 O)) : fwCt mX4_comesOut (d + 7) [aR 6 0, aI (mWn K), aI (mBr K), aI (mMv K : Int), aI (K : Int)] h Q := by
  refine fwCt_of [some (aR 6 0), some (aI (mWn K)), some (aI (mBr K)), some (aI (mMv K : Int)), some (aI (K : Int)), none, none, none] rfl rfl rfl ?_
  have hp1 := hL.1.1
  have hlw := hL.2.1
  have htu := hL.2.2.1
  have hP := hL.1
  have hwr := mSetN_rng K
  have hmv := mMv_le K
  have hgm : (h 6 0 3).toNat - mMv K = g + 1 := by omega
  have hfu := mFull_iff (K := K) (n := (h 5 0 3).toNat) (by omega) hK
  rw [show (((h 5 0 3).toNat : Nat) : Int) = h 5 0 3 by omega] at hfu
  have hor := fwOr_rng (mWn K) (mBr K)
  have hsh := fwShl1_rng (x := h 5 0 3) (by omega)
  have hK9 := pl3 (n := (h 5 0 3).toNat) (by omega) hK
  have J25 : ∀ v : Int, v = fwB (mFull (h 5 0 3).toNat K = true) → fwWP mX4_comesOut (d + 7) 25 [some (aR 6 0), some (aI (mWn K)), some (aI (mBr K)), some (aI (mMv K : Int)), some (aI (K : Int)), none, none, none] [aI v] h Q := by
    intro v ev
    subst ev
    refine w_istore [some (aR 6 0), some (aI (mWn K)), some (aI (mBr K)), some (aI (mMv K : Int)), some (aI (K : Int)), some (aI (fwB (mFull (h 5 0 3).toNat K = true))), none, none] dX4_comesOut_25 rfl (by decide) ?_
    refine w_iload dX4_comesOut_27 rfl ?_
    refine w_ifB_ne 55 dX4_comesOut_29 (by decide) (fun cf => ?_) (fun cf => ?_)
    · refine w_aload_n dX4_comesOut_55 rfl ?_
      refine w_getr 3 0 dX4_comesOut_56 fl_X4_15 rfl (by decide) ?_
      refine w_aload_n dX4_comesOut_59 rfl ?_
      refine w_geti dX4_comesOut_60 fl_X4_68 rfl (by decide) ?_
      refine w_iload_n dX4_comesOut_63 rfl ?_
      refine w_ior dX4_comesOut_64 ?_
      refine w_iload_n dX4_comesOut_65 rfl ?_
      refine w_callV (d := d + 6) (S := []) [aI (fwOr (h 6 0 2) (mWn K)), aI (mBr K)] dX4_comesOut_66 ml_X4_49 ok_X2_isEnough vi_X2_isEnough rfl rfl (by decide) rfl (Nat.le_of_ble_eq_true rfl) ?_
      refine c_X2_isEnough (d := (d + 4)) (fwOr (h 6 0 2) (mWn K)) (mBr K) (by first | assumption | omega | decide) (by first | assumption | omega | decide) ?_
      show fwWP mX4_comesOut (d + 7) 69 [some (aR 6 0), some (aI (mWn K)), some (aI (mBr K)), some (aI (mMv K : Int)), some (aI (K : Int)), some (aI (fwB (mFull (h 5 0 3).toNat K = true))), none, none] [aI (fwB (mEno (h 18 0) (h 5 0 3).toNat (h 3 0 4) (fwOr (h 6 0 2) (mWn K)) (mBr K)))] h Q
      have hpl0 : mPlH h (g + 1) K = mE h K := (if_pos cf)
      have k9 := k (h 24 0) hO
      rw [fwUc_self] at k9
      exact w_zretE (P := mPlH h (g + 1) K = true) dX4_comesOut_69 rfl (fwB_eq (by rw [hpl0]; exact decide_eq_true_iff.symm)) k9
    · refine w_iload_n dX4_comesOut_32 rfl ?_
      refine w_aload_n dX4_comesOut_33 rfl ?_
      refine w_geti dX4_comesOut_34 fl_X4_71 rfl (by decide) ?_
      refine w_icmp_ge 55 dX4_comesOut_37 (by decide) (by omega) (by omega) (fun c37 => ?_) (fun c37 => ?_)
      · (exfalso; omega)
      · refine w_iload dX4_comesOut_40 rfl ?_
        refine w_if_lt 55 dX4_comesOut_42 (by decide) (by omega) (fun c42 => ?_) (fun c42 => ?_)
        · (exfalso; omega)
        · refine w_iload dX4_comesOut_45 rfl ?_
          refine w_aload_n dX4_comesOut_47 rfl ?_
          refine w_getr 24 0 dX4_comesOut_48 fl_X4_9 rfl (by decide) ?_
          refine w_alen dX4_comesOut_51 rfl (by decide) (by decide) ?_
          refine w_icmp_lt 70 dX4_comesOut_52 (by decide) (by omega) (by omega) (fun c52 => ?_) (fun c52 => ?_)
          · have hmo := hO K hK9
            rw [hgm] at hmo
            have hmr : 0 ≤ h 24 0 K ∧ h 24 0 K ≤ 2 := by split at hmo <;> omega
            refine w_aload_n dX4_comesOut_70 rfl ?_
            refine w_getr 24 0 dX4_comesOut_71 fl_X4_9 rfl (by decide) ?_
            refine w_iload dX4_comesOut_74 rfl ?_
            refine w_baldE (v := h 24 0 K) dX4_comesOut_76 rfl (by decide) (by omega) (by omega) (by rw [Int.toNat_natCast]) ?_
            refine w_if_ne 128 dX4_comesOut_77 (by decide) (by omega) (fun c77 => ?_) (fun c77 => ?_)
            · refine w_aload_n dX4_comesOut_128 rfl ?_
              refine w_getr 24 0 dX4_comesOut_129 fl_X4_9 rfl (by decide) ?_
              refine w_iload dX4_comesOut_132 rfl ?_
              refine w_baldE (v := h 24 0 K) dX4_comesOut_134 rfl (by decide) (by omega) (by omega) (by rw [Int.toNat_natCast]) ?_
              refine w_iconst dX4_comesOut_135 ?_
              refine w_icmp_ne 143 dX4_comesOut_136 (by decide) (by omega) (by omega) (fun c136 => ?_) (fun c136 => ?_)
              · refine w_iconst dX4_comesOut_143 ?_
                have k9 := k (h 24 0) hO
                rw [fwUc_self] at k9
                exact w_zretE (P := mPlH h (g + 1) K = true) dX4_comesOut_144 rfl (by rcases Decidable.em (mPlH h (g + 1) K = true) with q | q <;> first | (rw [if_pos q] at hmo; first | (rw [fwB_t q]; done) | (exfalso; omega)) | (rw [if_neg q] at hmo; first | (rw [fwB_f q]; done) | (exfalso; omega))) k9
              · refine w_iconst dX4_comesOut_139 ?_
                refine w_goto 144 dX4_comesOut_140 (by decide) ?_
                have k9 := k (h 24 0) hO
                rw [fwUc_self] at k9
                exact w_zretE (P := mPlH h (g + 1) K = true) dX4_comesOut_144 rfl (by rcases Decidable.em (mPlH h (g + 1) K = true) with q | q <;> first | (rw [if_pos q] at hmo; first | (rw [fwB_t q]; done) | (exfalso; omega)) | (rw [if_neg q] at hmo; first | (rw [fwB_f q]; done) | (exfalso; omega))) k9
            · refine w_aload_n dX4_comesOut_80 rfl ?_
              refine w_iload_n dX4_comesOut_81 rfl ?_
              refine w_callV (d := d + 6) (S := []) [aI (mMv K : Int)] dX4_comesOut_82 ml_X4_77 ok_X4_winsNow vi_X4_winsNow rfl rfl (by decide) rfl (Nat.le_of_ble_eq_true rfl) ?_
              refine c_X4_winsNow (d := (d + 6)) (mMv K) ?_
              show fwWP mX4_comesOut (d + 7) 85 [some (aR 6 0), some (aI (mWn K)), some (aI (mBr K)), some (aI (mMv K : Int)), some (aI (K : Int)), some (aI (fwB (mFull (h 5 0 3).toNat K = true))), none, none] [aI (fwB (mTn (h 6 0 4) (mMv K) = true))] h Q
              refine w_istore [some (aR 6 0), some (aI (mWn K)), some (aI (mBr K)), some (aI (mMv K : Int)), some (aI (K : Int)), some (aI (fwB (mFull (h 5 0 3).toNat K = true))), some (aI (fwB (mTn (h 6 0 4) (mMv K) = true))), none] dX4_comesOut_85 rfl (by decide) ?_
              refine w_aload_n dX4_comesOut_87 rfl ?_
              refine w_iload dX4_comesOut_88 rfl ?_
              refine w_iload_n dX4_comesOut_90 rfl ?_
              refine w_iload_n dX4_comesOut_91 rfl ?_
              refine w_iload_n dX4_comesOut_92 rfl ?_
              refine w_iload dX4_comesOut_93 rfl ?_
              refine w_callV (d := d + 6) (S := []) [aI (fwB (mTn (h 6 0 4) (mMv K) = true)), aI (mWn K), aI (mBr K), aI (mMv K : Int), aI (K : Int)] dX4_comesOut_95 ml_X4_81 ok_X4_canReach vi_X4_canReach rfl rfl (by decide) rfl (Nat.le_of_ble_eq_true rfl) ?_
              refine c_X4_canReach (d := d) g K ih hL hg hK hO ?_
              intro O1 hO1
              show fwWP mX4_comesOut (d + 7) 98 [some (aR 6 0), some (aI (mWn K)), some (aI (mBr K)), some (aI (mMv K : Int)), some (aI (K : Int)), some (aI (fwB (mFull (h 5 0 3).toNat K = true))), some (aI (fwB (mTn (h 6 0 4) (mMv K) = true))), none] [aI (fwB ((!mAll (mPlB (mE h) (mPlH h g) (mTn (h 6 0 4) (mMv K)) K) (h 5 0 3).toNat) = true))] (fwUc h 24 0 O1) Q
              have hf1 := fwB_rng (((!mAll (mPlB (mE h) (mPlH h g) (mTn (h 6 0 4) (mMv K)) K) (h 5 0 3).toNat) = true))
              have hf2 := fwB_rng (mTn (h 6 0 4) (mMv K) = true)
              have hpl : mPlH h (g + 1) K = ((!mAll (mPlB (mE h) (mPlH h g) (mTn (h 6 0 4) (mMv K)) K) (h 5 0 3).toNat) == mTn (h 6 0 4) (mMv K)) := if_neg cf
              refine w_iload dX4_comesOut_98 rfl ?_
              refine w_icmp_ne 107 dX4_comesOut_100 (by decide) (by omega) (by omega) (fun c100 => ?_) (fun c100 => ?_)
              · refine w_iconst dX4_comesOut_107 ?_
                refine w_istore [some (aR 6 0), some (aI (mWn K)), some (aI (mBr K)), some (aI (mMv K : Int)), some (aI (K : Int)), some (aI (fwB (mFull (h 5 0 3).toNat K = true))), some (aI (fwB (mTn (h 6 0 4) (mMv K) = true))), some (aI 0)] dX4_comesOut_108 rfl (by decide) ?_
                have hv : ¬ mPlH h (g + 1) K = true := by rw [hpl, beq_iff_eq]; exact fun q => c100 (fwB_iff.mpr (Bool.eq_iff_iff.mp q))
                refine w_aload_n dX4_comesOut_110 rfl ?_
                refine w_getr 24 0 dX4_comesOut_111 fl_X4_9 rfl (by decide) ?_
                refine w_iload dX4_comesOut_114 rfl ?_
                refine w_iload dX4_comesOut_116 rfl ?_
                refine w_if_eq 125 dX4_comesOut_118 (by decide) (by omega) (fun c118 => ?_) (fun c118 => ?_)
                · refine w_iconst dX4_comesOut_125 ?_
                  refine w_i2b dX4_comesOut_126 ?_
                  rw [show fwB8 2 = 2 from by decide]
                  refine w_bast dX4_comesOut_127 rfl (by decide) (by omega) (by omega) (by first | omega | exact fwB_01 _) ?_
                  rw [show (fwUp (fwUc h 24 0 O1) 24 0 ((K : Int)).toNat 2) = (fwUc (fwUc h 24 0 O1) 24 0 (fwFu (O1) ((K : Int)).toNat 2)) from fwUp_fu _ _ _ _ _]
                  rw [show (fwUc (fwUc h 24 0 O1) 24 0 (fwFu (O1) ((K : Int)).toNat 2)) = (fwUc h 24 0 (fwFu (O1) ((K : Int)).toNat 2)) from by funext a b; simp only [fwUc]; (repeat' split); all_goals first | rfl | (exfalso; omega)]
                  refine w_aload_n dX4_comesOut_128 rfl ?_
                  refine w_getr 24 0 dX4_comesOut_129 fl_X4_9 rfl (by decide) ?_
                  refine w_iload dX4_comesOut_132 rfl ?_
                  refine w_baldE (v := 2) dX4_comesOut_134 rfl (by decide) (by omega) (by omega) (by rw [Int.toNat_natCast]; exact if_pos rfl) ?_
                  refine w_iconst dX4_comesOut_135 ?_
                  refine w_icmp_ne 143 dX4_comesOut_136 (by decide) (by omega) (by omega) (fun c136 => ?_) (fun c136 => ?_)
                  · refine w_iconst dX4_comesOut_143 ?_
                    exact w_zretE (P := mPlH h (g + 1) K = true) dX4_comesOut_144 rfl (by first | (exfalso; omega) | (rw [fwB_t hv]; done) | (rw [fwB_f hv]; done)) (k _ (memo_up hO1 (by rw [Int.toNat_natCast, hgm]; first | rw [if_pos hv] | rw [if_neg hv])))
                  · refine w_iconst dX4_comesOut_139 ?_
                    refine w_goto 144 dX4_comesOut_140 (by decide) ?_
                    exact w_zretE (P := mPlH h (g + 1) K = true) dX4_comesOut_144 rfl (by first | (exfalso; omega) | (rw [fwB_t hv]; done) | (rw [fwB_f hv]; done)) (k _ (memo_up hO1 (by rw [Int.toNat_natCast, hgm]; first | rw [if_pos hv] | rw [if_neg hv])))
                · (exfalso; omega)
              · refine w_iconst dX4_comesOut_103 ?_
                refine w_goto 108 dX4_comesOut_104 (by decide) ?_
                refine w_istore [some (aR 6 0), some (aI (mWn K)), some (aI (mBr K)), some (aI (mMv K : Int)), some (aI (K : Int)), some (aI (fwB (mFull (h 5 0 3).toNat K = true))), some (aI (fwB (mTn (h 6 0 4) (mMv K) = true))), some (aI 1)] dX4_comesOut_108 rfl (by decide) ?_
                have hv : mPlH h (g + 1) K = true := by rw [hpl, beq_iff_eq]; exact Bool.eq_iff_iff.mpr (fwB_iff.mp c100)
                refine w_aload_n dX4_comesOut_110 rfl ?_
                refine w_getr 24 0 dX4_comesOut_111 fl_X4_9 rfl (by decide) ?_
                refine w_iload dX4_comesOut_114 rfl ?_
                refine w_iload dX4_comesOut_116 rfl ?_
                refine w_if_eq 125 dX4_comesOut_118 (by decide) (by omega) (fun c118 => ?_) (fun c118 => ?_)
                · (exfalso; omega)
                · refine w_iconst dX4_comesOut_121 ?_
                  refine w_goto 126 dX4_comesOut_122 (by decide) ?_
                  refine w_i2b dX4_comesOut_126 ?_
                  rw [show fwB8 1 = 1 from by decide]
                  refine w_bast dX4_comesOut_127 rfl (by decide) (by omega) (by omega) (by first | omega | exact fwB_01 _) ?_
                  rw [show (fwUp (fwUc h 24 0 O1) 24 0 ((K : Int)).toNat 1) = (fwUc (fwUc h 24 0 O1) 24 0 (fwFu (O1) ((K : Int)).toNat 1)) from fwUp_fu _ _ _ _ _]
                  rw [show (fwUc (fwUc h 24 0 O1) 24 0 (fwFu (O1) ((K : Int)).toNat 1)) = (fwUc h 24 0 (fwFu (O1) ((K : Int)).toNat 1)) from by funext a b; simp only [fwUc]; (repeat' split); all_goals first | rfl | (exfalso; omega)]
                  refine w_aload_n dX4_comesOut_128 rfl ?_
                  refine w_getr 24 0 dX4_comesOut_129 fl_X4_9 rfl (by decide) ?_
                  refine w_iload dX4_comesOut_132 rfl ?_
                  refine w_baldE (v := 1) dX4_comesOut_134 rfl (by decide) (by omega) (by omega) (by rw [Int.toNat_natCast]; exact if_pos rfl) ?_
                  refine w_iconst dX4_comesOut_135 ?_
                  refine w_icmp_ne 143 dX4_comesOut_136 (by decide) (by omega) (by omega) (fun c136 => ?_) (fun c136 => ?_)
                  · refine w_iconst dX4_comesOut_143 ?_
                    exact w_zretE (P := mPlH h (g + 1) K = true) dX4_comesOut_144 rfl (by first | (exfalso; omega) | (rw [fwB_t hv]; done) | (rw [fwB_f hv]; done)) (k _ (memo_up hO1 (by rw [Int.toNat_natCast, hgm]; first | rw [if_pos hv] | rw [if_neg hv])))
                  · refine w_iconst dX4_comesOut_139 ?_
                    refine w_goto 144 dX4_comesOut_140 (by decide) ?_
                    exact w_zretE (P := mPlH h (g + 1) K = true) dX4_comesOut_144 rfl (by first | (exfalso; omega) | (rw [fwB_t hv]; done) | (rw [fwB_f hv]; done)) (k _ (memo_up hO1 (by rw [Int.toNat_natCast, hgm]; first | rw [if_pos hv] | rw [if_neg hv])))
          · (exfalso; omega)
  refine w_iload_n dX4_comesOut_0 rfl ?_
  refine w_iload_n dX4_comesOut_1 rfl ?_
  refine w_ior dX4_comesOut_2 ?_
  refine w_iconst dX4_comesOut_3 ?_
  refine w_aload_n dX4_comesOut_4 rfl ?_
  refine w_getr 3 0 dX4_comesOut_5 fl_X4_15 rfl (by decide) ?_
  refine w_getr 5 0 dX4_comesOut_8 fl_X4_19 rfl (by decide) ?_
  refine w_geti dX4_comesOut_11 fl_X4_39 rfl (by decide) ?_
  refine w_ishl dX4_comesOut_14 ?_
  refine w_iconst dX4_comesOut_15 ?_
  refine w_isub dX4_comesOut_16 ?_
  refine w_icmp_ne 24 dX4_comesOut_17 (by decide) (by omega) (by omega) (fun c17 => ?_) (fun c17 => ?_)
  · refine w_iconst dX4_comesOut_24 ?_
    exact J25 _ (by first | (rw [fwB_t (hfu.mp (by omega))]) | (rw [fwB_f (fun q => by have := hfu.mpr q; omega)]))
  · refine w_iconst dX4_comesOut_20 ?_
    refine w_goto 25 dX4_comesOut_21 (by decide) ?_
    exact J25 _ (by first | (rw [fwB_t (hfu.mp (by omega))]) | (rw [fwB_f (fun q => by have := hfu.mpr q; omega)]))
theorem plI_all : ∀ (g d : Nat), plI (d + (4 + 3 * g)) g := by
  intro g
  induction g with
  | zero =>
    intro d h Q K a b c e ea eb ec ee hL hg hK hO k
    subst ea eb ec ee
    exact c_comesOut0 K hL hg hK hO k
  | succ g ih =>
    intro d h Q K a b c e ea eb ec ee hL hg hK hO k
    subst ea eb ec ee
    have h1 := ih d
    rw [show d + (4 + 3 * g) = (d + 3 * g) + 4 by omega] at h1
    rw [show d + (4 + 3 * (g + 1)) = (d + 3 * g) + 7 by omega]
    exact c_comesOutS g K h1 hL hg hK hO k
theorem plI_at (d : Nat) {g : Nat} (hg : g ≤ 8) : plI (d + 28) g := by
  have := plI_all g (d + 3 * (8 - g))
  rw [show d + 3 * (8 - g) + (4 + 3 * g) = d + 28 by omega] at this
  exact this
theorem memo_0 (h : fwH) : memo h (fun _ => 0) := fun _ _ => Or.inl rfl
/-- the heap of a play that begins -/
def beH (h : fwH) (x y : Int) (A B O : Nat → Int) : fwH := fwUc (fwUc (fwUc (fwUc h 6 0 (fwFu (fwFu (fwFu (h 6 0) 2 (mWil h 0)) 3 (2 * x)) 4 y)) 19 0 A) 20 0 B) 24 0 O
def mEw (h : fwH) (K : Nat) : Bool := decide (mEno (h 18 0) (h 5 0 3).toNat (h 3 0 4) (fwOr (mWil h 0) (mWn K)) (mBr K))
/-- how a play of n each comes out, who begins -/
def mPlay (h : fwH) (n : Nat) (y : Int) : Bool := mPl (mEw h) (h 5 0 3).toNat y (2 * n) 0
theorem mSet_0 (v : Nat) (hv : v ≠ 0) : ∀ n, mSetN 0 v n = 0 := by
  intro n
  induction n with
  | zero => rfl
  | succ n ih => rw [mSetN, ih, if_neg (by unfold mDg; simp; omega)]; rfl
theorem mMv_0 : mMv 0 = 0 := by decide
set_option maxRecDepth 100000 in
set_option maxHeartbeats 4000000 in
theorem c_X4_playOut {d : Nat} {h : fwH} {Q : Option fwV → fwH → Prop} (n : Nat) (y : Int) (hP : pOk h 0) (hG : gOk h 0) (hn : 1 ≤ h 4 0 1) (hM : ∀ c : Nat, c < 10 → h 17 0 c ≤ 999) (hlw : 0 ≤ h 3 0 4 ∧ h 3 0 4 ≤ 999) (hnn : n ≤ 4) (hy : y = 0 ∨ y = 1) (k : ∀ A B O, Q (some (aI (fwB (mPlay h n y = true)))) (beH h (n : Int) y A B O)) : fwCt mX4_playOut (d + 29) [aR 6 0, aI (n : Int), aI y] h Q := by
  refine fwCt_of [some (aR 6 0), some (aI (n : Int)), some (aI y)] rfl rfl rfl ?_
  refine w_aload_n dX4_playOut_0 rfl ?_
  refine w_iload_n dX4_playOut_1 rfl ?_
  refine w_iload_n dX4_playOut_2 rfl ?_
  refine w_callV (d := d + 28) (S := []) [aI (n : Int), aI y] dX4_playOut_3 ml_X4_56 ok_X4_begin vi_X4_begin rfl rfl (by decide) rfl (Nat.le_of_ble_eq_true rfl) ?_
  refine c_X4_begin (d := (d + 24)) (n : Int) y (by first | assumption | omega | decide) (by first | assumption | omega | decide) (by first | assumption | omega | decide) (by first | assumption | omega | decide) ?_
  intro A1 B1
  show fwWP mX4_playOut (d + 29) 6 [some (aR 6 0), some (aI (n : Int)), some (aI y)] [] (fwUc (fwUc (fwUc (fwUc h 6 0 (fwFu (fwFu (fwFu (h 6 0) 2 (mWil h 0)) 3 (2 * (n : Int))) 4 y)) 19 0 A1) 20 0 B1) 24 0 (fun _ => 0)) Q
  have hL : plH (fwUc (fwUc (fwUc (fwUc h 6 0 (fwFu (fwFu (fwFu (h 6 0) 2 (mWil h 0)) 3 (2 * (n : Int))) 4 y)) 19 0 A1) 20 0 B1) 24 0 (fun _ => 0)) := ⟨hP, hlw, (show 0 ≤ 2 * (n : Int) ∧ 2 * (n : Int) ≤ 8 by omega), hy⟩
  refine w_aload_n dX4_playOut_6 rfl ?_
  refine w_iconst dX4_playOut_7 ?_
  refine w_iconst dX4_playOut_8 ?_
  refine w_iconst dX4_playOut_9 ?_
  refine w_iconst dX4_playOut_10 ?_
  refine w_callV (d := d + 28) (S := []) [aI 0, aI 0, aI 0, aI 0] dX4_playOut_11 ml_X4_60 ok_X4_comesOut vi_X4_comesOut rfl rfl (by decide) rfl (Nat.le_of_ble_eq_true rfl) ?_
  refine plI_at d (g := 2 * n) (by omega) _ _ 0 0 0 0 0 (by decide) (by decide) (by decide) (by decide) hL (by show (2 * (n : Int)).toNat = 2 * n + mMv 0; rw [mMv_0]; omega) (Nat.pow_pos (by decide)) (memo_0 _) ?_
  intro O1 hO1
  show fwWP mX4_playOut (d + 29) 14 [some (aR 6 0), some (aI (n : Int)), some (aI y)] [aI (fwB (mPlay h n y = true))] (fwUc (fwUc (fwUc (fwUc (fwUc h 6 0 (fwFu (fwFu (fwFu (h 6 0) 2 (mWil h 0)) 3 (2 * (n : Int))) 4 y)) 19 0 A1) 20 0 B1) 24 0 (fun _ => 0)) 24 0 O1) Q
  rw [show fwUc (fwUc (fwUc (fwUc (fwUc h 6 0 (fwFu (fwFu (fwFu (h 6 0) 2 (mWil h 0)) 3 (2 * (n : Int))) 4 y)) 19 0 A1) 20 0 B1) 24 0 (fun _ => 0)) 24 0 O1 = (fwUc (fwUc (fwUc (fwUc h 6 0 (fwFu (fwFu (fwFu (h 6 0) 2 (mWil h 0)) 3 (2 * (n : Int))) 4 y)) 19 0 A1) 20 0 B1) 24 0 O1) from by funext a b; simp only [fwUc]; (repeat' split); all_goals first | rfl | (exfalso; omega)]
  exact w_zretE (P := mPlay h n y = true) dX4_playOut_14 rfl rfl (k _ _ _)
def mMovB (h : fwH) (n : Nat) (y : Int) (f : Nat) : Bool := decide (¬ (mPl (mEw h) (h 5 0 3).toNat y (2 * n - 1) (mChild (mTn y 0) 0 f) = mTn y 0))
/-- the least FOLK by which the one who begins has what he wants, or else the least of all -/
def mMov (h : fwH) (n : Nat) (y : Int) : Int := if n = 0 ∨ h 5 0 3 = 0 then -1 else if mFst (mMovB h n y) (h 5 0 3).toNat = (h 5 0 3).toNat then 0 else (mFst (mMovB h n y) (h 5 0 3).toNat : Int)
theorem mTn_01 {y : Int} (hy : y = 0 ∨ y = 1) : mTn y 0 = true ↔ y = 0 := by
  rcases hy with rfl | rfl
  · decide
  · decide
theorem c_byX {d : Nat} {h : fwH} {Q : Option fwV → fwH → Prop} (g K f : Nat) (x a b c e : Int) (ex : x = (f : Int)) (ea : a = mWn K) (eb : b = mBr K) (ec : c = (mMv K : Int)) (ee : e = (K : Int)) (ih : plI (d + 4) g) (hL : plH h) (hg : (h 6 0 3).toNat = g + 1 + mMv K) (hK : K < 3 ^ (h 5 0 3).toNat) (hO : memo h (h 24 0)) (hf : (f : Int) < h 5 0 3) (h0 : mDg K f = 0) (k : ∀ O, memo h O → Q (some (aI (fwB (mPlH h g (mChild (mTn (h 6 0 4) (mMv K)) K f) = true)))) (fwUc h 24 0 O)) : fwCt mX4_comesOutBy (d + 5) [aR 6 0, aI x, aI a, aI b, aI c, aI e] h Q := by
  subst ex ea eb ec ee
  exact c_X4_comesOutBy g K f ih hL hg hK hO hf h0 k
set_option maxRecDepth 100000 in
set_option maxHeartbeats 4000000 in
theorem c_X4_firstMove {d : Nat} {h : fwH} {Q : Option fwV → fwH → Prop} (n : Nat) (y : Int) (hP : pOk h 0) (hG : gOk h 0) (hn : 1 ≤ h 4 0 1) (hM : ∀ c : Nat, c < 10 → h 17 0 c ≤ 999) (hlw : 0 ≤ h 3 0 4 ∧ h 3 0 4 ≤ 999) (hnn : n ≤ 4) (hy : y = 0 ∨ y = 1) (k : ((n = 0 ∨ h 5 0 3 = 0) → Q (some (aI (mMov h n y))) h) ∧ ∀ A B O, Q (some (aI (mMov h n y))) (beH h (n : Int) y A B O)) : fwCt mX4_firstMove (d + 30) [aR 6 0, aI (n : Int), aI y] h Q := by
  refine fwCt_of [some (aR 6 0), some (aI (n : Int)), some (aI y), none, none] rfl rfl rfl ?_
  have hp1 := hP.1
  refine w_iload_n dX4_firstMove_0 rfl ?_
  refine w_if_eq 17 dX4_firstMove_1 (by decide) (by omega) (fun c1 => ?_) (fun c1 => ?_)
  · refine w_iconst dX4_firstMove_17 ?_
    have k9 := k.1 (by omega)
    exact w_iretE dX4_firstMove_18 rfl (by rw [mMov, if_pos (by omega)]) k9
  · refine w_aload_n dX4_firstMove_4 rfl ?_
    refine w_getr 3 0 dX4_firstMove_5 fl_X4_15 rfl (by decide) ?_
    refine w_getr 5 0 dX4_firstMove_8 fl_X4_19 rfl (by decide) ?_
    refine w_geti dX4_firstMove_11 fl_X4_39 rfl (by decide) ?_
    refine w_if_ne 19 dX4_firstMove_14 (by decide) (by omega) (fun c14 => ?_) (fun c14 => ?_)
    · refine w_aload_n dX4_firstMove_19 rfl ?_
      refine w_iload_n dX4_firstMove_20 rfl ?_
      refine w_iload_n dX4_firstMove_21 rfl ?_
      refine w_callV (d := d + 29) (S := []) [aI (n : Int), aI y] dX4_firstMove_22 ml_X4_56 ok_X4_begin vi_X4_begin rfl rfl (by decide) rfl (Nat.le_of_ble_eq_true rfl) ?_
      refine c_X4_begin (d := (d + 25)) (n : Int) y (by first | assumption | omega | decide) (by first | assumption | omega | decide) (by first | assumption | omega | decide) (by first | assumption | omega | decide) ?_
      intro A1 B1
      show fwWP mX4_firstMove (d + 30) 25 [some (aR 6 0), some (aI (n : Int)), some (aI y), none, none] [] (fwUc (fwUc (fwUc (fwUc h 6 0 (fwFu (fwFu (fwFu (h 6 0) 2 (mWil h 0)) 3 (2 * (n : Int))) 4 y)) 19 0 A1) 20 0 B1) 24 0 (fun _ => 0)) Q
      have J34 : ∀ v : Int, v = fwB (mTn y 0 = true) → fwWP mX4_firstMove (d + 30) 34 [some (aR 6 0), some (aI (n : Int)), some (aI y), none, none] [aI v] (fwUc (fwUc (fwUc (fwUc h 6 0 (fwFu (fwFu (fwFu (h 6 0) 2 (mWil h 0)) 3 (2 * (n : Int))) 4 y)) 19 0 A1) 20 0 B1) 24 0 (fun _ => 0)) Q := by
        intro v ev
        subst ev
        refine w_istore_n [some (aR 6 0), some (aI (n : Int)), some (aI y), some (aI (fwB (mTn y 0 = true))), none] dX4_firstMove_34 rfl (by decide) ?_
        refine w_iconst dX4_firstMove_35 ?_
        refine w_istore [some (aR 6 0), some (aI (n : Int)), some (aI y), some (aI (fwB (mTn y 0 = true))), some (aI 0)] dX4_firstMove_36 rfl (by decide) ?_
        have lp38 : ∀ f : Nat, f ≤ (h 5 0 3).toNat → ∀ (y38  : Int) (hh38 : fwH), y38 = (f : Int) → (∃ O : Nat → Int, hh38 = (fwUc (fwUc (fwUc (fwUc h 6 0 (fwFu (fwFu (fwFu (h 6 0) 2 (mWil h 0)) 3 (2 * (n : Int))) 4 y)) 19 0 A1) 20 0 B1) 24 0 O) ∧ memo (fwUc (fwUc (fwUc (fwUc h 6 0 (fwFu (fwFu (fwFu (h 6 0) 2 (mWil h 0)) 3 (2 * (n : Int))) 4 y)) 19 0 A1) 20 0 B1) 24 0 (fun _ => 0)) O) → (mFst (mMovB h n y) f = f) → fwWP mX4_firstMove (d + 30) 38 [some (aR 6 0), some (aI (n : Int)), some (aI y), some (aI (fwB (mTn y 0 = true))), some (aI y38)] [] hh38 Q := by
          refine fw_up (fun f hc38 ih38 => ?_)
          intro y38  hh38 ey38 eh38 iv38_0
          subst ey38
          obtain ⟨O_38, eh38, hp38⟩ := eh38
          subst eh38
          show fwWP mX4_firstMove (d + 30) 38 [some (aR 6 0), some (aI (n : Int)), some (aI y), some (aI (fwB (mTn y 0 = true))), some (aI (f : Int))] [] (fwUc (fwUc (fwUc (fwUc h 6 0 (fwFu (fwFu (fwFu (h 6 0) 2 (mWil h 0)) 3 (2 * (n : Int))) 4 y)) 19 0 A1) 20 0 B1) 24 0 O_38) Q
          refine w_iload dX4_firstMove_38 rfl ?_
          refine w_aload_n dX4_firstMove_40 rfl ?_
          refine w_getr 3 0 dX4_firstMove_41 fl_X4_15 rfl (by decide) ?_
          refine w_getr 5 0 dX4_firstMove_44 fl_X4_19 rfl (by decide) ?_
          refine w_getiE (v := h 5 0 3) dX4_firstMove_47 fl_X4_39 rfl (by decide) (by first | rfl | simp [fwUp, fwUc]) ?_
          refine w_icmp_ge 76 dX4_firstMove_50 (by decide) (by omega) (by omega) (fun c50 => ?_) (fun c50 => ?_)
          · have ec38 : (h 5 0 3).toNat = f := by omega
            subst ec38
            refine w_iconst dX4_firstMove_76 ?_
            exact w_iretE dX4_firstMove_77 rfl (by rw [mMov, if_neg (by omega), if_pos iv38_0]) (k.2 _ _ _)
          · have hL : plH (fwUc (fwUc (fwUc (fwUc h 6 0 (fwFu (fwFu (fwFu (h 6 0) 2 (mWil h 0)) 3 (2 * (n : Int))) 4 y)) 19 0 A1) 20 0 B1) 24 0 O_38) := ⟨hP, hlw, (show 0 ≤ 2 * (n : Int) ∧ 2 * (n : Int) ≤ 8 by omega), hy⟩
            refine w_aload_n dX4_firstMove_53 rfl ?_
            refine w_iload dX4_firstMove_54 rfl ?_
            refine w_iconst dX4_firstMove_56 ?_
            refine w_iconst dX4_firstMove_57 ?_
            refine w_iconst dX4_firstMove_58 ?_
            refine w_iconst dX4_firstMove_59 ?_
            refine w_callV (d := d + 29) (S := []) [aI (f : Int), aI 0, aI 0, aI 0, aI 0] dX4_firstMove_60 ml_X4_64 ok_X4_comesOutBy vi_X4_comesOutBy rfl rfl (by decide) rfl (Nat.le_of_ble_eq_true rfl) ?_
            refine c_byX (d := d + 24) (2 * n - 1) 0 f (f : Int) 0 0 0 0 (by omega) (by decide) (by decide) (by decide) (by decide) (plI_at d (by omega)) hL (by show (2 * (n : Int)).toNat = 2 * n - 1 + 1 + mMv 0; rw [mMv_0]; omega) (Nat.pow_pos (by decide)) hp38 (show (f : Int) < h 5 0 3 by omega) (by unfold mDg; simp) ?_
            intro O2 hO2
            show fwWP mX4_firstMove (d + 30) 63 [some (aR 6 0), some (aI (n : Int)), some (aI y), some (aI (fwB (mTn y 0 = true))), some (aI (f : Int))] [aI (fwB (mPl (mEw h) (h 5 0 3).toNat y (2 * n - 1) (mChild (mTn y 0) 0 f) = true))] (fwUc (fwUc (fwUc (fwUc (fwUc h 6 0 (fwFu (fwFu (fwFu (h 6 0) 2 (mWil h 0)) 3 (2 * (n : Int))) 4 y)) 19 0 A1) 20 0 B1) 24 0 O_38) 24 0 O2) Q
            rw [show fwUc (fwUc (fwUc (fwUc (fwUc h 6 0 (fwFu (fwFu (fwFu (h 6 0) 2 (mWil h 0)) 3 (2 * (n : Int))) 4 y)) 19 0 A1) 20 0 B1) 24 0 O_38) 24 0 O2 = (fwUc (fwUc (fwUc (fwUc h 6 0 (fwFu (fwFu (fwFu (h 6 0) 2 (mWil h 0)) 3 (2 * (n : Int))) 4 y)) 19 0 A1) 20 0 B1) 24 0 O2) from by funext a b; simp only [fwUc]; (repeat' split); all_goals first | rfl | (exfalso; omega)]
            have hf1 := fwB_rng (mPl (mEw h) (h 5 0 3).toNat y (2 * n - 1) (mChild (mTn y 0) 0 f) = true)
            have hf2 := fwB_rng (mTn y 0 = true)
            have hvw : fwB (mPl (mEw h) (h 5 0 3).toNat y (2 * n - 1) (mChild (mTn y 0) 0 f) = true) = fwB (mTn y 0 = true) ↔ mPl (mEw h) (h 5 0 3).toNat y (2 * n - 1) (mChild (mTn y 0) 0 f) = mTn y 0 := fwB_iff.trans Bool.eq_iff_iff.symm
            refine w_iload_n dX4_firstMove_63 rfl ?_
            refine w_icmp_ne 70 dX4_firstMove_64 (by decide) (by omega) (by omega) (fun c64 => ?_) (fun c64 => ?_)
            · refine w_iinc [some (aR 6 0), some (aI (n : Int)), some (aI y), some (aI (fwB (mTn y 0 = true))), some (aI ((f : Int) + 1))] dX4_firstMove_70 rfl rfl (by decide) ?_
              refine w_goto 38 dX4_firstMove_73 (by decide) ?_
              refine ih38 (by omega) _ _ ?_ ?_ ?_
              · exact (by omega)
              · exact ⟨_, rfl, hO2⟩
              · exact (mFst_go iv38_0 (decide_eq_true (fun q => c64 (hvw.mpr q))))
            · refine w_iload dX4_firstMove_67 rfl ?_
              have est := mFst_stop iv38_0 (show ¬ mMovB h n y f = true from fun q => (of_decide_eq_true q) (hvw.mp c64)) ((h 5 0 3).toNat - f)
              rw [show f + ((h 5 0 3).toNat - f) = (h 5 0 3).toNat by omega] at est
              exact w_iretE dX4_firstMove_69 rfl (by rw [mMov, if_neg (by omega), if_neg (by omega), est]) (k.2 _ _ _)
        refine lp38 0 (Nat.zero_le _) _ _ ?_ ?_ ?_
        · exact (by omega)
        · exact ⟨_, rfl, memo_0 _⟩
        · exact rfl
      refine w_iload_n dX4_firstMove_25 rfl ?_
      refine w_if_ne 33 dX4_firstMove_26 (by decide) (by omega) (fun c26 => ?_) (fun c26 => ?_)
      · refine w_iconst dX4_firstMove_33 ?_
        exact J34 _ (by first | (rw [fwB_t ((mTn_01 hy).mpr (by omega))]; done) | (rw [fwB_f (fun q => by have := (mTn_01 hy).mp q; omega)]; done))
      · refine w_iconst dX4_firstMove_29 ?_
        refine w_goto 34 dX4_firstMove_30 (by decide) ?_
        exact J34 _ (by first | (rw [fwB_t ((mTn_01 hy).mpr (by omega))]; done) | (rw [fwB_f (fun q => by have := (mTn_01 hy).mp q; omega)]; done))
    · refine w_iconst dX4_firstMove_17 ?_
      have k9 := k.1 (by omega)
      exact w_iretE dX4_firstMove_18 rfl (by rw [mMov, if_pos (by omega)]) k9
end
section
/-! FootLower$Tape: the bytes, and how they are cut -/
/-- the byte at a place, -1 where there is none -/
def mBy (h : fwH) (p : Nat) : Int := if (p : Int) < h 1 0 1 then fwAnd (h 13 0 p) 255 else -1
theorem fwAnd255 (y : Int) : 0 ≤ fwAnd y 255 ∧ fwAnd y 255 ≤ 255 := by
  unfold fwAnd
  obtain ⟨j, hj, e⟩ := pk_andE (Int32.ofInt y) (m := Int32.ofInt 255) 8 (by decide)
  rw [e, nI_toInt (by omega)]
  omega
theorem mBy_rng (h : fwH) (p : Nat) : -1 ≤ mBy h p ∧ mBy h p ≤ 255 := by
  unfold mBy
  split
  · have := fwAnd255 (h 13 0 p); omega
  · omega
def mLet (x : Int) : Bool := decide (97 ≤ x ∧ x ≤ 122)
def mDig (x : Int) : Bool := decide (48 ≤ x ∧ x ≤ 57)
def mLetEnd (b : Nat → Int) (p : Nat) : Nat := p + mFst (fun i => mLet (b (p + i))) 900
def mDigEnd (b : Nat → Int) (p : Nat) : Nat := p + mFst (fun i => mDig (b (p + i))) 900
def tOk (h : fwH) : Prop := 0 ≤ h 1 0 1 ∧ h 1 0 1 ≤ 900
set_option maxRecDepth 100000 in
set_option maxHeartbeats 4000000 in
theorem c_X9_hasRoomFor {d : Nat} {h : fwH} {Q : Option fwV → fwH → Prop}  (hT : tOk h) (k : Q (some (aI (fwB (h 1 0 1 ≤ 880)))) h) : fwCt mX9_hasRoomFor (d + 0) [aR 1 0, aI 20] h Q := by
  refine fwCt_of [some (aR 1 0), some (aI 20)] rfl rfl rfl ?_
  obtain ⟨t1, t2⟩ := id hT
  refine w_aload_n dX9_hasRoomFor_0 rfl ?_
  refine w_geti dX9_hasRoomFor_1 fl_X9_25 rfl (by decide) ?_
  refine w_iload_n dX9_hasRoomFor_4 rfl ?_
  refine w_iadd dX9_hasRoomFor_5 ?_
  refine w_sipush dX9_hasRoomFor_6 rfl ?_
  refine w_icmp_gt 16 dX9_hasRoomFor_9 (by decide) (by omega) (by omega) (fun c9 => ?_) (fun c9 => ?_)
  · refine w_iconst dX9_hasRoomFor_16 ?_
    exact w_zretE dX9_hasRoomFor_17 rfl (by first | (exfalso; omega) | (rw [fwB_t (by omega)]) | (rw [fwB_f (by omega)])) k
  · refine w_iconst dX9_hasRoomFor_12 ?_
    refine w_goto 17 dX9_hasRoomFor_13 (by decide) ?_
    exact w_zretE dX9_hasRoomFor_17 rfl (by first | (exfalso; omega) | (rw [fwB_t (by omega)]) | (rw [fwB_f (by omega)])) k
set_option maxRecDepth 100000 in
set_option maxHeartbeats 4000000 in
theorem c_X9_byteAt {d : Nat} {h : fwH} {Q : Option fwV → fwH → Prop} (p : Nat) (hT : tOk h) (hp : p < 100000) (k : Q (some (aI (mBy h p))) h) : fwCt mX9_byteAt (d + 0) [aR 1 0, aI (p : Int)] h Q := by
  refine fwCt_of [some (aR 1 0), some (aI (p : Int))] rfl rfl rfl ?_
  obtain ⟨t1, t2⟩ := id hT
  refine w_iload_n dX9_byteAt_0 rfl ?_
  refine w_if_lt 34 dX9_byteAt_1 (by decide) (by omega) (fun c1 => ?_) (fun c1 => ?_)
  · (exfalso; omega)
  · refine w_iload_n dX9_byteAt_4 rfl ?_
    refine w_aload_n dX9_byteAt_5 rfl ?_
    refine w_geti dX9_byteAt_6 fl_X9_25 rfl (by decide) ?_
    refine w_icmp_ge 34 dX9_byteAt_9 (by decide) (by omega) (by omega) (fun c9 => ?_) (fun c9 => ?_)
    · refine w_iconst dX9_byteAt_34 ?_
      exact w_iretE dX9_byteAt_35 rfl (by rw [mBy]; first | rw [if_pos (by omega)] | rw [if_neg (by omega)]) k
    · refine w_iload_n dX9_byteAt_12 rfl ?_
      refine w_aload_n dX9_byteAt_13 rfl ?_
      refine w_getr 13 0 dX9_byteAt_14 fl_X9_9 rfl (by decide) ?_
      refine w_alen dX9_byteAt_17 rfl (by decide) (by decide) ?_
      refine w_icmp_ge 34 dX9_byteAt_18 (by decide) (by omega) (by omega) (fun c18 => ?_) (fun c18 => ?_)
      · (exfalso; omega)
      · refine w_aload_n dX9_byteAt_21 rfl ?_
        refine w_getr 13 0 dX9_byteAt_22 fl_X9_9 rfl (by decide) ?_
        refine w_iload_n dX9_byteAt_25 rfl ?_
        refine w_baldE (v := h 13 0 p) dX9_byteAt_26 rfl (by decide) (by omega) (by omega) (by rw [Int.toNat_natCast]) ?_
        refine w_sipush dX9_byteAt_27 rfl ?_
        refine w_iand dX9_byteAt_30 ?_
        refine w_goto 35 dX9_byteAt_31 (by decide) ?_
        exact w_iretE dX9_byteAt_35 rfl (by rw [mBy]; first | rw [if_pos (by omega)] | rw [if_neg (by omega)]) k
theorem c_byteX {d : Nat} {h : fwH} {Q : Option fwV → fwH → Prop} (p : Nat) (x : Int) (e : x = (p : Int)) (hT : tOk h) (hp : p < 100000) (k : Q (some (aI (mBy h p))) h) : fwCt mX9_byteAt d [aR 1 0, aI x] h Q := by
  subst e
  exact c_X9_byteAt p hT hp k
set_option maxRecDepth 100000 in
set_option maxHeartbeats 4000000 in
theorem c_X9_isLetter {d : Nat} {h : fwH} {Q : Option fwV → fwH → Prop} (x : Int) (hx : -1 ≤ x ∧ x ≤ 255) (k : Q (some (aI (fwB (mLet x = true)))) h) : fwCt mX9_isLetter (d + 0) [aI x] h Q := by
  refine fwCt_of [some (aI x)] rfl rfl rfl ?_
  refine w_iload_n dX9_isLetter_0 rfl ?_
  refine w_bipush dX9_isLetter_1 rfl ?_
  refine w_icmp_lt 16 dX9_isLetter_3 (by decide) (by omega) (by omega) (fun c3 => ?_) (fun c3 => ?_)
  · refine w_iconst dX9_isLetter_16 ?_
    exact w_zretE (P := mLet x = true) dX9_isLetter_17 rfl (by unfold mLet; first | (rw [fwB_t (by simp only [decide_eq_true_eq]; omega)]) | (rw [fwB_f (by simp only [decide_eq_true_eq]; omega)])) k
  · refine w_iload_n dX9_isLetter_6 rfl ?_
    refine w_bipush dX9_isLetter_7 rfl ?_
    refine w_icmp_gt 16 dX9_isLetter_9 (by decide) (by omega) (by omega) (fun c9 => ?_) (fun c9 => ?_)
    · refine w_iconst dX9_isLetter_16 ?_
      exact w_zretE (P := mLet x = true) dX9_isLetter_17 rfl (by unfold mLet; first | (rw [fwB_t (by simp only [decide_eq_true_eq]; omega)]) | (rw [fwB_f (by simp only [decide_eq_true_eq]; omega)])) k
    · refine w_iconst dX9_isLetter_12 ?_
      refine w_goto 17 dX9_isLetter_13 (by decide) ?_
      exact w_zretE (P := mLet x = true) dX9_isLetter_17 rfl (by unfold mLet; first | (rw [fwB_t (by simp only [decide_eq_true_eq]; omega)]) | (rw [fwB_f (by simp only [decide_eq_true_eq]; omega)])) k
set_option maxRecDepth 100000 in
set_option maxHeartbeats 4000000 in
theorem c_X9_isDigit {d : Nat} {h : fwH} {Q : Option fwV → fwH → Prop} (x : Int) (hx : -1 ≤ x ∧ x ≤ 255) (k : Q (some (aI (fwB (mDig x = true)))) h) : fwCt mX9_isDigit (d + 0) [aI x] h Q := by
  refine fwCt_of [some (aI x)] rfl rfl rfl ?_
  refine w_iload_n dX9_isDigit_0 rfl ?_
  refine w_bipush dX9_isDigit_1 rfl ?_
  refine w_icmp_lt 16 dX9_isDigit_3 (by decide) (by omega) (by omega) (fun c3 => ?_) (fun c3 => ?_)
  · refine w_iconst dX9_isDigit_16 ?_
    exact w_zretE (P := mDig x = true) dX9_isDigit_17 rfl (by unfold mDig; first | (rw [fwB_t (by simp only [decide_eq_true_eq]; omega)]) | (rw [fwB_f (by simp only [decide_eq_true_eq]; omega)])) k
  · refine w_iload_n dX9_isDigit_6 rfl ?_
    refine w_bipush dX9_isDigit_7 rfl ?_
    refine w_icmp_gt 16 dX9_isDigit_9 (by decide) (by omega) (by omega) (fun c9 => ?_) (fun c9 => ?_)
    · refine w_iconst dX9_isDigit_16 ?_
      exact w_zretE (P := mDig x = true) dX9_isDigit_17 rfl (by unfold mDig; first | (rw [fwB_t (by simp only [decide_eq_true_eq]; omega)]) | (rw [fwB_f (by simp only [decide_eq_true_eq]; omega)])) k
    · refine w_iconst dX9_isDigit_12 ?_
      refine w_goto 17 dX9_isDigit_13 (by decide) ?_
      exact w_zretE (P := mDig x = true) dX9_isDigit_17 rfl (by unfold mDig; first | (rw [fwB_t (by simp only [decide_eq_true_eq]; omega)]) | (rw [fwB_f (by simp only [decide_eq_true_eq]; omega)])) k
set_option maxRecDepth 100000 in
set_option maxHeartbeats 4000000 in
theorem c_X9_wordEnd {d : Nat} {h : fwH} {Q : Option fwV → fwH → Prop} (p : Nat) (hT : tOk h) (hp : p ≤ 900) (k : Q (some (aI ((mLetEnd (mBy h) p : Nat) : Int))) h) : fwCt mX9_wordEnd (d + 1) [aR 1 0, aI (p : Int)] h Q := by
  refine fwCt_of [some (aR 1 0), some (aI (p : Int)), none, none] rfl rfl rfl ?_
  refine w_iload_n dX9_wordEnd_0 rfl ?_
  refine w_istore_n [some (aR 1 0), some (aI (p : Int)), some (aI (p : Int)), none] dX9_wordEnd_1 rfl (by decide) ?_
  refine w_iconst dX9_wordEnd_2 ?_
  refine w_istore_n [some (aR 1 0), some (aI (p : Int)), some (aI (p : Int)), some (aI 0)] dX9_wordEnd_3 rfl (by decide) ?_
  have lp4 : ∀ c : Nat, c ≤ 900 → ∀ (y4 at_ : Int), y4 = (c : Int) → at_ = (p : Int) + (c : Int) → (mFst (fun i => mLet (mBy h (p + i))) c = c) → fwWP mX9_wordEnd (d + 1) 4 [some (aR 1 0), some (aI (p : Int)), some (aI at_), some (aI y4)] [] h Q := by
    refine fw_up (fun c hc4 ih4 => ?_)
    intro y4 at_ ey4 e_at_ iv4_0
    subst ey4
    subst e_at_
    show fwWP mX9_wordEnd (d + 1) 4 [some (aR 1 0), some (aI (p : Int)), some (aI ((p : Int) + (c : Int))), some (aI (c : Int))] [] h Q
    refine w_iload_n dX9_wordEnd_4 rfl ?_
    refine w_sipush dX9_wordEnd_5 rfl ?_
    refine w_icmp_ge 31 dX9_wordEnd_8 (by decide) (by omega) (by omega) (fun c8 => ?_) (fun c8 => ?_)
    · refine w_iload_n dX9_wordEnd_31 rfl ?_
      by_cases e9 : c = 900
      · subst e9
        exact w_iretE dX9_wordEnd_32 rfl (by rw [mLetEnd, iv4_0]; omega) k
      · have est := mFst_stop iv4_0 (show ¬ (fun i => mLet (mBy h (p + i))) c = true from by first | exact cl | omega) (900 - c)
        rw [show c + (900 - c) = 900 by omega] at est
        exact w_iretE dX9_wordEnd_32 rfl (by rw [mLetEnd, est]; omega) k
    · refine w_aload_n dX9_wordEnd_11 rfl ?_
      refine w_iload_n dX9_wordEnd_12 rfl ?_
      refine w_callV (d := d + 0) (S := []) [aI ((p : Int) + (c : Int))] dX9_wordEnd_13 ml_X9_32 ok_X9_byteAt vi_X9_byteAt rfl rfl (by decide) rfl (Nat.le_of_ble_eq_true rfl) ?_
      refine c_byteX (d := d) (p + c) ((p : Int) + (c : Int)) (by omega) (by first | assumption | omega | decide) (by omega) ?_
      show fwWP mX9_wordEnd (d + 1) 16 [some (aR 1 0), some (aI (p : Int)), some (aI ((p : Int) + (c : Int))), some (aI (c : Int))] [aI (mBy h (p + c))] h Q
      have hby2 := mBy_rng h (p + c)
      refine w_callS (d := d + 0) (S := []) [aI (mBy h (p + c))] dX9_wordEnd_16 ml_X9_36 ok_X9_isLetter st_X9_isLetter rfl (Nat.le_of_ble_eq_true rfl) ?_
      refine c_X9_isLetter (d := d) (mBy h (p + c)) (by first | assumption | omega | decide) ?_
      show fwWP mX9_wordEnd (d + 1) 19 [some (aR 1 0), some (aI (p : Int)), some (aI ((p : Int) + (c : Int))), some (aI (c : Int))] [aI (fwB (mLet (mBy h (p + c)) = true))] h Q
      refine w_ifB_eq 31 dX9_wordEnd_19 (by decide) (fun cl => ?_) (fun cl => ?_)
      · refine w_iload_n dX9_wordEnd_31 rfl ?_
        by_cases e9 : c = 900
        · subst e9
          exact w_iretE dX9_wordEnd_32 rfl (by rw [mLetEnd, iv4_0]; omega) k
        · have est := mFst_stop iv4_0 (show ¬ (fun i => mLet (mBy h (p + i))) c = true from by first | exact cl | omega) (900 - c)
          rw [show c + (900 - c) = 900 by omega] at est
          exact w_iretE dX9_wordEnd_32 rfl (by rw [mLetEnd, est]; omega) k
      · refine w_iinc [some (aR 1 0), some (aI (p : Int)), some (aI (((p : Int) + (c : Int)) + 1)), some (aI (c : Int))] dX9_wordEnd_22 rfl rfl (by decide) ?_
        refine w_iinc [some (aR 1 0), some (aI (p : Int)), some (aI (((p : Int) + (c : Int)) + 1)), some (aI ((c : Int) + 1))] dX9_wordEnd_25 rfl rfl (by decide) ?_
        refine w_goto 4 dX9_wordEnd_28 (by decide) ?_
        refine ih4 (by omega) _ _ ?_ ?_ ?_
        · exact (by omega)
        · exact (by omega)
        · exact (mFst_go iv4_0 cl)
  refine lp4 0 (Nat.zero_le _) _ _ ?_ ?_ ?_
  · exact (by omega)
  · exact (by omega)
  · exact rfl
set_option maxRecDepth 100000 in
set_option maxHeartbeats 4000000 in
theorem c_X9_numberEnd {d : Nat} {h : fwH} {Q : Option fwV → fwH → Prop} (p : Nat) (hT : tOk h) (hp : p ≤ 900) (k : Q (some (aI ((mDigEnd (mBy h) p : Nat) : Int))) h) : fwCt mX9_numberEnd (d + 1) [aR 1 0, aI (p : Int)] h Q := by
  refine fwCt_of [some (aR 1 0), some (aI (p : Int)), none, none] rfl rfl rfl ?_
  refine w_iload_n dX9_numberEnd_0 rfl ?_
  refine w_istore_n [some (aR 1 0), some (aI (p : Int)), some (aI (p : Int)), none] dX9_numberEnd_1 rfl (by decide) ?_
  refine w_iconst dX9_numberEnd_2 ?_
  refine w_istore_n [some (aR 1 0), some (aI (p : Int)), some (aI (p : Int)), some (aI 0)] dX9_numberEnd_3 rfl (by decide) ?_
  have lp4 : ∀ c : Nat, c ≤ 900 → ∀ (y4 at_ : Int), y4 = (c : Int) → at_ = (p : Int) + (c : Int) → (mFst (fun i => mDig (mBy h (p + i))) c = c) → fwWP mX9_numberEnd (d + 1) 4 [some (aR 1 0), some (aI (p : Int)), some (aI at_), some (aI y4)] [] h Q := by
    refine fw_up (fun c hc4 ih4 => ?_)
    intro y4 at_ ey4 e_at_ iv4_0
    subst ey4
    subst e_at_
    show fwWP mX9_numberEnd (d + 1) 4 [some (aR 1 0), some (aI (p : Int)), some (aI ((p : Int) + (c : Int))), some (aI (c : Int))] [] h Q
    refine w_iload_n dX9_numberEnd_4 rfl ?_
    refine w_sipush dX9_numberEnd_5 rfl ?_
    refine w_icmp_ge 31 dX9_numberEnd_8 (by decide) (by omega) (by omega) (fun c8 => ?_) (fun c8 => ?_)
    · refine w_iload_n dX9_numberEnd_31 rfl ?_
      by_cases e9 : c = 900
      · subst e9
        exact w_iretE dX9_numberEnd_32 rfl (by rw [mDigEnd, iv4_0]; omega) k
      · have est := mFst_stop iv4_0 (show ¬ (fun i => mDig (mBy h (p + i))) c = true from by first | exact cl | omega) (900 - c)
        rw [show c + (900 - c) = 900 by omega] at est
        exact w_iretE dX9_numberEnd_32 rfl (by rw [mDigEnd, est]; omega) k
    · refine w_aload_n dX9_numberEnd_11 rfl ?_
      refine w_iload_n dX9_numberEnd_12 rfl ?_
      refine w_callV (d := d + 0) (S := []) [aI ((p : Int) + (c : Int))] dX9_numberEnd_13 ml_X9_32 ok_X9_byteAt vi_X9_byteAt rfl rfl (by decide) rfl (Nat.le_of_ble_eq_true rfl) ?_
      refine c_byteX (d := d) (p + c) ((p : Int) + (c : Int)) (by omega) (by first | assumption | omega | decide) (by omega) ?_
      show fwWP mX9_numberEnd (d + 1) 16 [some (aR 1 0), some (aI (p : Int)), some (aI ((p : Int) + (c : Int))), some (aI (c : Int))] [aI (mBy h (p + c))] h Q
      have hby2 := mBy_rng h (p + c)
      refine w_callS (d := d + 0) (S := []) [aI (mBy h (p + c))] dX9_numberEnd_16 ml_X9_51 ok_X9_isDigit st_X9_isDigit rfl (Nat.le_of_ble_eq_true rfl) ?_
      refine c_X9_isDigit (d := d) (mBy h (p + c)) (by first | assumption | omega | decide) ?_
      show fwWP mX9_numberEnd (d + 1) 19 [some (aR 1 0), some (aI (p : Int)), some (aI ((p : Int) + (c : Int))), some (aI (c : Int))] [aI (fwB (mDig (mBy h (p + c)) = true))] h Q
      refine w_ifB_eq 31 dX9_numberEnd_19 (by decide) (fun cl => ?_) (fun cl => ?_)
      · refine w_iload_n dX9_numberEnd_31 rfl ?_
        by_cases e9 : c = 900
        · subst e9
          exact w_iretE dX9_numberEnd_32 rfl (by rw [mDigEnd, iv4_0]; omega) k
        · have est := mFst_stop iv4_0 (show ¬ (fun i => mDig (mBy h (p + i))) c = true from by first | exact cl | omega) (900 - c)
          rw [show c + (900 - c) = 900 by omega] at est
          exact w_iretE dX9_numberEnd_32 rfl (by rw [mDigEnd, est]; omega) k
      · refine w_iinc [some (aR 1 0), some (aI (p : Int)), some (aI (((p : Int) + (c : Int)) + 1)), some (aI (c : Int))] dX9_numberEnd_22 rfl rfl (by decide) ?_
        refine w_iinc [some (aR 1 0), some (aI (p : Int)), some (aI (((p : Int) + (c : Int)) + 1)), some (aI ((c : Int) + 1))] dX9_numberEnd_25 rfl rfl (by decide) ?_
        refine w_goto 4 dX9_numberEnd_28 (by decide) ?_
        refine ih4 (by omega) _ _ ?_ ?_ ?_
        · exact (by omega)
        · exact (by omega)
        · exact (mFst_go iv4_0 cl)
  refine lp4 0 (Nat.zero_le _) _ _ ?_ ?_ ?_
  · exact (by omega)
  · exact (by omega)
  · exact rfl
def mNum (b : Nat → Int) (p : Nat) : Nat → Int
  | 0 => 0
  | j + 1 => if mNum b p j < 100000 then mNum b p j * 10 + b (p + j) - 48 else mNum b p j
theorem mNum_rng {b : Nat → Int} {p : Nat} : ∀ n : Nat, (∀ j, j < n → mDig (b (p + j)) = true) → 0 ≤ mNum b p n ∧ mNum b p n ≤ 1000000 := by
  intro n
  induction n with
  | zero => intro _; simp [mNum]
  | succ n ih =>
    intro hd
    have h1 := ih (fun j hj => hd j (by omega))
    have h2 := of_decide_eq_true (hd n (by omega))
    rw [mNum]
    split <;> omega
set_option maxRecDepth 100000 in
set_option maxHeartbeats 4000000 in
theorem c_X9_numberOf {d : Nat} {h : fwH} {Q : Option fwV → fwH → Prop} (p n : Nat) (hT : tOk h) (hp : p ≤ 900) (hn : n ≤ 900) (hD : ∀ j, j < n → mDig (mBy h (p + j)) = true) (k : Q (some (aI (mNum (mBy h) p n))) h) : fwCt mX9_numberOf (d + 1) [aR 1 0, aI (p : Int), aI ((p : Int) + (n : Int))] h Q := by
  refine fwCt_of [some (aR 1 0), some (aI (p : Int)), some (aI ((p : Int) + (n : Int))), none, none] rfl rfl rfl ?_
  refine w_iconst dX9_numberOf_0 ?_
  refine w_istore_n [some (aR 1 0), some (aI (p : Int)), some (aI ((p : Int) + (n : Int))), some (aI 0), none] dX9_numberOf_1 rfl (by decide) ?_
  refine w_iload_n dX9_numberOf_2 rfl ?_
  refine w_istore [some (aR 1 0), some (aI (p : Int)), some (aI ((p : Int) + (n : Int))), some (aI 0), some (aI (p : Int))] dX9_numberOf_3 rfl (by decide) ?_
  have lp5 : ∀ c : Nat, c ≤ n → ∀ (y5 nu : Int), y5 = (p : Int) + (c : Int) → nu = mNum (mBy h) p c → fwWP mX9_numberOf (d + 1) 5 [some (aR 1 0), some (aI (p : Int)), some (aI ((p : Int) + (n : Int))), some (aI nu), some (aI y5)] [] h Q := by
    refine fw_up (fun c hc5 ih5 => ?_)
    intro y5 nu ey5 e_nu
    subst ey5
    subst e_nu
    show fwWP mX9_numberOf (d + 1) 5 [some (aR 1 0), some (aI (p : Int)), some (aI ((p : Int) + (n : Int))), some (aI (mNum (mBy h) p c)), some (aI ((p : Int) + (c : Int)))] [] h Q
    refine w_iload dX9_numberOf_5 rfl ?_
    refine w_iload_n dX9_numberOf_7 rfl ?_
    refine w_icmp_ge 38 dX9_numberOf_8 (by decide) (by omega) (by omega) (fun c8 => ?_) (fun c8 => ?_)
    · have ec5 : n = c := by omega
      subst ec5
      refine w_iload_n dX9_numberOf_38 rfl ?_
      exact w_iretE dX9_numberOf_39 rfl (by rfl) k
    · have hnr := mNum_rng (b := mBy h) (p := p) c (fun j hj => hD j (by omega))
      refine w_iload_n dX9_numberOf_11 rfl ?_
      refine w_ldc (n := 100000) dX9_numberOf_12 cs_X9_60 ?_
      refine w_icmp_ge 32 dX9_numberOf_14 (by decide) (by omega) (by omega) (fun c14 => ?_) (fun c14 => ?_)
      · refine w_iinc [some (aR 1 0), some (aI (p : Int)), some (aI ((p : Int) + (n : Int))), some (aI (mNum (mBy h) p c)), some (aI (((p : Int) + (c : Int)) + 1))] dX9_numberOf_32 rfl rfl (by decide) ?_
        refine w_goto 5 dX9_numberOf_35 (by decide) ?_
        refine ih5 (by omega) _ _ ?_ ?_
        · exact (by omega)
        · exact (by rw [mNum]; first | rw [if_pos (by omega)] | rw [if_neg (by omega)])
      · refine w_iload_n dX9_numberOf_17 rfl ?_
        refine w_bipush dX9_numberOf_18 rfl ?_
        refine w_imul dX9_numberOf_20 ?_
        refine w_aload_n dX9_numberOf_21 rfl ?_
        refine w_iload dX9_numberOf_22 rfl ?_
        refine w_callV (d := d + 0) (S := [aI ((mNum (mBy h) p c) * 10)]) [aI ((p : Int) + (c : Int))] dX9_numberOf_24 ml_X9_32 ok_X9_byteAt vi_X9_byteAt rfl rfl (by decide) rfl (Nat.le_of_ble_eq_true rfl) ?_
        refine c_byteX (d := d) (p + c) ((p : Int) + (c : Int)) (by omega) (by first | assumption | omega | decide) (by omega) ?_
        show fwWP mX9_numberOf (d + 1) 27 [some (aR 1 0), some (aI (p : Int)), some (aI ((p : Int) + (n : Int))), some (aI (mNum (mBy h) p c)), some (aI ((p : Int) + (c : Int)))] [aI (mBy h (p + c)), aI ((mNum (mBy h) p c) * 10)] h Q
        have hby3 := mBy_rng h (p + c)
        refine w_iadd dX9_numberOf_27 ?_
        refine w_bipush dX9_numberOf_28 rfl ?_
        refine w_isub dX9_numberOf_30 ?_
        refine w_istore_n [some (aR 1 0), some (aI (p : Int)), some (aI ((p : Int) + (n : Int))), some (aI ((((mNum (mBy h) p c) * 10) + (mBy h (p + c))) - 48)), some (aI ((p : Int) + (c : Int)))] dX9_numberOf_31 rfl (by decide) ?_
        refine w_iinc [some (aR 1 0), some (aI (p : Int)), some (aI ((p : Int) + (n : Int))), some (aI ((((mNum (mBy h) p c) * 10) + (mBy h (p + c))) - 48)), some (aI (((p : Int) + (c : Int)) + 1))] dX9_numberOf_32 rfl rfl (by decide) ?_
        refine w_goto 5 dX9_numberOf_35 (by decide) ?_
        refine ih5 (by omega) _ _ ?_ ?_
        · exact (by omega)
        · exact (by rw [mNum]; first | rw [if_pos (by omega)] | rw [if_neg (by omega)])
  refine lp5 0 (Nat.zero_le _) _ _ ?_ ?_
  · exact (by omega)
  · exact rfl
set_option maxRecDepth 100000 in
set_option maxHeartbeats 4000000 in
theorem c_X9_textOf {d : Nat} {h : fwH} {Q : Option fwV → fwH → Prop} (m : Nat) (hm : m < 13) (k : Q (some (aR 50 m)) h) : fwCt mX9_textOf (d + 0) [aI ((m : Int) + 4)] h Q := by
  refine fwCt_of [some (aI ((m : Int) + 4))] rfl rfl rfl ?_
  refine w_iload_n dX9_textOf_0 rfl ?_
  rcases (show m = 0 ∨ m = 1 ∨ m = 2 ∨ m = 3 ∨ m = 4 ∨ m = 5 ∨ m = 6 ∨ m = 7 ∨ m = 8 ∨ m = 9 ∨ m = 10 ∨ m = 11 ∨ m = 12 by omega) with rfl | rfl | rfl | rfl | rfl | rfl | rfl | rfl | rfl | rfl | rfl | rfl | rfl
  · refine w_tabIn 64 dX9_textOf_1 (by omega) (by omega) (by omega) rfl rfl ?_
    refine w_ldcS (n := 0) dX9_textOf_64 rfl ?_
    exact w_aret dX9_textOf_66 rfl (Or.inl ⟨_, rfl⟩) k
  · refine w_tabIn 67 dX9_textOf_1 (by omega) (by omega) (by omega) rfl rfl ?_
    refine w_ldcS (n := 1) dX9_textOf_67 rfl ?_
    exact w_aret dX9_textOf_69 rfl (Or.inl ⟨_, rfl⟩) k
  · refine w_tabIn 70 dX9_textOf_1 (by omega) (by omega) (by omega) rfl rfl ?_
    refine w_ldcS (n := 2) dX9_textOf_70 rfl ?_
    exact w_aret dX9_textOf_72 rfl (Or.inl ⟨_, rfl⟩) k
  · refine w_tabIn 73 dX9_textOf_1 (by omega) (by omega) (by omega) rfl rfl ?_
    refine w_ldcS (n := 3) dX9_textOf_73 rfl ?_
    exact w_aret dX9_textOf_75 rfl (Or.inl ⟨_, rfl⟩) k
  · refine w_tabIn 76 dX9_textOf_1 (by omega) (by omega) (by omega) rfl rfl ?_
    refine w_ldcS (n := 4) dX9_textOf_76 rfl ?_
    exact w_aret dX9_textOf_78 rfl (Or.inl ⟨_, rfl⟩) k
  · refine w_tabIn 79 dX9_textOf_1 (by omega) (by omega) (by omega) rfl rfl ?_
    refine w_ldcS (n := 5) dX9_textOf_79 rfl ?_
    exact w_aret dX9_textOf_81 rfl (Or.inl ⟨_, rfl⟩) k
  · refine w_tabIn 82 dX9_textOf_1 (by omega) (by omega) (by omega) rfl rfl ?_
    refine w_ldcS (n := 6) dX9_textOf_82 rfl ?_
    exact w_aret dX9_textOf_84 rfl (Or.inl ⟨_, rfl⟩) k
  · refine w_tabIn 85 dX9_textOf_1 (by omega) (by omega) (by omega) rfl rfl ?_
    refine w_ldcS (n := 7) dX9_textOf_85 rfl ?_
    exact w_aret dX9_textOf_87 rfl (Or.inl ⟨_, rfl⟩) k
  · refine w_tabIn 88 dX9_textOf_1 (by omega) (by omega) (by omega) rfl rfl ?_
    refine w_ldcS (n := 8) dX9_textOf_88 rfl ?_
    exact w_aret dX9_textOf_90 rfl (Or.inl ⟨_, rfl⟩) k
  · refine w_tabIn 91 dX9_textOf_1 (by omega) (by omega) (by omega) rfl rfl ?_
    refine w_ldcS (n := 9) dX9_textOf_91 rfl ?_
    exact w_aret dX9_textOf_93 rfl (Or.inl ⟨_, rfl⟩) k
  · refine w_tabIn 94 dX9_textOf_1 (by omega) (by omega) (by omega) rfl rfl ?_
    refine w_ldcS (n := 10) dX9_textOf_94 rfl ?_
    exact w_aret dX9_textOf_96 rfl (Or.inl ⟨_, rfl⟩) k
  · refine w_tabIn 97 dX9_textOf_1 (by omega) (by omega) (by omega) rfl rfl ?_
    refine w_ldcS (n := 11) dX9_textOf_97 rfl ?_
    exact w_aret dX9_textOf_99 rfl (Or.inl ⟨_, rfl⟩) k
  · refine w_tabOut 100 dX9_textOf_1 (by omega) (by omega) rfl ?_
    refine w_ldcS (n := 12) dX9_textOf_100 rfl ?_
    exact w_aret dX9_textOf_102 rfl (Or.inl ⟨_, rfl⟩) k
theorem c_textX {d : Nat} {h : fwH} {Q : Option fwV → fwH → Prop} (m : Nat) (x : Int) (e : x = (m : Int) + 4) (hm : m < 13) (k : Q (some (aR 50 m)) h) : fwCt mX9_textOf d [aI x] h Q := by
  subst e
  exact c_X9_textOf m hm k
def mTxB (b : Nat → Int) (p s i : Nat) : Bool := decide (b (p + i) = (fwSb s).getD i 0)
abbrev mTx (b : Nat → Int) (p q s : Nat) : Prop := (q : Int) - (p : Int) = ((fwSb s).length : Int) ∧ mAll (mTxB b p s) (fwSb s).length = true
theorem fwSb_l2 : ∀ s, s < 26 → (fwSb s).length ≤ 5 ∧ ∀ i, i < 5 → 0 ≤ (fwSb s).getD i 0 ∧ (fwSb s).getD i 0 ≤ 255 := by decide +kernel
set_option maxRecDepth 100000 in
set_option maxHeartbeats 4000000 in
theorem c_X9_isText {d : Nat} {h : fwH} {Q : Option fwV → fwH → Prop} (p q s : Nat) (hT : tOk h) (hs : s < 26) (hp : p ≤ 900) (hq : q ≤ 2000) (k : Q (some (aI (fwB (mTx (mBy h) p q s)))) h) : fwCt mX9_isText (d + 4) [aR 1 0, aI (p : Int), aI (q : Int), aR 50 s] h Q := by
  refine fwCt_of [some (aR 1 0), some (aI (p : Int)), some (aI (q : Int)), some (aR 50 s), none] rfl rfl rfl ?_
  have hsl := fwSb_l2 s (by omega)
  refine w_iload_n dX9_isText_0 rfl ?_
  refine w_iload_n dX9_isText_1 rfl ?_
  refine w_isub dX9_isText_2 ?_
  refine w_aload_n dX9_isText_3 rfl ?_
  refine w_callT (d := d + 3) (S := [aI ((q : Int) - (p : Int))]) [] dX9_isText_4 ml_X9_69 ok_J0_length_8abf5 vi_J0_length_8abf5 rfl (by omega) rfl (Nat.le_of_ble_eq_true rfl) ?_
  refine c_length (d := (d + 2)) s (by omega) ?_
  show fwWP mX9_isText (d + 4) 7 [some (aR 1 0), some (aI (p : Int)), some (aI (q : Int)), some (aR 50 s), none] [aI ((fwSb s).length : Int), aI ((q : Int) - (p : Int))] h Q
  refine w_icmp_eq 12 dX9_isText_7 (by decide) (by omega) (by omega) (fun c7 => ?_) (fun c7 => ?_)
  · refine w_iconst dX9_isText_12 ?_
    refine w_istore [some (aR 1 0), some (aI (p : Int)), some (aI (q : Int)), some (aR 50 s), some (aI 0)] dX9_isText_13 rfl (by decide) ?_
    have lp15 : ∀ c : Nat, c ≤ (fwSb s).length → ∀ (y15  : Int), y15 = (c : Int) → (mAll (mTxB (mBy h) p s) c = true) → fwWP mX9_isText (d + 4) 15 [some (aR 1 0), some (aI (p : Int)), some (aI (q : Int)), some (aR 50 s), some (aI y15)] [] h Q := by
      refine fw_up (fun c hc15 ih15 => ?_)
      intro y15  ey15 iv15_0
      subst ey15
      show fwWP mX9_isText (d + 4) 15 [some (aR 1 0), some (aI (p : Int)), some (aI (q : Int)), some (aR 50 s), some (aI (c : Int))] [] h Q
      refine w_iload dX9_isText_15 rfl ?_
      refine w_aload_n dX9_isText_17 rfl ?_
      refine w_callT (d := d + 3) (S := [aI (c : Int)]) [] dX9_isText_18 ml_X9_69 ok_J0_length_8abf5 vi_J0_length_8abf5 rfl (by omega) rfl (Nat.le_of_ble_eq_true rfl) ?_
      refine c_length (d := (d + 2)) s (by omega) ?_
      show fwWP mX9_isText (d + 4) 21 [some (aR 1 0), some (aI (p : Int)), some (aI (q : Int)), some (aR 50 s), some (aI (c : Int))] [aI ((fwSb s).length : Int), aI (c : Int)] h Q
      refine w_icmp_ge 49 dX9_isText_21 (by decide) (by omega) (by omega) (fun c21 => ?_) (fun c21 => ?_)
      · have ec15 : (fwSb s).length = c := by omega
        subst ec15
        refine w_iconst dX9_isText_49 ?_
        exact w_zretE (P := mTx (mBy h) p q s) dX9_isText_50 rfl (by rw [fwB_t ⟨by omega, iv15_0⟩]) k
      · refine w_aload_n dX9_isText_24 rfl ?_
        refine w_iload_n dX9_isText_25 rfl ?_
        refine w_iload dX9_isText_26 rfl ?_
        refine w_iadd dX9_isText_28 ?_
        refine w_callV (d := d + 3) (S := []) [aI ((p : Int) + (c : Int))] dX9_isText_29 ml_X9_32 ok_X9_byteAt vi_X9_byteAt rfl rfl (by decide) rfl (Nat.le_of_ble_eq_true rfl) ?_
        refine c_byteX (d := (d + 3)) (p + c) ((p : Int) + (c : Int)) (by omega) (by first | assumption | omega | decide) (by omega) ?_
        show fwWP mX9_isText (d + 4) 32 [some (aR 1 0), some (aI (p : Int)), some (aI (q : Int)), some (aR 50 s), some (aI (c : Int))] [aI (mBy h (p + c))] h Q
        have hby3 := mBy_rng h (p + c)
        refine w_aload_n dX9_isText_32 rfl ?_
        refine w_iload dX9_isText_33 rfl ?_
        refine w_callT (d := d + 3) (S := [aI (mBy h (p + c))]) [aI (c : Int)] dX9_isText_35 ml_X9_75 ok_J0_charAt_5068e vi_J0_charAt_5068e rfl (by omega) rfl (Nat.le_of_ble_eq_true rfl) ?_
        refine c_charAt (d := d) s (c : Int) (by omega) (by omega) (by omega) ?_
        show fwWP mX9_isText (d + 4) 38 [some (aR 1 0), some (aI (p : Int)), some (aI (q : Int)), some (aR 50 s), some (aI (c : Int))] [aI ((fwSb s).getD ((c : Int)).toNat 0), aI (mBy h (p + c))] h Q
        have hch := hsl.2 c (by omega)
        rw [Int.toNat_natCast]
        refine w_icmp_eq 43 dX9_isText_38 (by decide) (by omega) (by omega) (fun c38 => ?_) (fun c38 => ?_)
        · refine w_iinc [some (aR 1 0), some (aI (p : Int)), some (aI (q : Int)), some (aR 50 s), some (aI ((c : Int) + 1))] dX9_isText_43 rfl rfl (by decide) ?_
          refine w_goto 15 dX9_isText_46 (by decide) ?_
          refine ih15 (by omega) _ ?_ ?_
          · exact (by omega)
          · exact (by rw [mAll, iv15_0, Bool.true_and]; exact decide_eq_true (by omega))
        · refine w_iconst dX9_isText_41 ?_
          exact w_zretE (P := mTx (mBy h) p q s) dX9_isText_42 rfl (by rw [fwB_f (fun z => by have := of_decide_eq_true ((mAll_iff _ _).mp z.2 c (by omega)); omega)]) k
    refine lp15 0 (Nat.zero_le _) _ ?_ ?_
    · exact (by omega)
    · exact rfl
  · refine w_iconst dX9_isText_10 ?_
    exact w_zretE (P := mTx (mBy h) p q s) dX9_isText_11 rfl (by rw [fwB_f (fun z => by have := z.1; omega)]) k
def mWkB (b : Nat → Int) (p q s : Nat) : Bool := decide (¬ mTx b p q s)
def mWk (b : Nat → Int) (p q : Nat) : Int := if mFst (mWkB b p q) 13 = 13 then 1 else (mFst (mWkB b p q) 13 : Int) + 4
set_option maxRecDepth 100000 in
set_option maxHeartbeats 4000000 in
theorem c_X9_wordKind {d : Nat} {h : fwH} {Q : Option fwV → fwH → Prop} (p q : Nat) (hT : tOk h) (hp : p ≤ 900) (hq : q ≤ 2000) (k : Q (some (aI (mWk (mBy h) p q))) h) : fwCt mX9_wordKind (d + 5) [aR 1 0, aI (p : Int), aI (q : Int)] h Q := by
  refine fwCt_of [some (aR 1 0), some (aI (p : Int)), some (aI (q : Int)), none] rfl rfl rfl ?_
  refine w_iconst dX9_wordKind_0 ?_
  refine w_istore_n [some (aR 1 0), some (aI (p : Int)), some (aI (q : Int)), some (aI 4)] dX9_wordKind_1 rfl (by decide) ?_
  have lp2 : ∀ c : Nat, c ≤ 13 → ∀ (y2  : Int), y2 = (c : Int) + 4 → (mFst (mWkB (mBy h) p q) c = c) → fwWP mX9_wordKind (d + 5) 2 [some (aR 1 0), some (aI (p : Int)), some (aI (q : Int)), some (aI y2)] [] h Q := by
    refine fw_up (fun c hc2 ih2 => ?_)
    intro y2  ey2 iv2_0
    subst ey2
    show fwWP mX9_wordKind (d + 5) 2 [some (aR 1 0), some (aI (p : Int)), some (aI (q : Int)), some (aI ((c : Int) + 4))] [] h Q
    refine w_iload_n dX9_wordKind_2 rfl ?_
    refine w_bipush dX9_wordKind_3 rfl ?_
    refine w_icmp_gt 29 dX9_wordKind_5 (by decide) (by omega) (by omega) (fun c5 => ?_) (fun c5 => ?_)
    · have ec2 : 13 = c := by omega
      subst ec2
      refine w_iconst dX9_wordKind_29 ?_
      exact w_iretE dX9_wordKind_30 rfl (by rw [mWk, if_pos iv2_0]) k
    · refine w_aload_n dX9_wordKind_8 rfl ?_
      refine w_iload_n dX9_wordKind_9 rfl ?_
      refine w_iload_n dX9_wordKind_10 rfl ?_
      refine w_iload_n dX9_wordKind_11 rfl ?_
      refine w_callS (d := d + 4) (S := [aI (q : Int), aI (p : Int), aR 1 0]) [aI ((c : Int) + 4)] dX9_wordKind_12 ml_X9_61 ok_X9_textOf st_X9_textOf rfl (Nat.le_of_ble_eq_true rfl) ?_
      refine c_textX (d := (d + 4)) c ((c : Int) + 4) (by omega) (by omega) ?_
      show fwWP mX9_wordKind (d + 5) 15 [some (aR 1 0), some (aI (p : Int)), some (aI (q : Int)), some (aI ((c : Int) + 4))] [aR 50 c, aI (q : Int), aI (p : Int), aR 1 0] h Q
      refine w_callV (d := d + 4) (S := []) [aI (p : Int), aI (q : Int), aR 50 c] dX9_wordKind_15 ml_X9_65 ok_X9_isText vi_X9_isText rfl rfl (by decide) rfl (Nat.le_of_ble_eq_true rfl) ?_
      refine c_X9_isText (d := d) p q c (by first | assumption | omega | decide) (by omega) (by omega) (by omega) ?_
      show fwWP mX9_wordKind (d + 5) 18 [some (aR 1 0), some (aI (p : Int)), some (aI (q : Int)), some (aI ((c : Int) + 4))] [aI (fwB (mTx (mBy h) p q c))] h Q
      refine w_ifB_eq 23 dX9_wordKind_18 (by decide) (fun ct => ?_) (fun ct => ?_)
      · refine w_iinc [some (aR 1 0), some (aI (p : Int)), some (aI (q : Int)), some (aI (((c : Int) + 4) + 1))] dX9_wordKind_23 rfl rfl (by decide) ?_
        refine w_goto 2 dX9_wordKind_26 (by decide) ?_
        refine ih2 (by omega) _ ?_ ?_
        · exact (by omega)
        · exact (mFst_go iv2_0 (decide_eq_true ct))
      · refine w_iload_n dX9_wordKind_21 rfl ?_
        have est := mFst_stop iv2_0 (show ¬ mWkB (mBy h) p q c = true from fun z => (of_decide_eq_true z) ct) (13 - c)
        rw [show c + (13 - c) = 13 by omega] at est
        exact w_iretE dX9_wordKind_22 rfl (by rw [mWk, if_neg (by omega), est]) k
  refine lp2 0 (Nat.zero_le _) _ ?_ ?_
  · exact (by omega)
  · exact rfl
theorem addTE (h : fwH) (x y z : Int) : fwUp (fwUp (fwUp (fwUp h 14 0 (h 1 0 5).toNat x) 15 0 (h 1 0 5).toNat y) 16 0 (h 1 0 5).toNat z) 1 0 5 (h 1 0 5 + 1) = (fwUc (fwUc (fwUc (fwUc h 1 0 (fwFu (h 1 0) 5 ((h 1 0 5) + 1))) 14 0 (fwFu (h 14 0) (h 1 0 5).toNat x)) 15 0 (fwFu (h 15 0) (h 1 0 5).toNat y)) 16 0 (fwFu (h 16 0) (h 1 0 5).toNat z)) := by
  rw [fwUp_fu h 14, fwUp_fu _ 15, fwUp_fu _ 16, fwUp_fu _ 1]
  show fwUc (fwUc (fwUc (fwUc h 14 0 (fwFu (h 14 0) (h 1 0 5).toNat x)) 15 0 (fwFu (h 15 0) (h 1 0 5).toNat y)) 16 0 (fwFu (h 16 0) (h 1 0 5).toNat z)) 1 0 (fwFu (h 1 0) 5 (h 1 0 5 + 1)) = _
  funext a b
  simp only [fwUc]
  (repeat' split)
  all_goals first | rfl | (exfalso; omega)
set_option maxRecDepth 100000 in
set_option maxHeartbeats 4000000 in
theorem c_X9_addToken {d : Nat} {h : fwH} {Q : Option fwV → fwH → Prop} (x y z : Int) (ht : 0 ≤ h 1 0 5 ∧ h 1 0 5 ≤ 900) (k : Q none (fwUc (fwUc (fwUc (fwUc h 1 0 (fwFu (h 1 0) 5 ((h 1 0 5) + 1))) 14 0 (fwFu (h 14 0) (h 1 0 5).toNat x)) 15 0 (fwFu (h 15 0) (h 1 0 5).toNat y)) 16 0 (fwFu (h 16 0) (h 1 0 5).toNat z))) : fwCt mX9_addToken (d + 0) [aR 1 0, aI x, aI y, aI z] h Q := by
  refine fwCt_of [some (aR 1 0), some (aI x), some (aI y), some (aI z)] rfl rfl rfl ?_
  refine w_aload_n dX9_addToken_0 rfl ?_
  refine w_getiE (v := h 1 0 5) dX9_addToken_1 fl_X9_29 rfl (by decide) rfl ?_
  refine w_if_lt 59 dX9_addToken_4 (by decide) (by omega) (fun c4 => ?_) (fun c4 => ?_)
  · (exfalso; omega)
  · refine w_aload_n dX9_addToken_7 rfl ?_
    refine w_getiE (v := h 1 0 5) dX9_addToken_8 fl_X9_29 rfl (by decide) rfl ?_
    refine w_aload_n dX9_addToken_11 rfl ?_
    refine w_getr 14 0 dX9_addToken_12 fl_X9_15 rfl (by decide) ?_
    refine w_alen dX9_addToken_15 rfl (by decide) (by decide) ?_
    refine w_icmp_ge 59 dX9_addToken_16 (by decide) (by omega) (by omega) (fun c16 => ?_) (fun c16 => ?_)
    · (exfalso; omega)
    · refine w_aload_n dX9_addToken_19 rfl ?_
      refine w_getr 14 0 dX9_addToken_20 fl_X9_15 rfl (by decide) ?_
      refine w_aload_n dX9_addToken_23 rfl ?_
      refine w_getiE (v := h 1 0 5) dX9_addToken_24 fl_X9_29 rfl (by decide) rfl ?_
      refine w_iload_n dX9_addToken_27 rfl ?_
      refine w_iast dX9_addToken_28 rfl (by decide) (by omega) (by omega) ?_
      refine w_aload_n dX9_addToken_29 rfl ?_
      refine w_getr 15 0 dX9_addToken_30 fl_X9_19 rfl (by decide) ?_
      refine w_aload_n dX9_addToken_33 rfl ?_
      refine w_getiE (v := h 1 0 5) dX9_addToken_34 fl_X9_29 rfl (by decide) rfl ?_
      refine w_iload_n dX9_addToken_37 rfl ?_
      refine w_iast dX9_addToken_38 rfl (by decide) (by omega) (by omega) ?_
      refine w_aload_n dX9_addToken_39 rfl ?_
      refine w_getr 16 0 dX9_addToken_40 fl_X9_22 rfl (by decide) ?_
      refine w_aload_n dX9_addToken_43 rfl ?_
      refine w_getiE (v := h 1 0 5) dX9_addToken_44 fl_X9_29 rfl (by decide) rfl ?_
      refine w_iload_n dX9_addToken_47 rfl ?_
      refine w_iast dX9_addToken_48 rfl (by decide) (by omega) (by omega) ?_
      refine w_aload_n dX9_addToken_49 rfl ?_
      refine w_dup dX9_addToken_50 rfl ?_
      refine w_getiE (v := h 1 0 5) dX9_addToken_51 fl_X9_29 rfl (by decide) rfl ?_
      refine w_iconst dX9_addToken_54 ?_
      refine w_iadd dX9_addToken_55 ?_
      refine w_puti dX9_addToken_56 fl_X9_29 fp_1_5 rfl (by decide) ?_
      rw [show (fwUp (fwUp (fwUp (fwUp h 14 0 (h 1 0 5).toNat x) 15 0 (h 1 0 5).toNat y) 16 0 (h 1 0 5).toNat z) 1 0 5 ((h 1 0 5) + 1)) = (fwUc (fwUc (fwUc (fwUc h 1 0 (fwFu (h 1 0) 5 ((h 1 0 5) + 1))) 14 0 (fwFu (h 14 0) (h 1 0 5).toNat x)) 15 0 (fwFu (h 15 0) (h 1 0 5).toNat y)) 16 0 (fwFu (h 16 0) (h 1 0 5).toNat z)) from addTE h x y z]
      exact w_vret dX9_addToken_59 rfl k
def mKd (b : Nat → Int) (p : Nat) : Int := if mLet (b p) = true then mWk b p (mLetEnd b p) else if mDig (b p) = true then 3 else if b p = 59 then 2 else 1
def mVl (b : Nat → Int) (p : Nat) : Int := if mLet (b p) = true then 0 else if mDig (b p) = true then mNum b p (mFst (fun i => mDig (b (p + i))) 900) else 0
def mNxt (b : Nat → Int) (p : Nat) : Nat := if mLet (b p) = true then mLetEnd b p else if mDig (b p) = true then mDigEnd b p else p + 1
abbrev mBlank (x : Int) : Prop := x = 32 ∨ x = 10
abbrev fwCu := Nat × Nat × (Nat → Int) × (Nat → Int) × (Nat → Int)
/-- where the cutting is, how many TOKENS there are, the rows -/
def mCu (b : Nat → Int) (sz : Int) (s0 : fwCu) : Nat → fwCu
  | 0 => s0
  | i + 1 => if ((mCu b sz s0 i).1 : Int) < sz then
      (if mBlank (b (mCu b sz s0 i).1) then ((mCu b sz s0 i).1 + 1, (mCu b sz s0 i).2) else (mNxt b (mCu b sz s0 i).1, (mCu b sz s0 i).2.1 + 1, fwFu (mCu b sz s0 i).2.2.1 (mCu b sz s0 i).2.1 (mKd b (mCu b sz s0 i).1), fwFu (mCu b sz s0 i).2.2.2.1 (mCu b sz s0 i).2.1 ((mCu b sz s0 i).1 : Int), fwFu (mCu b sz s0 i).2.2.2.2 (mCu b sz s0 i).2.1 (mVl b (mCu b sz s0 i).1)))
    else mCu b sz s0 i
theorem mFst_pre {p : Nat → Bool} : ∀ k j : Nat, j < mFst p k → p j = true := by
  intro k
  induction k with
  | zero => intro j hj; simp [mFst] at hj
  | succ k ih =>
    intro j hj
    rw [mFst] at hj
    split at hj
    · rename_i q
      rcases Nat.lt_or_ge j k with e | e
      · exact ih j (by omega)
      · rw [show j = k by omega]; exact q.2
    · exact ih j hj
theorem mBy_end {h : fwH} {p : Nat} (hp : h 1 0 1 ≤ p) : mBy h p = -1 := by
  unfold mBy
  rw [if_neg (by omega)]
theorem mRun_le {h : fwH} {q : Int → Bool} (hq : q (-1) = false) {p : Nat} (hp : (p : Int) ≤ h 1 0 1) : ((p + mFst (fun i => q (mBy h (p + i))) 900 : Nat) : Int) ≤ h 1 0 1 := by
  rcases Int.lt_or_le (h 1 0 1) ((p + mFst (fun i => q (mBy h (p + i))) 900 : Nat) : Int) with e | e
  · exfalso
    have h1 := mFst_pre (p := fun i => q (mBy h (p + i))) 900 ((h 1 0 1).toNat - p) (by omega)
    rw [show p + ((h 1 0 1).toNat - p) = (h 1 0 1).toNat by omega, mBy_end (by omega), hq] at h1
    exact Bool.noConfusion h1
  · exact e
theorem mNxt_le {h : fwH} {p : Nat} (hp : (p : Int) < h 1 0 1) : (mNxt (mBy h) p : Int) ≤ h 1 0 1 := by
  unfold mNxt
  split
  · exact mRun_le (q := mLet) (by decide) (by omega)
  · split
    · exact mRun_le (q := mDig) (by decide) (by omega)
    · omega
theorem mCu_rng {h : fwH} {s0 : fwCu} (hs : (s0.1 : Int) ≤ h 1 0 1) (ht : s0.2.1 = 0) : ∀ i : Nat, ((mCu (mBy h) (h 1 0 1) s0 i).1 : Int) ≤ h 1 0 1 ∧ (mCu (mBy h) (h 1 0 1) s0 i).2.1 ≤ i := by
  intro i
  induction i with
  | zero => exact ⟨hs, by rw [mCu, ht]; exact Nat.le_refl _⟩
  | succ i ih =>
    rw [mCu]
    split
    · rename_i q
      split
      · dsimp only; omega
      · have := mNxt_le q
        dsimp only; omega
    · omega
/-- all is cut: how many, the rows with the end's TOKEN -/
def mCuE (h : fwH) : fwCu := mCu (mBy h) (h 1 0 1) (0, 0, h 14 0, h 15 0, h 16 0) 900
def cutH (h : fwH) : fwH := fwUc (fwUc (fwUc (fwUc h 1 0 (fwFu (h 1 0) 5 ((mCuE h).2.1 + 1))) 14 0 (fwFu (mCuE h).2.2.1 (mCuE h).2.1 0)) 15 0 (fwFu (mCuE h).2.2.2.1 (mCuE h).2.1 (h 1 0 1))) 16 0 (fwFu (mCuE h).2.2.2.2 (mCuE h).2.1 0)
theorem c_numX {d : Nat} {h : fwH} {Q : Option fwV → fwH → Prop} (p n : Nat) (x y : Int) (ex : x = (p : Int)) (ey : y = (p : Int) + (n : Int)) (hT : tOk h) (hp : p ≤ 900) (hn : n ≤ 900) (hD : ∀ j, j < n → mDig (mBy h (p + j)) = true) (k : Q (some (aI (mNum (mBy h) p n))) h) : fwCt mX9_numberOf (d + 1) [aR 1 0, aI x, aI y] h Q := by
  subst ex ey
  exact c_X9_numberOf p n hT hp hn hD k
theorem c_addX {d : Nat} {h : fwH} {Q : Option fwV → fwH → Prop} (t : Nat) (x y z : Int) (et : h 1 0 5 = (t : Int)) (ht : t ≤ 900) (k : Q none (fwUc (fwUc (fwUc (fwUc h 1 0 (fwFu (h 1 0) 5 ((t : Int) + 1))) 14 0 (fwFu (h 14 0) t x)) 15 0 (fwFu (h 15 0) t y)) 16 0 (fwFu (h 16 0) t z))) : fwCt mX9_addToken d [aR 1 0, aI x, aI y, aI z] h Q := by
  refine c_X9_addToken x y z (by omega) ?_
  rw [et, Int.toNat_natCast]
  exact k
theorem fwFu5 (g : Nat → Int) (a b : Int) : fwFu (fwFu g 5 a) 5 b = fwFu g 5 b := fwFu_fu g 5 a b
theorem mLet_nb {x : Int} (h : mLet x = true) : ¬ mBlank x := by
  have := of_decide_eq_true h
  unfold mBlank
  omega
theorem mDig_nb {x : Int} (h : mDig x = true) : ¬ mBlank x := by
  have := of_decide_eq_true h
  unfold mBlank
  omega
theorem cutE0 (h : fwH) : fwUc h 1 0 (fwFu (h 1 0) 5 0) = fwUc (fwUc (fwUc (fwUc h 1 0 (fwFu (h 1 0) 5 ((mCu (mBy h) (h 1 0 1) (0, 0, h 14 0, h 15 0, h 16 0) 0).2.1 : Int))) 14 0 (h 14 0)) 15 0 (h 15 0)) 16 0 (h 16 0) := by
  funext a b
  simp only [fwUc]
  (repeat' split)
  all_goals first | rfl | (rename_i q; obtain ⟨rfl, rfl⟩ := q; rfl) | (exfalso; omega)
theorem mCu_end {b : Nat → Int} {sz : Int} {s0 : fwCu} {i : Nat} (h : ¬ ((mCu b sz s0 i).1 : Int) < sz) : ∀ j, mCu b sz s0 (i + j) = mCu b sz s0 i := by
  intro j
  induction j with
  | zero => rfl
  | succ j ih => rw [← Nat.add_assoc, mCu, ih, if_neg h]
set_option maxRecDepth 100000 in
set_option maxHeartbeats 4000000 in
theorem c_X9_cutTokens {d : Nat} {h : fwH} {Q : Option fwV → fwH → Prop}  (hT : tOk h) (k : Q none (cutH h)) : fwCt mX9_cutTokens (d + 6) [aR 1 0] h Q := by
  refine fwCt_of [some (aR 1 0), none, none, none, none] rfl rfl rfl ?_
  obtain ⟨t1, t2⟩ := id hT
  refine w_aload_n dX9_cutTokens_0 rfl ?_
  refine w_iconst dX9_cutTokens_1 ?_
  refine w_puti dX9_cutTokens_2 fl_X9_29 fp_1_5 rfl (by decide) ?_
  rw [show (fwUp h 1 0 5 0) = (fwUc h 1 0 (fwFu (h 1 0) 5 0)) from fwUp_fu _ _ _ _ _]
  refine w_iconst dX9_cutTokens_5 ?_
  refine w_istore_n [some (aR 1 0), some (aI 0), none, none, none] dX9_cutTokens_6 rfl (by decide) ?_
  refine w_iconst dX9_cutTokens_7 ?_
  refine w_istore_n [some (aR 1 0), some (aI 0), some (aI 0), none, none] dX9_cutTokens_8 rfl (by decide) ?_
  have lp9 : ∀ c : Nat, c ≤ 900 → ∀ (y9 at_ : Int) (hh9 : fwH), y9 = (c : Int) → at_ = ((mCu (mBy h) (h 1 0 1) (0, 0, h 14 0, h 15 0, h 16 0) c).1 : Int) → hh9 = (fwUc (fwUc (fwUc (fwUc h 1 0 (fwFu (h 1 0) 5 ((mCu (mBy h) (h 1 0 1) (0, 0, h 14 0, h 15 0, h 16 0) c).2.1 : Int))) 14 0 (mCu (mBy h) (h 1 0 1) (0, 0, h 14 0, h 15 0, h 16 0) c).2.2.1) 15 0 (mCu (mBy h) (h 1 0 1) (0, 0, h 14 0, h 15 0, h 16 0) c).2.2.2.1) 16 0 (mCu (mBy h) (h 1 0 1) (0, 0, h 14 0, h 15 0, h 16 0) c).2.2.2.2) → fwWP mX9_cutTokens (d + 6) 9 [some (aR 1 0), some (aI at_), some (aI y9), none, none] [] hh9 Q := by
    refine fw_up (fun c hc9 ih9 => ?_)
    intro y9 at_ hh9 ey9 e_at_ eh9
    subst ey9
    subst e_at_
    subst eh9
    have hmm0 := mCu_rng (h := h) (s0 := (0, 0, h 14 0, h 15 0, h 16 0)) (by show ((0 : Nat) : Int) ≤ h 1 0 1; omega) rfl c
    show fwWP mX9_cutTokens (d + 6) 9 [some (aR 1 0), some (aI ((mCu (mBy h) (h 1 0 1) (0, 0, h 14 0, h 15 0, h 16 0) c).1 : Int)), some (aI (c : Int)), none, none] [] (fwUc (fwUc (fwUc (fwUc h 1 0 (fwFu (h 1 0) 5 ((mCu (mBy h) (h 1 0 1) (0, 0, h 14 0, h 15 0, h 16 0) c).2.1 : Int))) 14 0 (mCu (mBy h) (h 1 0 1) (0, 0, h 14 0, h 15 0, h 16 0) c).2.2.1) 15 0 (mCu (mBy h) (h 1 0 1) (0, 0, h 14 0, h 15 0, h 16 0) c).2.2.2.1) 16 0 (mCu (mBy h) (h 1 0 1) (0, 0, h 14 0, h 15 0, h 16 0) c).2.2.2.2) Q
    refine w_iload_n dX9_cutTokens_9 rfl ?_
    refine w_sipush dX9_cutTokens_10 rfl ?_
    refine w_icmp_ge 133 dX9_cutTokens_13 (by decide) (by omega) (by omega) (fun c13 => ?_) (fun c13 => ?_)
    · have hend : (mCu (mBy h) (h 1 0 1) (0, 0, h 14 0, h 15 0, h 16 0) c) = mCuE h := by
        unfold mCuE
        by_cases e9 : c = 900
        · rw [e9]
        · have := mCu_end (b := mBy h) (sz := h 1 0 1) (s0 := (0, 0, h 14 0, h 15 0, h 16 0)) (i := c) (by omega) (900 - c)
          rw [show c + (900 - c) = 900 by omega] at this
          exact this.symm
      rw [hend]
      rw [hend] at hmm0
      refine w_aload_n dX9_cutTokens_133 rfl ?_
      refine w_iconst dX9_cutTokens_134 ?_
      refine w_aload_n dX9_cutTokens_135 rfl ?_
      refine w_getiE (v := h 1 0 1) dX9_cutTokens_136 fl_X9_25 rfl (by decide) rfl ?_
      refine w_iconst dX9_cutTokens_139 ?_
      refine w_callV (d := d + 5) (S := []) [aI 0, aI (h 1 0 1), aI 0] dX9_cutTokens_140 ml_X9_47 ok_X9_addToken vi_X9_addToken rfl rfl (by decide) rfl (Nat.le_of_ble_eq_true rfl) ?_
      refine c_addX (d := (d + 5)) (mCuE h).2.1 0 (h 1 0 1) 0 rfl (by omega) ?_
      show fwWP mX9_cutTokens (d + 6) 143 [some (aR 1 0), some (aI ((mCuE h).1 : Int)), some (aI (c : Int)), none, none] [] (fwUc (fwUc (fwUc (fwUc (fwUc (fwUc (fwUc (fwUc h 1 0 (fwFu (h 1 0) 5 ((mCuE h).2.1 : Int))) 14 0 (mCuE h).2.2.1) 15 0 (mCuE h).2.2.2.1) 16 0 (mCuE h).2.2.2.2) 1 0 (fwFu (fwFu (h 1 0) 5 ((mCuE h).2.1 : Int)) 5 (((mCuE h).2.1 : Int) + 1))) 14 0 (fwFu ((mCuE h).2.2.1) (mCuE h).2.1 0)) 15 0 (fwFu ((mCuE h).2.2.2.1) (mCuE h).2.1 (h 1 0 1))) 16 0 (fwFu ((mCuE h).2.2.2.2) (mCuE h).2.1 0)) Q
      rw [show fwUc (fwUc (fwUc (fwUc (fwUc (fwUc (fwUc (fwUc h 1 0 (fwFu (h 1 0) 5 ((mCuE h).2.1 : Int))) 14 0 (mCuE h).2.2.1) 15 0 (mCuE h).2.2.2.1) 16 0 (mCuE h).2.2.2.2) 1 0 (fwFu (fwFu (h 1 0) 5 ((mCuE h).2.1 : Int)) 5 (((mCuE h).2.1 : Int) + 1))) 14 0 (fwFu ((mCuE h).2.2.1) (mCuE h).2.1 0)) 15 0 (fwFu ((mCuE h).2.2.2.1) (mCuE h).2.1 (h 1 0 1))) 16 0 (fwFu ((mCuE h).2.2.2.2) (mCuE h).2.1 0) = (fwUc (fwUc (fwUc (fwUc h 1 0 (fwFu (fwFu (h 1 0) 5 ((mCuE h).2.1 : Int)) 5 (((mCuE h).2.1 : Int) + 1))) 14 0 (fwFu ((mCuE h).2.2.1) (mCuE h).2.1 0)) 15 0 (fwFu ((mCuE h).2.2.2.1) (mCuE h).2.1 (h 1 0 1))) 16 0 (fwFu ((mCuE h).2.2.2.2) (mCuE h).2.1 0)) from by funext a b; simp only [fwUc]; (repeat' split); all_goals first | rfl | (exfalso; omega)]
      rw [fwFu5]
      exact w_vret dX9_cutTokens_143 rfl k
    · refine w_iload_n dX9_cutTokens_16 rfl ?_
      refine w_aload_n dX9_cutTokens_17 rfl ?_
      refine w_getiE (v := h 1 0 1) dX9_cutTokens_18 fl_X9_25 rfl (by decide) rfl ?_
      refine w_icmp_ge 133 dX9_cutTokens_21 (by decide) (by omega) (by omega) (fun c21 => ?_) (fun c21 => ?_)
      · have hend : (mCu (mBy h) (h 1 0 1) (0, 0, h 14 0, h 15 0, h 16 0) c) = mCuE h := by
          unfold mCuE
          by_cases e9 : c = 900
          · rw [e9]
          · have := mCu_end (b := mBy h) (sz := h 1 0 1) (s0 := (0, 0, h 14 0, h 15 0, h 16 0)) (i := c) (by omega) (900 - c)
            rw [show c + (900 - c) = 900 by omega] at this
            exact this.symm
        rw [hend]
        rw [hend] at hmm0
        refine w_aload_n dX9_cutTokens_133 rfl ?_
        refine w_iconst dX9_cutTokens_134 ?_
        refine w_aload_n dX9_cutTokens_135 rfl ?_
        refine w_getiE (v := h 1 0 1) dX9_cutTokens_136 fl_X9_25 rfl (by decide) rfl ?_
        refine w_iconst dX9_cutTokens_139 ?_
        refine w_callV (d := d + 5) (S := []) [aI 0, aI (h 1 0 1), aI 0] dX9_cutTokens_140 ml_X9_47 ok_X9_addToken vi_X9_addToken rfl rfl (by decide) rfl (Nat.le_of_ble_eq_true rfl) ?_
        refine c_addX (d := (d + 5)) (mCuE h).2.1 0 (h 1 0 1) 0 rfl (by omega) ?_
        show fwWP mX9_cutTokens (d + 6) 143 [some (aR 1 0), some (aI ((mCuE h).1 : Int)), some (aI (c : Int)), none, none] [] (fwUc (fwUc (fwUc (fwUc (fwUc (fwUc (fwUc (fwUc h 1 0 (fwFu (h 1 0) 5 ((mCuE h).2.1 : Int))) 14 0 (mCuE h).2.2.1) 15 0 (mCuE h).2.2.2.1) 16 0 (mCuE h).2.2.2.2) 1 0 (fwFu (fwFu (h 1 0) 5 ((mCuE h).2.1 : Int)) 5 (((mCuE h).2.1 : Int) + 1))) 14 0 (fwFu ((mCuE h).2.2.1) (mCuE h).2.1 0)) 15 0 (fwFu ((mCuE h).2.2.2.1) (mCuE h).2.1 (h 1 0 1))) 16 0 (fwFu ((mCuE h).2.2.2.2) (mCuE h).2.1 0)) Q
        rw [show fwUc (fwUc (fwUc (fwUc (fwUc (fwUc (fwUc (fwUc h 1 0 (fwFu (h 1 0) 5 ((mCuE h).2.1 : Int))) 14 0 (mCuE h).2.2.1) 15 0 (mCuE h).2.2.2.1) 16 0 (mCuE h).2.2.2.2) 1 0 (fwFu (fwFu (h 1 0) 5 ((mCuE h).2.1 : Int)) 5 (((mCuE h).2.1 : Int) + 1))) 14 0 (fwFu ((mCuE h).2.2.1) (mCuE h).2.1 0)) 15 0 (fwFu ((mCuE h).2.2.2.1) (mCuE h).2.1 (h 1 0 1))) 16 0 (fwFu ((mCuE h).2.2.2.2) (mCuE h).2.1 0) = (fwUc (fwUc (fwUc (fwUc h 1 0 (fwFu (fwFu (h 1 0) 5 ((mCuE h).2.1 : Int)) 5 (((mCuE h).2.1 : Int) + 1))) 14 0 (fwFu ((mCuE h).2.2.1) (mCuE h).2.1 0)) 15 0 (fwFu ((mCuE h).2.2.2.1) (mCuE h).2.1 (h 1 0 1))) 16 0 (fwFu ((mCuE h).2.2.2.2) (mCuE h).2.1 0)) from by funext a b; simp only [fwUc]; (repeat' split); all_goals first | rfl | (exfalso; omega)]
        rw [fwFu5]
        exact w_vret dX9_cutTokens_143 rfl k
      · have hmm := mCu_rng (h := h) (s0 := (0, 0, h 14 0, h 15 0, h 16 0)) (by show ((0 : Nat) : Int) ≤ h 1 0 1; omega) rfl c
        have hstep : (mCu (mBy h) (h 1 0 1) (0, 0, h 14 0, h 15 0, h 16 0) (c + 1)) = _ := mCu.eq_2 (mBy h) (h 1 0 1) (0, 0, h 14 0, h 15 0, h 16 0) c
        obtain ⟨s, es⟩ : ∃ s, s = (mCu (mBy h) (h 1 0 1) (0, 0, h 14 0, h 15 0, h 16 0) c) := ⟨_, rfl⟩
        rw [← es] at hstep hmm c21
        rw [← es]
        obtain ⟨p, ep⟩ : ∃ p, p = s.1 := ⟨_, rfl⟩
        rw [← ep] at hstep hmm c21
        rw [← ep]
        rw [if_pos c21] at hstep
        have hT5 : tOk (fwUc (fwUc (fwUc (fwUc h 1 0 (fwFu (h 1 0) 5 (s.2.1 : Int))) 14 0 s.2.2.1) 15 0 s.2.2.2.1) 16 0 s.2.2.2.2) := hT
        refine w_aload_n dX9_cutTokens_24 rfl ?_
        refine w_iload_n dX9_cutTokens_25 rfl ?_
        refine w_callV (d := d + 5) (S := []) [aI (p : Int)] dX9_cutTokens_26 ml_X9_32 ok_X9_byteAt vi_X9_byteAt rfl rfl (by decide) rfl (Nat.le_of_ble_eq_true rfl) ?_
        refine c_X9_byteAt (d := (d + 5)) p hT5 (by omega) ?_
        show fwWP mX9_cutTokens (d + 6) 29 [some (aR 1 0), some (aI (p : Int)), some (aI (c : Int)), none, none] [aI (mBy h p)] (fwUc (fwUc (fwUc (fwUc h 1 0 (fwFu (h 1 0) 5 (s.2.1 : Int))) 14 0 s.2.2.1) 15 0 s.2.2.2.1) 16 0 s.2.2.2.2) Q
        have hby := mBy_rng h p
        refine w_istore_n [some (aR 1 0), some (aI (p : Int)), some (aI (c : Int)), some (aI (mBy h p)), none] dX9_cutTokens_29 rfl (by decide) ?_
        refine w_iload_n dX9_cutTokens_30 rfl ?_
        refine w_iconst dX9_cutTokens_31 ?_
        refine w_iadd dX9_cutTokens_32 ?_
        refine w_istore [some (aR 1 0), some (aI (p : Int)), some (aI (c : Int)), some (aI (mBy h p)), some (aI ((p : Int) + 1))] dX9_cutTokens_33 rfl (by decide) ?_
        refine w_iload_n dX9_cutTokens_35 rfl ?_
        refine w_callS (d := d + 5) (S := []) [aI (mBy h p)] dX9_cutTokens_36 ml_X9_36 ok_X9_isLetter st_X9_isLetter rfl (Nat.le_of_ble_eq_true rfl) ?_
        refine c_X9_isLetter (d := (d + 5)) (mBy h p) (by first | assumption | omega | decide) ?_
        show fwWP mX9_cutTokens (d + 6) 39 [some (aR 1 0), some (aI (p : Int)), some (aI (c : Int)), some (aI (mBy h p)), some (aI ((p : Int) + 1))] [aI (fwB (mLet (mBy h p) = true))] (fwUc (fwUc (fwUc (fwUc h 1 0 (fwFu (h 1 0) 5 (s.2.1 : Int))) 14 0 s.2.2.1) 15 0 s.2.2.2.1) 16 0 s.2.2.2.2) Q
        refine w_ifB_eq 65 dX9_cutTokens_39 (by decide) (fun cl => ?_) (fun cl => ?_)
        · refine w_iload_n dX9_cutTokens_65 rfl ?_
          refine w_callS (d := d + 5) (S := []) [aI (mBy h p)] dX9_cutTokens_66 ml_X9_51 ok_X9_isDigit st_X9_isDigit rfl (Nat.le_of_ble_eq_true rfl) ?_
          refine c_X9_isDigit (d := (d + 5)) (mBy h p) (by first | assumption | omega | decide) ?_
          show fwWP mX9_cutTokens (d + 6) 69 [some (aR 1 0), some (aI (p : Int)), some (aI (c : Int)), some (aI (mBy h p)), some (aI ((p : Int) + 1))] [aI (fwB (mDig (mBy h p) = true))] (fwUc (fwUc (fwUc (fwUc h 1 0 (fwFu (h 1 0) 5 (s.2.1 : Int))) 14 0 s.2.2.1) 15 0 s.2.2.2.1) 16 0 s.2.2.2.2) Q
          refine w_ifB_eq 95 dX9_cutTokens_69 (by decide) (fun cd => ?_) (fun cd => ?_)
          · refine w_iload_n dX9_cutTokens_95 rfl ?_
            refine w_bipush dX9_cutTokens_96 rfl ?_
            refine w_icmp_eq 124 dX9_cutTokens_98 (by decide) (by omega) (by omega) (fun c98 => ?_) (fun c98 => ?_)
            · refine w_iload dX9_cutTokens_124 rfl ?_
              refine w_istore_n [some (aR 1 0), some (aI ((p : Int) + 1)), some (aI (c : Int)), some (aI (mBy h p)), some (aI ((p : Int) + 1))] dX9_cutTokens_126 rfl (by decide) ?_
              refine w_iinc [some (aR 1 0), some (aI ((p : Int) + 1)), some (aI ((c : Int) + 1)), some (aI (mBy h p)), some (aI ((p : Int) + 1))] dX9_cutTokens_127 rfl rfl (by decide) ?_
              refine w_goto 9 dX9_cutTokens_130 (by decide) ?_
              refine w_drop [3, 4] [some (aR 1 0), some (aI ((p : Int) + 1)), some (aI ((c : Int) + 1)), none, none] rfl ?_
              refine ih9 (by omega) _ _ _ ?_ ?_ ?_
              · exact (by omega)
              · exact (by rw [hstep, if_pos (by omega)]; omega)
              · exact (by rw [hstep, if_pos (by omega)])
            · refine w_iload_n dX9_cutTokens_101 rfl ?_
              refine w_bipush dX9_cutTokens_102 rfl ?_
              refine w_icmp_eq 124 dX9_cutTokens_104 (by decide) (by omega) (by omega) (fun c104 => ?_) (fun c104 => ?_)
              · refine w_iload dX9_cutTokens_124 rfl ?_
                refine w_istore_n [some (aR 1 0), some (aI ((p : Int) + 1)), some (aI (c : Int)), some (aI (mBy h p)), some (aI ((p : Int) + 1))] dX9_cutTokens_126 rfl (by decide) ?_
                refine w_iinc [some (aR 1 0), some (aI ((p : Int) + 1)), some (aI ((c : Int) + 1)), some (aI (mBy h p)), some (aI ((p : Int) + 1))] dX9_cutTokens_127 rfl rfl (by decide) ?_
                refine w_goto 9 dX9_cutTokens_130 (by decide) ?_
                refine w_drop [3, 4] [some (aR 1 0), some (aI ((p : Int) + 1)), some (aI ((c : Int) + 1)), none, none] rfl ?_
                refine ih9 (by omega) _ _ _ ?_ ?_ ?_
                · exact (by omega)
                · exact (by rw [hstep, if_pos (by omega)]; omega)
                · exact (by rw [hstep, if_pos (by omega)])
              · have hst2 := hstep
                rw [if_neg (show ¬ mBlank (mBy h p) from fun q => by unfold mBlank at q; omega)] at hst2
                refine w_aload_n dX9_cutTokens_107 rfl ?_
                refine w_iload_n dX9_cutTokens_108 rfl ?_
                refine w_bipush dX9_cutTokens_109 rfl ?_
                refine w_icmp_ne 118 dX9_cutTokens_111 (by decide) (by omega) (by omega) (fun c111 => ?_) (fun c111 => ?_)
                · refine w_iconst dX9_cutTokens_118 ?_
                  refine w_iload_n dX9_cutTokens_119 rfl ?_
                  refine w_iconst dX9_cutTokens_120 ?_
                  refine w_callV (d := d + 5) (S := []) [aI 1, aI (p : Int), aI 0] dX9_cutTokens_121 ml_X9_47 ok_X9_addToken vi_X9_addToken rfl rfl (by decide) rfl (Nat.le_of_ble_eq_true rfl) ?_
                  refine c_addX (d := (d + 5)) s.2.1 1 (p : Int) 0 rfl (by omega) ?_
                  show fwWP mX9_cutTokens (d + 6) 124 [some (aR 1 0), some (aI (p : Int)), some (aI (c : Int)), some (aI (mBy h p)), some (aI ((p : Int) + 1))] [] (fwUc (fwUc (fwUc (fwUc (fwUc (fwUc (fwUc (fwUc h 1 0 (fwFu (h 1 0) 5 (s.2.1 : Int))) 14 0 s.2.2.1) 15 0 s.2.2.2.1) 16 0 s.2.2.2.2) 1 0 (fwFu (fwFu (h 1 0) 5 (s.2.1 : Int)) 5 ((s.2.1 : Int) + 1))) 14 0 (fwFu s.2.2.1 s.2.1 1)) 15 0 (fwFu s.2.2.2.1 s.2.1 (p : Int))) 16 0 (fwFu s.2.2.2.2 s.2.1 0)) Q
                  rw [show fwUc (fwUc (fwUc (fwUc (fwUc (fwUc (fwUc (fwUc h 1 0 (fwFu (h 1 0) 5 (s.2.1 : Int))) 14 0 s.2.2.1) 15 0 s.2.2.2.1) 16 0 s.2.2.2.2) 1 0 (fwFu (fwFu (h 1 0) 5 (s.2.1 : Int)) 5 ((s.2.1 : Int) + 1))) 14 0 (fwFu s.2.2.1 s.2.1 1)) 15 0 (fwFu s.2.2.2.1 s.2.1 (p : Int))) 16 0 (fwFu s.2.2.2.2 s.2.1 0) = (fwUc (fwUc (fwUc (fwUc h 1 0 (fwFu (fwFu (h 1 0) 5 (s.2.1 : Int)) 5 ((s.2.1 : Int) + 1))) 14 0 (fwFu s.2.2.1 s.2.1 1)) 15 0 (fwFu s.2.2.2.1 s.2.1 (p : Int))) 16 0 (fwFu s.2.2.2.2 s.2.1 0)) from by funext a b; simp only [fwUc]; (repeat' split); all_goals first | rfl | (exfalso; omega)]
                  refine w_iload dX9_cutTokens_124 rfl ?_
                  refine w_istore_n [some (aR 1 0), some (aI ((p : Int) + 1)), some (aI (c : Int)), some (aI (mBy h p)), some (aI ((p : Int) + 1))] dX9_cutTokens_126 rfl (by decide) ?_
                  refine w_iinc [some (aR 1 0), some (aI ((p : Int) + 1)), some (aI ((c : Int) + 1)), some (aI (mBy h p)), some (aI ((p : Int) + 1))] dX9_cutTokens_127 rfl rfl (by decide) ?_
                  refine w_goto 9 dX9_cutTokens_130 (by decide) ?_
                  refine w_drop [3, 4] [some (aR 1 0), some (aI ((p : Int) + 1)), some (aI ((c : Int) + 1)), none, none] rfl ?_
                  refine ih9 (by omega) _ _ _ ?_ ?_ ?_
                  · exact (by omega)
                  · exact (by rw [hst2]; show _ = ((mNxt (mBy h) p : Nat) : Int); unfold mNxt; first | rw [if_pos cl] | rw [if_neg cl, if_pos cd] | (rw [if_neg cl, if_neg cd]; omega))
                  · exact (by rw [hst2, fwFu5]; show _ = fwUc (fwUc (fwUc (fwUc h 1 0 (fwFu (h 1 0) 5 (((s.2.1 + 1 : Nat)) : Int))) 14 0 (fwFu s.2.2.1 s.2.1 (mKd (mBy h) p))) 15 0 (fwFu s.2.2.2.1 s.2.1 (p : Int))) 16 0 (fwFu s.2.2.2.2 s.2.1 (mVl (mBy h) p)); unfold mKd mVl; first | (rw [if_pos cl, if_pos cl]; rfl) | (rw [if_neg cl, if_neg cl, if_pos cd, if_pos cd]; rfl) | (rw [if_neg cl, if_neg cl, if_neg cd, if_neg cd, if_pos (by omega)]; rfl) | (rw [if_neg cl, if_neg cl, if_neg cd, if_neg cd, if_neg (by omega)]; rfl))
                · refine w_iconst dX9_cutTokens_114 ?_
                  refine w_goto 119 dX9_cutTokens_115 (by decide) ?_
                  refine w_iload_n dX9_cutTokens_119 rfl ?_
                  refine w_iconst dX9_cutTokens_120 ?_
                  refine w_callV (d := d + 5) (S := []) [aI 2, aI (p : Int), aI 0] dX9_cutTokens_121 ml_X9_47 ok_X9_addToken vi_X9_addToken rfl rfl (by decide) rfl (Nat.le_of_ble_eq_true rfl) ?_
                  refine c_addX (d := (d + 5)) s.2.1 2 (p : Int) 0 rfl (by omega) ?_
                  show fwWP mX9_cutTokens (d + 6) 124 [some (aR 1 0), some (aI (p : Int)), some (aI (c : Int)), some (aI (mBy h p)), some (aI ((p : Int) + 1))] [] (fwUc (fwUc (fwUc (fwUc (fwUc (fwUc (fwUc (fwUc h 1 0 (fwFu (h 1 0) 5 (s.2.1 : Int))) 14 0 s.2.2.1) 15 0 s.2.2.2.1) 16 0 s.2.2.2.2) 1 0 (fwFu (fwFu (h 1 0) 5 (s.2.1 : Int)) 5 ((s.2.1 : Int) + 1))) 14 0 (fwFu s.2.2.1 s.2.1 2)) 15 0 (fwFu s.2.2.2.1 s.2.1 (p : Int))) 16 0 (fwFu s.2.2.2.2 s.2.1 0)) Q
                  rw [show fwUc (fwUc (fwUc (fwUc (fwUc (fwUc (fwUc (fwUc h 1 0 (fwFu (h 1 0) 5 (s.2.1 : Int))) 14 0 s.2.2.1) 15 0 s.2.2.2.1) 16 0 s.2.2.2.2) 1 0 (fwFu (fwFu (h 1 0) 5 (s.2.1 : Int)) 5 ((s.2.1 : Int) + 1))) 14 0 (fwFu s.2.2.1 s.2.1 2)) 15 0 (fwFu s.2.2.2.1 s.2.1 (p : Int))) 16 0 (fwFu s.2.2.2.2 s.2.1 0) = (fwUc (fwUc (fwUc (fwUc h 1 0 (fwFu (fwFu (h 1 0) 5 (s.2.1 : Int)) 5 ((s.2.1 : Int) + 1))) 14 0 (fwFu s.2.2.1 s.2.1 2)) 15 0 (fwFu s.2.2.2.1 s.2.1 (p : Int))) 16 0 (fwFu s.2.2.2.2 s.2.1 0)) from by funext a b; simp only [fwUc]; (repeat' split); all_goals first | rfl | (exfalso; omega)]
                  refine w_iload dX9_cutTokens_124 rfl ?_
                  refine w_istore_n [some (aR 1 0), some (aI ((p : Int) + 1)), some (aI (c : Int)), some (aI (mBy h p)), some (aI ((p : Int) + 1))] dX9_cutTokens_126 rfl (by decide) ?_
                  refine w_iinc [some (aR 1 0), some (aI ((p : Int) + 1)), some (aI ((c : Int) + 1)), some (aI (mBy h p)), some (aI ((p : Int) + 1))] dX9_cutTokens_127 rfl rfl (by decide) ?_
                  refine w_goto 9 dX9_cutTokens_130 (by decide) ?_
                  refine w_drop [3, 4] [some (aR 1 0), some (aI ((p : Int) + 1)), some (aI ((c : Int) + 1)), none, none] rfl ?_
                  refine ih9 (by omega) _ _ _ ?_ ?_ ?_
                  · exact (by omega)
                  · exact (by rw [hst2]; show _ = ((mNxt (mBy h) p : Nat) : Int); unfold mNxt; first | rw [if_pos cl] | rw [if_neg cl, if_pos cd] | (rw [if_neg cl, if_neg cd]; omega))
                  · exact (by rw [hst2, fwFu5]; show _ = fwUc (fwUc (fwUc (fwUc h 1 0 (fwFu (h 1 0) 5 (((s.2.1 + 1 : Nat)) : Int))) 14 0 (fwFu s.2.2.1 s.2.1 (mKd (mBy h) p))) 15 0 (fwFu s.2.2.2.1 s.2.1 (p : Int))) 16 0 (fwFu s.2.2.2.2 s.2.1 (mVl (mBy h) p)); unfold mKd mVl; first | (rw [if_pos cl, if_pos cl]; rfl) | (rw [if_neg cl, if_neg cl, if_pos cd, if_pos cd]; rfl) | (rw [if_neg cl, if_neg cl, if_neg cd, if_neg cd, if_pos (by omega)]; rfl) | (rw [if_neg cl, if_neg cl, if_neg cd, if_neg cd, if_neg (by omega)]; rfl))
          · have hst2 := hstep
            rw [if_neg (mDig_nb cd)] at hst2
            refine w_aload_n dX9_cutTokens_72 rfl ?_
            refine w_iload_n dX9_cutTokens_73 rfl ?_
            refine w_callV (d := d + 5) (S := []) [aI (p : Int)] dX9_cutTokens_74 ml_X9_54 ok_X9_numberEnd vi_X9_numberEnd rfl rfl (by decide) rfl (Nat.le_of_ble_eq_true rfl) ?_
            refine c_X9_numberEnd (d := (d + 4)) p hT5 (by omega) ?_
            show fwWP mX9_cutTokens (d + 6) 77 [some (aR 1 0), some (aI (p : Int)), some (aI (c : Int)), some (aI (mBy h p)), some (aI ((p : Int) + 1))] [aI ((mDigEnd (mBy h) p : Nat) : Int)] (fwUc (fwUc (fwUc (fwUc h 1 0 (fwFu (h 1 0) 5 (s.2.1 : Int))) 14 0 s.2.2.1) 15 0 s.2.2.2.1) 16 0 s.2.2.2.2) Q
            have hle : ((mDigEnd (mBy h) p : Nat) : Int) ≤ h 1 0 1 := mRun_le (q := mDig) (by decide) (by omega)
            refine w_istore [some (aR 1 0), some (aI (p : Int)), some (aI (c : Int)), some (aI (mBy h p)), some (aI ((mDigEnd (mBy h) p : Nat) : Int))] dX9_cutTokens_77 rfl (by decide) ?_
            refine w_aload_n dX9_cutTokens_79 rfl ?_
            refine w_iconst dX9_cutTokens_80 ?_
            refine w_iload_n dX9_cutTokens_81 rfl ?_
            refine w_aload_n dX9_cutTokens_82 rfl ?_
            refine w_iload_n dX9_cutTokens_83 rfl ?_
            refine w_iload dX9_cutTokens_84 rfl ?_
            refine w_callV (d := d + 5) (S := [aI (p : Int), aI 3, aR 1 0]) [aI (p : Int), aI ((mDigEnd (mBy h) p : Nat) : Int)] dX9_cutTokens_86 ml_X9_57 ok_X9_numberOf vi_X9_numberOf rfl rfl (by decide) rfl (Nat.le_of_ble_eq_true rfl) ?_
            refine c_numX (d := (d + 4)) p (mFst (fun i => mDig (mBy h (p + i))) 900) _ _ rfl (by show ((mDigEnd (mBy h) p : Nat) : Int) = _; unfold mDigEnd; omega) hT5 (by omega) (mFst_le _ _) (fun j hj => mFst_pre _ j hj) ?_
            show fwWP mX9_cutTokens (d + 6) 89 [some (aR 1 0), some (aI (p : Int)), some (aI (c : Int)), some (aI (mBy h p)), some (aI ((mDigEnd (mBy h) p : Nat) : Int))] [aI (mNum (mBy h) p (mFst (fun i => mDig (mBy h (p + i))) 900)), aI (p : Int), aI 3, aR 1 0] (fwUc (fwUc (fwUc (fwUc h 1 0 (fwFu (h 1 0) 5 (s.2.1 : Int))) 14 0 s.2.2.1) 15 0 s.2.2.2.1) 16 0 s.2.2.2.2) Q
            refine w_callV (d := d + 5) (S := []) [aI 3, aI (p : Int), aI (mNum (mBy h) p (mFst (fun i => mDig (mBy h (p + i))) 900))] dX9_cutTokens_89 ml_X9_47 ok_X9_addToken vi_X9_addToken rfl rfl (by decide) rfl (Nat.le_of_ble_eq_true rfl) ?_
            refine c_addX (d := (d + 5)) s.2.1 3 (p : Int) (mNum (mBy h) p (mFst (fun i => mDig (mBy h (p + i))) 900)) rfl (by omega) ?_
            show fwWP mX9_cutTokens (d + 6) 92 [some (aR 1 0), some (aI (p : Int)), some (aI (c : Int)), some (aI (mBy h p)), some (aI ((mDigEnd (mBy h) p : Nat) : Int))] [] (fwUc (fwUc (fwUc (fwUc (fwUc (fwUc (fwUc (fwUc h 1 0 (fwFu (h 1 0) 5 (s.2.1 : Int))) 14 0 s.2.2.1) 15 0 s.2.2.2.1) 16 0 s.2.2.2.2) 1 0 (fwFu (fwFu (h 1 0) 5 (s.2.1 : Int)) 5 ((s.2.1 : Int) + 1))) 14 0 (fwFu s.2.2.1 s.2.1 3)) 15 0 (fwFu s.2.2.2.1 s.2.1 (p : Int))) 16 0 (fwFu s.2.2.2.2 s.2.1 (mNum (mBy h) p (mFst (fun i => mDig (mBy h (p + i))) 900)))) Q
            rw [show fwUc (fwUc (fwUc (fwUc (fwUc (fwUc (fwUc (fwUc h 1 0 (fwFu (h 1 0) 5 (s.2.1 : Int))) 14 0 s.2.2.1) 15 0 s.2.2.2.1) 16 0 s.2.2.2.2) 1 0 (fwFu (fwFu (h 1 0) 5 (s.2.1 : Int)) 5 ((s.2.1 : Int) + 1))) 14 0 (fwFu s.2.2.1 s.2.1 3)) 15 0 (fwFu s.2.2.2.1 s.2.1 (p : Int))) 16 0 (fwFu s.2.2.2.2 s.2.1 (mNum (mBy h) p (mFst (fun i => mDig (mBy h (p + i))) 900))) = (fwUc (fwUc (fwUc (fwUc h 1 0 (fwFu (fwFu (h 1 0) 5 (s.2.1 : Int)) 5 ((s.2.1 : Int) + 1))) 14 0 (fwFu s.2.2.1 s.2.1 3)) 15 0 (fwFu s.2.2.2.1 s.2.1 (p : Int))) 16 0 (fwFu s.2.2.2.2 s.2.1 (mNum (mBy h) p (mFst (fun i => mDig (mBy h (p + i))) 900)))) from by funext a b; simp only [fwUc]; (repeat' split); all_goals first | rfl | (exfalso; omega)]
            refine w_goto 124 dX9_cutTokens_92 (by decide) ?_
            refine w_iload dX9_cutTokens_124 rfl ?_
            refine w_istore_n [some (aR 1 0), some (aI ((mDigEnd (mBy h) p : Nat) : Int)), some (aI (c : Int)), some (aI (mBy h p)), some (aI ((mDigEnd (mBy h) p : Nat) : Int))] dX9_cutTokens_126 rfl (by decide) ?_
            refine w_iinc [some (aR 1 0), some (aI ((mDigEnd (mBy h) p : Nat) : Int)), some (aI ((c : Int) + 1)), some (aI (mBy h p)), some (aI ((mDigEnd (mBy h) p : Nat) : Int))] dX9_cutTokens_127 rfl rfl (by decide) ?_
            refine w_goto 9 dX9_cutTokens_130 (by decide) ?_
            refine w_drop [3, 4] [some (aR 1 0), some (aI ((mDigEnd (mBy h) p : Nat) : Int)), some (aI ((c : Int) + 1)), none, none] rfl ?_
            refine ih9 (by omega) _ _ _ ?_ ?_ ?_
            · exact (by omega)
            · exact (by rw [hst2]; show _ = ((mNxt (mBy h) p : Nat) : Int); unfold mNxt; first | rw [if_pos cl] | rw [if_neg cl, if_pos cd] | (rw [if_neg cl, if_neg cd]; omega))
            · exact (by rw [hst2, fwFu5]; show _ = fwUc (fwUc (fwUc (fwUc h 1 0 (fwFu (h 1 0) 5 (((s.2.1 + 1 : Nat)) : Int))) 14 0 (fwFu s.2.2.1 s.2.1 (mKd (mBy h) p))) 15 0 (fwFu s.2.2.2.1 s.2.1 (p : Int))) 16 0 (fwFu s.2.2.2.2 s.2.1 (mVl (mBy h) p)); unfold mKd mVl; first | (rw [if_pos cl, if_pos cl]; rfl) | (rw [if_neg cl, if_neg cl, if_pos cd, if_pos cd]; rfl) | (rw [if_neg cl, if_neg cl, if_neg cd, if_neg cd, if_pos (by omega)]; rfl) | (rw [if_neg cl, if_neg cl, if_neg cd, if_neg cd, if_neg (by omega)]; rfl))
        · have hst2 := hstep
          rw [if_neg (mLet_nb cl)] at hst2
          refine w_aload_n dX9_cutTokens_42 rfl ?_
          refine w_iload_n dX9_cutTokens_43 rfl ?_
          refine w_callV (d := d + 5) (S := []) [aI (p : Int)] dX9_cutTokens_44 ml_X9_40 ok_X9_wordEnd vi_X9_wordEnd rfl rfl (by decide) rfl (Nat.le_of_ble_eq_true rfl) ?_
          refine c_X9_wordEnd (d := (d + 4)) p hT5 (by omega) ?_
          show fwWP mX9_cutTokens (d + 6) 47 [some (aR 1 0), some (aI (p : Int)), some (aI (c : Int)), some (aI (mBy h p)), some (aI ((p : Int) + 1))] [aI ((mLetEnd (mBy h) p : Nat) : Int)] (fwUc (fwUc (fwUc (fwUc h 1 0 (fwFu (h 1 0) 5 (s.2.1 : Int))) 14 0 s.2.2.1) 15 0 s.2.2.2.1) 16 0 s.2.2.2.2) Q
          have hle : ((mLetEnd (mBy h) p : Nat) : Int) ≤ h 1 0 1 := mRun_le (q := mLet) (by decide) (by omega)
          refine w_istore [some (aR 1 0), some (aI (p : Int)), some (aI (c : Int)), some (aI (mBy h p)), some (aI ((mLetEnd (mBy h) p : Nat) : Int))] dX9_cutTokens_47 rfl (by decide) ?_
          refine w_aload_n dX9_cutTokens_49 rfl ?_
          refine w_aload_n dX9_cutTokens_50 rfl ?_
          refine w_iload_n dX9_cutTokens_51 rfl ?_
          refine w_iload dX9_cutTokens_52 rfl ?_
          refine w_callV (d := d + 5) (S := [aR 1 0]) [aI (p : Int), aI ((mLetEnd (mBy h) p : Nat) : Int)] dX9_cutTokens_54 ml_X9_43 ok_X9_wordKind vi_X9_wordKind rfl rfl (by decide) rfl (Nat.le_of_ble_eq_true rfl) ?_
          refine c_X9_wordKind (d := d) p (mLetEnd (mBy h) p) hT5 (by omega) (by omega) ?_
          show fwWP mX9_cutTokens (d + 6) 57 [some (aR 1 0), some (aI (p : Int)), some (aI (c : Int)), some (aI (mBy h p)), some (aI ((mLetEnd (mBy h) p : Nat) : Int))] [aI (mWk (mBy h) p (mLetEnd (mBy h) p)), aR 1 0] (fwUc (fwUc (fwUc (fwUc h 1 0 (fwFu (h 1 0) 5 (s.2.1 : Int))) 14 0 s.2.2.1) 15 0 s.2.2.2.1) 16 0 s.2.2.2.2) Q
          refine w_iload_n dX9_cutTokens_57 rfl ?_
          refine w_iconst dX9_cutTokens_58 ?_
          refine w_callV (d := d + 5) (S := []) [aI (mWk (mBy h) p (mLetEnd (mBy h) p)), aI (p : Int), aI 0] dX9_cutTokens_59 ml_X9_47 ok_X9_addToken vi_X9_addToken rfl rfl (by decide) rfl (Nat.le_of_ble_eq_true rfl) ?_
          refine c_addX (d := (d + 5)) s.2.1 (mWk (mBy h) p (mLetEnd (mBy h) p)) (p : Int) 0 rfl (by omega) ?_
          show fwWP mX9_cutTokens (d + 6) 62 [some (aR 1 0), some (aI (p : Int)), some (aI (c : Int)), some (aI (mBy h p)), some (aI ((mLetEnd (mBy h) p : Nat) : Int))] [] (fwUc (fwUc (fwUc (fwUc (fwUc (fwUc (fwUc (fwUc h 1 0 (fwFu (h 1 0) 5 (s.2.1 : Int))) 14 0 s.2.2.1) 15 0 s.2.2.2.1) 16 0 s.2.2.2.2) 1 0 (fwFu (fwFu (h 1 0) 5 (s.2.1 : Int)) 5 ((s.2.1 : Int) + 1))) 14 0 (fwFu s.2.2.1 s.2.1 (mWk (mBy h) p (mLetEnd (mBy h) p)))) 15 0 (fwFu s.2.2.2.1 s.2.1 (p : Int))) 16 0 (fwFu s.2.2.2.2 s.2.1 0)) Q
          rw [show fwUc (fwUc (fwUc (fwUc (fwUc (fwUc (fwUc (fwUc h 1 0 (fwFu (h 1 0) 5 (s.2.1 : Int))) 14 0 s.2.2.1) 15 0 s.2.2.2.1) 16 0 s.2.2.2.2) 1 0 (fwFu (fwFu (h 1 0) 5 (s.2.1 : Int)) 5 ((s.2.1 : Int) + 1))) 14 0 (fwFu s.2.2.1 s.2.1 (mWk (mBy h) p (mLetEnd (mBy h) p)))) 15 0 (fwFu s.2.2.2.1 s.2.1 (p : Int))) 16 0 (fwFu s.2.2.2.2 s.2.1 0) = (fwUc (fwUc (fwUc (fwUc h 1 0 (fwFu (fwFu (h 1 0) 5 (s.2.1 : Int)) 5 ((s.2.1 : Int) + 1))) 14 0 (fwFu s.2.2.1 s.2.1 (mWk (mBy h) p (mLetEnd (mBy h) p)))) 15 0 (fwFu s.2.2.2.1 s.2.1 (p : Int))) 16 0 (fwFu s.2.2.2.2 s.2.1 0)) from by funext a b; simp only [fwUc]; (repeat' split); all_goals first | rfl | (exfalso; omega)]
          refine w_goto 124 dX9_cutTokens_62 (by decide) ?_
          refine w_iload dX9_cutTokens_124 rfl ?_
          refine w_istore_n [some (aR 1 0), some (aI ((mLetEnd (mBy h) p : Nat) : Int)), some (aI (c : Int)), some (aI (mBy h p)), some (aI ((mLetEnd (mBy h) p : Nat) : Int))] dX9_cutTokens_126 rfl (by decide) ?_
          refine w_iinc [some (aR 1 0), some (aI ((mLetEnd (mBy h) p : Nat) : Int)), some (aI ((c : Int) + 1)), some (aI (mBy h p)), some (aI ((mLetEnd (mBy h) p : Nat) : Int))] dX9_cutTokens_127 rfl rfl (by decide) ?_
          refine w_goto 9 dX9_cutTokens_130 (by decide) ?_
          refine w_drop [3, 4] [some (aR 1 0), some (aI ((mLetEnd (mBy h) p : Nat) : Int)), some (aI ((c : Int) + 1)), none, none] rfl ?_
          refine ih9 (by omega) _ _ _ ?_ ?_ ?_
          · exact (by omega)
          · exact (by rw [hst2]; show _ = ((mNxt (mBy h) p : Nat) : Int); unfold mNxt; first | rw [if_pos cl] | rw [if_neg cl, if_pos cd] | (rw [if_neg cl, if_neg cd]; omega))
          · exact (by rw [hst2, fwFu5]; show _ = fwUc (fwUc (fwUc (fwUc h 1 0 (fwFu (h 1 0) 5 (((s.2.1 + 1 : Nat)) : Int))) 14 0 (fwFu s.2.2.1 s.2.1 (mKd (mBy h) p))) 15 0 (fwFu s.2.2.2.1 s.2.1 (p : Int))) 16 0 (fwFu s.2.2.2.2 s.2.1 (mVl (mBy h) p)); unfold mKd mVl; first | (rw [if_pos cl, if_pos cl]; rfl) | (rw [if_neg cl, if_neg cl, if_pos cd, if_pos cd]; rfl) | (rw [if_neg cl, if_neg cl, if_neg cd, if_neg cd, if_pos (by omega)]; rfl) | (rw [if_neg cl, if_neg cl, if_neg cd, if_neg cd, if_neg (by omega)]; rfl))
  refine lp9 0 (Nat.zero_le _) _ _ _ ?_ ?_ ?_
  · exact (by omega)
  · exact rfl
  · exact (by exact cutE0 h)
def mAdN (B : Nat → Int) (s : Nat) (x : Int) : Nat → (Nat → Int)
  | 0 => B
  | c + 1 => fwFu (mAdN B s x c) (s + c) (fwB8 (fwShr x (24 - 8 * (c : Int))))
theorem adnE0 (h : fwH) (x : Int) : h = fwUc (fwUc h 1 0 (fwFu (h 1 0) 1 (h 1 0 1 + ((0 : Nat) : Int)))) 13 0 (mAdN (h 13 0) (h 1 0 1).toNat x 0) := by
  rw [mAdN, show fwFu (h 1 0) 1 (h 1 0 1 + ((0 : Nat) : Int)) = h 1 0 from by
    funext s
    unfold fwFu
    split
    · rename_i e; subst e; omega
    · rfl, fwUc_self, fwUc_self]
set_option maxRecDepth 100000 in
set_option maxHeartbeats 4000000 in
theorem c_X9_addNumber {d : Nat} {h : fwH} {Q : Option fwV → fwH → Prop} (x : Int) (hT : 0 ≤ h 1 0 1 ∧ h 1 0 1 ≤ 896) (k : Q none (fwUc (fwUc h 1 0 (fwFu (h 1 0) 1 (h 1 0 1 + ((4 : Nat) : Int)))) 13 0 (mAdN (h 13 0) (h 1 0 1).toNat x 4))) : fwCt mX9_addNumber (d + 0) [aR 1 0, aI x] h Q := by
  refine fwCt_of [some (aR 1 0), some (aI x), none] rfl rfl rfl ?_
  refine w_bipush dX9_addNumber_0 rfl ?_
  refine w_istore_n [some (aR 1 0), some (aI x), some (aI 24)] dX9_addNumber_2 rfl (by decide) ?_
  have lp3 : ∀ c : Nat, c ≤ 4 → ∀ (y3  : Int) (hh3 : fwH), y3 = 24 - 8 * (c : Int) → hh3 = (fwUc (fwUc h 1 0 (fwFu (h 1 0) 1 (h 1 0 1 + (c : Int)))) 13 0 (mAdN (h 13 0) (h 1 0 1).toNat x c)) → fwWP mX9_addNumber (d + 0) 3 [some (aR 1 0), some (aI x), some (aI y3)] [] hh3 Q := by
    refine fw_up (fun c hc3 ih3 => ?_)
    intro y3  hh3 ey3 eh3
    subst ey3
    subst eh3
    show fwWP mX9_addNumber (d + 0) 3 [some (aR 1 0), some (aI x), some (aI (24 - 8 * (c : Int)))] [] (fwUc (fwUc h 1 0 (fwFu (h 1 0) 1 (h 1 0 1 + (c : Int)))) 13 0 (mAdN (h 13 0) (h 1 0 1).toNat x c)) Q
    refine w_iload_n dX9_addNumber_3 rfl ?_
    refine w_if_lt 55 dX9_addNumber_4 (by decide) (by omega) (fun c4 => ?_) (fun c4 => ?_)
    · have ec3 : 4 = c := by omega
      subst ec3
      exact w_vret dX9_addNumber_55 rfl (k)
    · refine w_aload_n dX9_addNumber_7 rfl ?_
      refine w_getiE (v := h 1 0 1 + (c : Int)) dX9_addNumber_8 fl_X9_25 rfl (by decide) rfl ?_
      refine w_if_lt 49 dX9_addNumber_11 (by decide) (by omega) (fun c11 => ?_) (fun c11 => ?_)
      · (exfalso; omega)
      · refine w_aload_n dX9_addNumber_14 rfl ?_
        refine w_getiE (v := h 1 0 1 + (c : Int)) dX9_addNumber_15 fl_X9_25 rfl (by decide) rfl ?_
        refine w_aload_n dX9_addNumber_18 rfl ?_
        refine w_getr 13 0 dX9_addNumber_19 fl_X9_9 rfl (by decide) ?_
        refine w_alen dX9_addNumber_22 rfl (by decide) (by decide) ?_
        refine w_icmp_ge 49 dX9_addNumber_23 (by decide) (by omega) (by omega) (fun c23 => ?_) (fun c23 => ?_)
        · (exfalso; omega)
        · refine w_aload_n dX9_addNumber_26 rfl ?_
          refine w_getr 13 0 dX9_addNumber_27 fl_X9_9 rfl (by decide) ?_
          refine w_aload_n dX9_addNumber_30 rfl ?_
          refine w_getiE (v := h 1 0 1 + (c : Int)) dX9_addNumber_31 fl_X9_25 rfl (by decide) rfl ?_
          refine w_iload_n dX9_addNumber_34 rfl ?_
          refine w_iload_n dX9_addNumber_35 rfl ?_
          refine w_ishr dX9_addNumber_36 ?_
          refine w_i2b dX9_addNumber_37 ?_
          have hb8 := fwB8_rng (fwShr x (24 - 8 * (c : Int)))
          refine w_bast dX9_addNumber_38 rfl (by decide) (by omega) (by omega) (by first | omega | exact fwB_01 _) ?_
          rw [show (fwUp (fwUc (fwUc h 1 0 (fwFu (h 1 0) 1 (h 1 0 1 + (c : Int)))) 13 0 (mAdN (h 13 0) (h 1 0 1).toNat x c)) 13 0 (h 1 0 1 + (c : Int)).toNat (fwB8 (fwShr x (24 - 8 * (c : Int))))) = (fwUc (fwUc (fwUc h 1 0 (fwFu (h 1 0) 1 (h 1 0 1 + (c : Int)))) 13 0 (mAdN (h 13 0) (h 1 0 1).toNat x c)) 13 0 (fwFu ((mAdN (h 13 0) (h 1 0 1).toNat x c)) (h 1 0 1 + (c : Int)).toNat (fwB8 (fwShr x (24 - 8 * (c : Int)))))) from fwUp_fu _ _ _ _ _]
          rw [show (fwUc (fwUc (fwUc h 1 0 (fwFu (h 1 0) 1 (h 1 0 1 + (c : Int)))) 13 0 (mAdN (h 13 0) (h 1 0 1).toNat x c)) 13 0 (fwFu ((mAdN (h 13 0) (h 1 0 1).toNat x c)) (h 1 0 1 + (c : Int)).toNat (fwB8 (fwShr x (24 - 8 * (c : Int)))))) = (fwUc (fwUc h 1 0 (fwFu (h 1 0) 1 (h 1 0 1 + (c : Int)))) 13 0 (fwFu ((mAdN (h 13 0) (h 1 0 1).toNat x c)) (h 1 0 1 + (c : Int)).toNat (fwB8 (fwShr x (24 - 8 * (c : Int)))))) from by funext a b; simp only [fwUc]; (repeat' split); all_goals first | rfl | (exfalso; omega)]
          rw [show (fwUc (fwUc h 1 0 (fwFu (h 1 0) 1 (h 1 0 1 + (c : Int)))) 13 0 (fwFu ((mAdN (h 13 0) (h 1 0 1).toNat x c)) (h 1 0 1 + (c : Int)).toNat (fwB8 (fwShr x (24 - 8 * (c : Int)))))) = (fwUc (fwUc h 1 0 (fwFu (h 1 0) 1 (h 1 0 1 + (c : Int)))) 13 0 (mAdN (h 13 0) (h 1 0 1).toNat x (c + 1))) from by rw [mAdN, show (h 1 0 1 + (c : Int)).toNat = (h 1 0 1).toNat + c by omega]]
          refine w_aload_n dX9_addNumber_39 rfl ?_
          refine w_dup dX9_addNumber_40 rfl ?_
          refine w_getiE (v := h 1 0 1 + (c : Int)) dX9_addNumber_41 fl_X9_25 rfl (by decide) rfl ?_
          refine w_iconst dX9_addNumber_44 ?_
          refine w_iadd dX9_addNumber_45 ?_
          refine w_puti dX9_addNumber_46 fl_X9_25 fp_1_1 rfl (by decide) ?_
          rw [show (fwUp (fwUc (fwUc h 1 0 (fwFu (h 1 0) 1 (h 1 0 1 + (c : Int)))) 13 0 (mAdN (h 13 0) (h 1 0 1).toNat x (c + 1))) 1 0 1 ((h 1 0 1 + (c : Int)) + 1)) = (fwUc (fwUc (fwUc h 1 0 (fwFu (h 1 0) 1 (h 1 0 1 + (c : Int)))) 13 0 (mAdN (h 13 0) (h 1 0 1).toNat x (c + 1))) 1 0 (fwFu ((fwFu (h 1 0) 1 (h 1 0 1 + (c : Int)))) 1 ((h 1 0 1 + (c : Int)) + 1))) from fwUp_fu _ _ _ _ _]
          rw [show (fwUc (fwUc (fwUc h 1 0 (fwFu (h 1 0) 1 (h 1 0 1 + (c : Int)))) 13 0 (mAdN (h 13 0) (h 1 0 1).toNat x (c + 1))) 1 0 (fwFu ((fwFu (h 1 0) 1 (h 1 0 1 + (c : Int)))) 1 ((h 1 0 1 + (c : Int)) + 1))) = (fwUc (fwUc h 1 0 (fwFu ((fwFu (h 1 0) 1 (h 1 0 1 + (c : Int)))) 1 ((h 1 0 1 + (c : Int)) + 1))) 13 0 (mAdN (h 13 0) (h 1 0 1).toNat x (c + 1))) from by funext a b; simp only [fwUc]; (repeat' split); all_goals first | rfl | (exfalso; omega)]
          rw [fwFu_fu]
          refine w_iinc [some (aR 1 0), some (aI x), some (aI ((24 - 8 * (c : Int)) + (-8)))] dX9_addNumber_49 rfl rfl (by decide) ?_
          refine w_goto 3 dX9_addNumber_52 (by decide) ?_
          refine ih3 (by omega) _ _ ?_ ?_
          · exact (by omega)
          · exact (by rw [show ((c + 1 : Nat) : Int) = (c : Int) + 1 by omega, Int.add_assoc])
  refine lp3 0 (Nat.zero_le _) _ _ ?_ ?_
  · exact (by omega)
  · exact (by exact adnE0 h x)
end
section
/-! what a text says: a pure reading of the TOKENS (kinds K, numbers V); the picture W has the law's other class's places: 0 CELLS, 1 snow, 2 rest, 3 law, 4 last, 5 heap, 6 FOLK, 7 lines, 9.. heights, 19.. facts -/
abbrev fwPq := (Int × Nat) ⊕ (Nat × (Nat → Int))
def qThen (a : fwPq) (f : Nat → (Nat → Int) → fwPq) : fwPq := match a with
  | .inl e => .inl e
  | .inr s => f s.1 s.2
def qWord (K : Nat → Int) (x : Int) (i : Nat) (W : Nat → Int) : fwPq := if K i = x then .inr (i + 1, W) else .inl (1, i)
def qNum (K V : Nat → Int) (lo hi : Int) (f : Int → Nat → (Nat → Int)) (i : Nat) : fwPq := if K i = 3 then (if lo ≤ V i ∧ V i ≤ hi then .inr (i + 1, f (V i) i) else .inl (2, i)) else .inl (1, i)
def qFact (K V : Nat → Int) (x lo hi : Int) (s i : Nat) (W : Nat → Int) : fwPq := qThen (qWord K x i W) (fun i W => qNum K V lo hi (fun v _ => fwFu W s v) i)
def qHts (K V : Nat → Int) : Nat → Nat → (Nat → Int) → fwPq
  | 0, i, _ => .inl (3, i)
  | n + 1, i, W => if K i = 3 then (if 0 ≤ V i ∧ V i ≤ 40 then (if n = 0 then .inl (3, i) else qHts K V n (i + 1) (fwFu (fwFu W (9 + (10 - n)) (V i)) 0 (((10 - n : Nat) : Int) + 1))) else .inl (2, i)) else (if 3 ≤ W 0 then .inr (i, W) else .inl (1, i))
def qSide (K : Nat → Int) (i : Nat) (W : Nat → Int) : fwPq := if K i = 16 then .inr (i + 1, fwFu W 4 1) else if K i = 15 then .inr (i + 1, fwFu W 4 0) else .inl (1, i)
def qFirst (K V : Nat → Int) (i : Nat) (W : Nat → Int) : fwPq :=
  qThen (qWord K 4 i W) (fun i W => qThen (qHts K V 11 i W) (fun i W => qThen (qFact K V 5 0 40 1 i W) (fun i W => qThen (qFact K V 6 1 40 2 i W) (fun i W => qThen (qFact K V 7 1 999 3 i W) (fun i W => qSide K i W)))))
def qBef (W : Nat → Int) (f g : Nat) : Nat → Int := fwFu (fwFu W (19 + (7 * f + 6)) (fwOr (W (19 + (7 * f + 6))) (fwShl 1 (g : Int)))) (19 + (7 * g + 6)) (fwOr ((fwFu W (19 + (7 * f + 6)) (fwOr (W (19 + (7 * f + 6))) (fwShl 1 (g : Int)))) (19 + (7 * g + 6))) (fwShl 1 (f : Int)))
def qTl (K V : Nat → Int) (f : Nat) : Nat → Nat → (Nat → Int) → fwPq
  | 0, i, W => .inr (i, W)
  | n + 1, i, W => if K i = 3 then (if 0 ≤ V i ∧ V i ≤ (f : Int) - 1 then qTl K V f n (i + 1) (qBef W f (V i).toNat) else .inl (2, i)) else .inr (i, W)
def qTalk (K V : Nat → Int) (f i : Nat) (W : Nat → Int) : fwPq :=
  qThen (qFact K V 12 1 7 (19 + (7 * f + 5)) i W) (fun i W => qThen (qWord K 13 i W) (fun i W => qThen (qNum K V 0 ((f : Int) - 1) (fun v _ => qBef W f v.toNat) i) (fun i W => qTl K V f 900 i W)))
def qFolk (K V : Nat → Int) (f i : Nat) (W : Nat → Int) : fwPq :=
  if 8 ≤ f then .inl (3, i) else
  qThen (qWord K 8 i (fwFu W 6 ((f : Int) + 1))) (fun i W => qThen (qFact K V 9 0 (W 0 - 1) (19 + (7 * f + 0)) i W) (fun i W => qThen (qFact K V 7 1 99 (19 + (7 * f + 1)) i W) (fun i W => qThen (qFact K V 10 0 9 (19 + (7 * f + 2)) i W) (fun i W => qThen (qFact K V 5 0 9 (19 + (7 * f + 3)) i W) (fun i W => qThen (qFact K V 11 0 9 (19 + (7 * f + 4)) i W) (fun i W => if K i = 12 then qTalk K V f i W else .inr (i, W)))))))
def qHeap (K V : Nat → Int) (i : Nat) (W : Nat → Int) : fwPq := qFact K V 14 0 (W 0 - 1) 5 i W
def qBody (K V : Nat → Int) (i : Nat) (W : Nat → Int) : fwPq := if W 7 = 0 then qFirst K V i W else if K i = 8 then qFolk K V (W 6).toNat i W else qHeap K V i W
def qLine (K V : Nat → Int) (i : Nat) (W : Nat → Int) : fwPq := qThen (qBody K V i W) (fun i W => qWord K 2 i W)
def qRun (K V : Nat → Int) : Nat → fwPq
  | 0 => .inr (0, fun _ => 0)
  | n + 1 => qThen (qRun K V n) (fun i W => if K i = 0 then .inr (i, W) else qThen (qLine K V i W) (fun i W => .inr (i, fwFu W 7 (W 7 + 1))))
/-! the Reader's own cells -/
def rR (h : fwH) (i : Nat) (fk fp : Int) : Nat → Int := fun s => if s = 2 then (i : Int) + 1 else if s = 3 then h 14 0 i else if s = 4 then h 15 0 i else if s = 5 then h 16 0 i else if s = 6 then fk else if s = 7 then fp else 0
def r3 (W : Nat → Int) : Nat → Int := fun s => if s = 3 then 0 else if s = 4 then W 3 else if s = 5 then W 5 else if s = 6 then W 7 else 0
def r4 (W : Nat → Int) : Nat → Int := fun s => if s = 1 then W 0 else if s = 2 then W 1 else if s = 3 then W 2 else if s = 4 then W 4 else 0
def r5 (W : Nat → Int) : Nat → Int := fun s => if s = 3 then W 6 else 0
def rH (h : fwH) (i : Nat) (fk fp : Int) (W H : Nat → Int) : fwH := fwUc (fwUc (fwUc (fwUc (fwUc (fwUc h 2 0 (rR h i fk fp)) 3 1 (r3 W)) 4 1 (r4 W)) 5 1 (r5 W)) 17 1 H) 18 1 (fun j => W (19 + j))
def rHg (H : Nat → Int) : Prop := ∀ c : Nat, c < 10 → 0 ≤ H c ∧ H c ≤ 40
def rHr (W H : Nat → Int) : Prop := rHg H ∧ ∀ c : Nat, (c : Int) < W 0 → c < 10 → H c = W (9 + c)
def tk (h : fwH) (T : Nat) : Prop := h 1 0 5 = (T : Int) + 1 ∧ T ≤ 900 ∧ h 14 0 T = 0 ∧ ∀ i : Nat, i ≤ T → (0 ≤ h 14 0 i ∧ h 14 0 i ≤ 16) ∧ 0 ≤ h 16 0 i ∧ h 16 0 i ≤ 1000000
def rK (h : fwH) (T : Nat) (Q : Option fwV → fwH → Prop) (q : fwPq) : Prop := (∀ (fk : Int) (j i : Nat) (W H : Nat → Int), q = .inl (fk, j) → j ≤ T → rHg H → Q (some (aI 0)) (rH h i fk (h 15 0 j) W H)) ∧ (∀ (i : Nat) (W H : Nat → Int), q = .inr (i, W) → i ≤ T → rHr W H → Q (some (aI 1)) (rH h i 0 (-1) W H))
theorem tk_lt {h : fwH} {T i : Nat} {x : Int} (hT : tk h T) (hi : i ≤ T) (e : h 14 0 i = x) (hx : x ≠ 0) : i < T := by
  rcases Nat.lt_or_ge i T with q | q
  · exact q
  · rw [show i = T by omega, hT.2.2.1] at e
    omega
theorem up_ext {h g : fwH} {k i j : Nat} {x : Int} (e1 : ∀ a b, ¬ (a = k ∧ b = i) → h a b = g a b) (e2 : fwFu (h k i) j x = g k i) : fwUp h k i j x = g := by
  funext a b
  by_cases e : a = k ∧ b = i
  · obtain ⟨rfl, rfl⟩ := e
    rw [← e2]
    funext s
    unfold fwUp fwFu
    simp
  · rw [← e1 a b e]
    funext s
    unfold fwUp
    rw [if_neg (fun q => e ⟨q.1, q.2.1⟩)]
theorem r3_fu {W : Nat → Int} {n : Nat} {x : Int} (h : n ≠ 3 ∧ n ≠ 5 ∧ n ≠ 7) : r3 (fwFu W n x) = r3 W := by
  funext s
  simp only [r3, fwFu, if_neg (Ne.symm h.1), if_neg (Ne.symm h.2.1), if_neg (Ne.symm h.2.2)]
theorem r4_fu {W : Nat → Int} {n : Nat} {x : Int} (h : n ≠ 0 ∧ n ≠ 1 ∧ n ≠ 2 ∧ n ≠ 4) : r4 (fwFu W n x) = r4 W := by
  funext s
  simp only [r4, fwFu, if_neg (Ne.symm h.1), if_neg (Ne.symm h.2.1), if_neg (Ne.symm h.2.2.1), if_neg (Ne.symm h.2.2.2)]
theorem r5_fu {W : Nat → Int} {n : Nat} {x : Int} (h : n ≠ 6) : r5 (fwFu W n x) = r5 W := by
  funext s
  simp only [r5, fwFu, if_neg (Ne.symm h)]
theorem rf_fu {W : Nat → Int} {n : Nat} {x : Int} (h : n < 19) : (fun j => fwFu W n x (19 + j)) = fun j => W (19 + j) := by
  funext s
  unfold fwFu
  rw [if_neg (by omega)]
theorem rH_fk (h : fwH) (i : Nat) (fk fp : Int) (W H : Nat → Int) (x : Int) : fwUp (rH h i fk fp W H) 2 0 6 x = rH h i x fp W H := by
  refine up_ext (fun a b hn => ?_) ?_
  · unfold rH
    simp only [fwUc, if_neg hn]
  · show fwFu (rR h i fk fp) 6 x = rR h i x fp
    funext s
    by_cases e : s = 6
    · subst e; simp [rR, fwFu]
    · simp [rR, fwFu, e]
theorem rH_fp (h : fwH) (i : Nat) (fk fp : Int) (W H : Nat → Int) (x : Int) : fwUp (rH h i fk fp W H) 2 0 7 x = rH h i fk x W H := by
  refine up_ext (fun a b hn => ?_) ?_
  · unfold rH
    simp only [fwUc, if_neg hn]
  · show fwFu (rR h i fk fp) 7 x = rR h i fk x
    funext s
    by_cases e : s = 7
    · subst e; simp [rR, fwFu]
    · simp [rR, fwFu, e]
theorem rH_law (h : fwH) (i : Nat) (fk fp : Int) (W H : Nat → Int) (x : Int) : fwUp (rH h i fk fp W H) 3 1 4 x = rH h i fk fp (fwFu W 3 x) H := by
  refine up_ext (fun a b hn => ?_) ?_
  · unfold rH
    rw [r4_fu (W := W) (n := 3) (x := x) (by decide)]
    rw [r5_fu (W := W) (n := 3) (x := x) (by decide)]
    rw [rf_fu (W := W) (n := 3) (x := x) (by decide)]
    simp only [fwUc, if_neg hn]
  · show fwFu (r3 W) 4 x = r3 (fwFu W 3 x)
    funext s
    by_cases e : s = 4
    · subst e; simp [r3, fwFu]
    · simp [r3, fwFu, e]
theorem rH_heap (h : fwH) (i : Nat) (fk fp : Int) (W H : Nat → Int) (x : Int) : fwUp (rH h i fk fp W H) 3 1 5 x = rH h i fk fp (fwFu W 5 x) H := by
  refine up_ext (fun a b hn => ?_) ?_
  · unfold rH
    rw [r4_fu (W := W) (n := 5) (x := x) (by decide)]
    rw [r5_fu (W := W) (n := 5) (x := x) (by decide)]
    rw [rf_fu (W := W) (n := 5) (x := x) (by decide)]
    simp only [fwUc, if_neg hn]
  · show fwFu (r3 W) 5 x = r3 (fwFu W 5 x)
    funext s
    by_cases e : s = 5
    · subst e; simp [r3, fwFu]
    · simp [r3, fwFu, e]
theorem rH_lines (h : fwH) (i : Nat) (fk fp : Int) (W H : Nat → Int) (x : Int) : fwUp (rH h i fk fp W H) 3 1 6 x = rH h i fk fp (fwFu W 7 x) H := by
  refine up_ext (fun a b hn => ?_) ?_
  · unfold rH
    rw [r4_fu (W := W) (n := 7) (x := x) (by decide)]
    rw [r5_fu (W := W) (n := 7) (x := x) (by decide)]
    rw [rf_fu (W := W) (n := 7) (x := x) (by decide)]
    simp only [fwUc, if_neg hn]
  · show fwFu (r3 W) 6 x = r3 (fwFu W 7 x)
    funext s
    by_cases e : s = 6
    · subst e; simp [r3, fwFu]
    · simp [r3, fwFu, e]
theorem rH_snow (h : fwH) (i : Nat) (fk fp : Int) (W H : Nat → Int) (x : Int) : fwUp (rH h i fk fp W H) 4 1 2 x = rH h i fk fp (fwFu W 1 x) H := by
  refine up_ext (fun a b hn => ?_) ?_
  · unfold rH
    rw [r3_fu (W := W) (n := 1) (x := x) (by decide)]
    rw [r5_fu (W := W) (n := 1) (x := x) (by decide)]
    rw [rf_fu (W := W) (n := 1) (x := x) (by decide)]
    simp only [fwUc, if_neg hn]
  · show fwFu (r4 W) 2 x = r4 (fwFu W 1 x)
    funext s
    by_cases e : s = 2
    · subst e; simp [r4, fwFu]
    · simp [r4, fwFu, e]
theorem rH_rest (h : fwH) (i : Nat) (fk fp : Int) (W H : Nat → Int) (x : Int) : fwUp (rH h i fk fp W H) 4 1 3 x = rH h i fk fp (fwFu W 2 x) H := by
  refine up_ext (fun a b hn => ?_) ?_
  · unfold rH
    rw [r3_fu (W := W) (n := 2) (x := x) (by decide)]
    rw [r5_fu (W := W) (n := 2) (x := x) (by decide)]
    rw [rf_fu (W := W) (n := 2) (x := x) (by decide)]
    simp only [fwUc, if_neg hn]
  · show fwFu (r4 W) 3 x = r4 (fwFu W 2 x)
    funext s
    by_cases e : s = 3
    · subst e; simp [r4, fwFu]
    · simp [r4, fwFu, e]
theorem rH_last (h : fwH) (i : Nat) (fk fp : Int) (W H : Nat → Int) (x : Int) : fwUp (rH h i fk fp W H) 4 1 4 x = rH h i fk fp (fwFu W 4 x) H := by
  refine up_ext (fun a b hn => ?_) ?_
  · unfold rH
    rw [r3_fu (W := W) (n := 4) (x := x) (by decide)]
    rw [r5_fu (W := W) (n := 4) (x := x) (by decide)]
    rw [rf_fu (W := W) (n := 4) (x := x) (by decide)]
    simp only [fwUc, if_neg hn]
  · show fwFu (r4 W) 4 x = r4 (fwFu W 4 x)
    funext s
    by_cases e : s = 4
    · subst e; simp [r4, fwFu]
    · simp [r4, fwFu, e]
theorem rH_size (h : fwH) (i : Nat) (fk fp : Int) (W H : Nat → Int) (x : Int) : fwUp (rH h i fk fp W H) 5 1 3 x = rH h i fk fp (fwFu W 6 x) H := by
  refine up_ext (fun a b hn => ?_) ?_
  · unfold rH
    rw [r3_fu (W := W) (n := 6) (x := x) (by decide)]
    rw [r4_fu (W := W) (n := 6) (x := x) (by decide)]
    rw [rf_fu (W := W) (n := 6) (x := x) (by decide)]
    simp only [fwUc, if_neg hn]
  · show fwFu (r5 W) 3 x = r5 (fwFu W 6 x)
    funext s
    by_cases e : s = 3
    · subst e; simp [r5, fwFu]
    · simp [r5, fwFu, e]
theorem rH_fact (h : fwH) (i : Nat) (fk fp : Int) (W H : Nat → Int) (j : Nat) (x : Int) : fwUp (rH h i fk fp W H) 18 1 j x = rH h i fk fp (fwFu W (19 + j) x) H := by
  refine up_ext (fun a b hn => ?_) ?_
  · unfold rH
    rw [r3_fu (W := W) (n := 19 + j) (x := x) (by omega), r4_fu (W := W) (n := 19 + j) (x := x) (by omega), r5_fu (W := W) (n := 19 + j) (x := x) (by omega)]
    simp only [fwUc, if_neg hn]
  · show fwFu (fun s => W (19 + s)) j x = fun s => fwFu W (19 + j) x (19 + s)
    funext s
    unfold fwFu
    by_cases e : s = j
    · rw [if_pos e, if_pos (by omega)]
    · rw [if_neg e, if_neg (by omega)]
theorem rH_cell (h : fwH) (i : Nat) (fk fp : Int) (W H : Nat → Int) (c : Nat) (hc : c < 10) (x y : Int) : fwUp (fwUp (rH h i fk fp W H) 17 1 c x) 4 1 1 y = rH h i fk fp (fwFu (fwFu W (9 + c) x) 0 y) (fwFu H c x) := by
  refine up_ext (fun a b hn => ?_) ?_
  · by_cases e : a = 17 ∧ b = 1
    · obtain ⟨rfl, rfl⟩ := e
      show fwUp (rH h i fk fp W H) 17 1 c x 17 1 = fwFu H c x
      funext s
      show (if 17 = 17 ∧ 1 = 1 ∧ s = c then x else H s) = fwFu H c x s
      unfold fwFu
      simp
    · unfold rH
      rw [r3_fu (n := 0) (x := y) (by omega), r3_fu (n := 9 + c) (x := x) (by omega), r5_fu (n := 0) (x := y) (by omega), r5_fu (n := 9 + c) (x := x) (by omega), rf_fu (n := 0) (x := y) (by omega), rf_fu (n := 9 + c) (x := x) (by omega)]
      funext s
      unfold fwUp
      rw [if_neg (fun q => e ⟨q.1, q.2.1⟩)]
      simp only [fwUc, if_neg hn, if_neg e]
  · show fwFu (r4 W) 1 y = r4 (fwFu (fwFu W (9 + c) x) 0 y)
    funext s
    have h1 : ¬ 1 = 9 + c := by omega
    have h2 : ¬ 2 = 9 + c := by omega
    have h4 : ¬ 4 = 9 + c := by omega
    by_cases e : s = 1
    · subst e; simp [r4, fwFu]
    · simp [r4, fwFu, e, h1, h2, h4]
def advH (h : fwH) (u : Nat) : fwH := fwUp (fwUp (fwUp (fwUp h 2 0 3 (h 14 0 u)) 2 0 4 (h 15 0 u)) 2 0 5 (h 16 0 u)) 2 0 2 ((u : Int) + 1)
theorem rH_adv (h : fwH) (i : Nat) (fk fp : Int) (W H : Nat → Int) : advH (rH h i fk fp W H) (i + 1) = rH h (i + 1) fk fp W H := by
  show fwUp (fwUp (fwUp (fwUp (rH h i fk fp W H) 2 0 3 (h 14 0 (i + 1))) 2 0 4 (h 15 0 (i + 1))) 2 0 5 (h 16 0 (i + 1))) 2 0 2 (((i + 1 : Nat) : Int) + 1) = _
  funext a b s
  by_cases e : a = 2 ∧ b = 0
  · obtain ⟨rfl, rfl⟩ := e
    show (if 2 = 2 ∧ 0 = 0 ∧ s = 2 then ((i + 1 : Nat) : Int) + 1 else if 2 = 2 ∧ 0 = 0 ∧ s = 5 then h 16 0 (i + 1) else if 2 = 2 ∧ 0 = 0 ∧ s = 4 then h 15 0 (i + 1) else if 2 = 2 ∧ 0 = 0 ∧ s = 3 then h 14 0 (i + 1) else rR h i fk fp s) = rR h (i + 1) fk fp s
    by_cases e2 : s = 2
    · subst e2; simp [rR]
    · by_cases e3 : s = 3
      · subst e3; simp [rR]
      · by_cases e4 : s = 4
        · subst e4; simp [rR]
        · by_cases e5 : s = 5
          · subst e5; simp [rR]
          · simp [rR, e2, e3, e4, e5]
  · unfold fwUp
    rw [if_neg (fun q => e ⟨q.1, q.2.1⟩), if_neg (fun q => e ⟨q.1, q.2.1⟩), if_neg (fun q => e ⟨q.1, q.2.1⟩), if_neg (fun q => e ⟨q.1, q.2.1⟩)]
    simp only [rH, fwUc, if_neg e]
theorem rHr_fu {W H : Nat → Int} (hH : rHr W H) {s : Nat} {x : Int} (h0 : s ≠ 0) (h1 : s < 9 ∨ 19 ≤ s) : rHr (fwFu W s x) H := by
  refine ⟨hH.1, fun c hc h10 => ?_⟩
  unfold fwFu at hc ⊢
  rw [if_neg (fun q => h0 q.symm)] at hc
  rw [if_neg (by omega)]
  exact hH.2 c hc h10
theorem rHr_bef {W H : Nat → Int} (hH : rHr W H) (f g : Nat) : rHr (qBef W f g) H := rHr_fu (rHr_fu hH (by omega) (by omega)) (by omega) (by omega)
set_option maxRecDepth 100000 in
set_option maxHeartbeats 4000000 in
theorem c_X5_advance {d : Nat} {h : fwH} {Q : Option fwV → fwH → Prop} (u : Nat) (hu : h 2 0 2 = (u : Int)) (hn : (u : Int) < h 1 0 5) (hm : h 1 0 5 ≤ 901) (k : Q none (advH h u)) : fwCt mX5_advance (d + 0) [aR 2 0] h Q := by
  refine fwCt_of [some (aR 2 0)] rfl rfl rfl ?_
  refine w_aload_n dX5_advance_0 rfl ?_
  refine w_getiE (v := (u : Int)) dX5_advance_1 fl_X5_37 rfl (by decide) hu ?_
  refine w_if_lt 94 dX5_advance_4 (by decide) (by omega) (fun c4 => ?_) (fun c4 => ?_)
  · (exfalso; omega)
  · refine w_aload_n dX5_advance_7 rfl ?_
    refine w_getiE (v := (u : Int)) dX5_advance_8 fl_X5_37 rfl (by decide) hu ?_
    refine w_aload_n dX5_advance_11 rfl ?_
    refine w_getr 1 0 dX5_advance_12 fl_X5_22 rfl (by decide) ?_
    refine w_getiE (v := h 1 0 5) dX5_advance_15 fl_X5_53 rfl (by decide) rfl ?_
    refine w_icmp_ge 94 dX5_advance_18 (by decide) (by omega) (by omega) (fun c18 => ?_) (fun c18 => ?_)
    · (exfalso; omega)
    · refine w_aload_n dX5_advance_21 rfl ?_
      refine w_getiE (v := (u : Int)) dX5_advance_22 fl_X5_37 rfl (by decide) hu ?_
      refine w_aload_n dX5_advance_25 rfl ?_
      refine w_getr 1 0 dX5_advance_26 fl_X5_22 rfl (by decide) ?_
      refine w_getr 14 0 dX5_advance_29 fl_X5_56 rfl (by decide) ?_
      refine w_alen dX5_advance_32 rfl (by decide) (by decide) ?_
      refine w_icmp_ge 94 dX5_advance_33 (by decide) (by omega) (by omega) (fun c33 => ?_) (fun c33 => ?_)
      · (exfalso; omega)
      · refine w_aload_n dX5_advance_36 rfl ?_
        refine w_aload_n dX5_advance_37 rfl ?_
        refine w_getr 1 0 dX5_advance_38 fl_X5_22 rfl (by decide) ?_
        refine w_getr 14 0 dX5_advance_41 fl_X5_56 rfl (by decide) ?_
        refine w_aload_n dX5_advance_44 rfl ?_
        refine w_getiE (v := (u : Int)) dX5_advance_45 fl_X5_37 rfl (by decide) hu ?_
        refine w_ialdE (v := h 14 0 u) dX5_advance_48 rfl (by decide) (by omega) (by omega) rfl ?_
        refine w_puti dX5_advance_49 fl_X5_43 fp_2_3 rfl (by decide) ?_
        refine w_aload_n dX5_advance_52 rfl ?_
        refine w_aload_n dX5_advance_53 rfl ?_
        refine w_getr 1 0 dX5_advance_54 fl_X5_22 rfl (by decide) ?_
        refine w_getr 15 0 dX5_advance_57 fl_X5_60 rfl (by decide) ?_
        refine w_aload_n dX5_advance_60 rfl ?_
        refine w_getiE (v := (u : Int)) dX5_advance_61 fl_X5_37 rfl (by decide) (by first | exact hu | (show h 2 0 2 = _; exact hu)) ?_
        refine w_ialdE (v := h 15 0 u) dX5_advance_64 rfl (by decide) (by omega) (by omega) rfl ?_
        refine w_puti dX5_advance_65 fl_X5_63 fp_2_4 rfl (by decide) ?_
        refine w_aload_n dX5_advance_68 rfl ?_
        refine w_aload_n dX5_advance_69 rfl ?_
        refine w_getr 1 0 dX5_advance_70 fl_X5_22 rfl (by decide) ?_
        refine w_getr 16 0 dX5_advance_73 fl_X5_66 rfl (by decide) ?_
        refine w_aload_n dX5_advance_76 rfl ?_
        refine w_getiE (v := (u : Int)) dX5_advance_77 fl_X5_37 rfl (by decide) (by first | exact hu | (show h 2 0 2 = _; exact hu)) ?_
        refine w_ialdE (v := h 16 0 u) dX5_advance_80 rfl (by decide) (by omega) (by omega) rfl ?_
        refine w_puti dX5_advance_81 fl_X5_69 fp_2_5 rfl (by decide) ?_
        refine w_aload_n dX5_advance_84 rfl ?_
        refine w_dup dX5_advance_85 rfl ?_
        refine w_getiE (v := (u : Int)) dX5_advance_86 fl_X5_37 rfl (by decide) (by first | exact hu | (show h 2 0 2 = _; exact hu)) ?_
        refine w_iconst dX5_advance_89 ?_
        refine w_iadd dX5_advance_90 ?_
        refine w_puti dX5_advance_91 fl_X5_37 fp_2_2 rfl (by decide) ?_
        exact w_vret dX5_advance_94 rfl k
theorem c_adv {d : Nat} {h : fwH} {Q : Option fwV → fwH → Prop} (i T : Nat) (fk fp : Int) (W H : Nat → Int) (hT : tk h T) (hi : i < T) (k : Q none (rH h (i + 1) fk fp W H)) : fwCt mX5_advance d [aR 2 0] (rH h i fk fp W H) Q := by
  have h1 : h 1 0 5 = (T : Int) + 1 := hT.1
  have h2 : T ≤ 900 := hT.2.1
  refine c_X5_advance (h := rH h i fk fp W H) (i + 1) rfl (by show _ < h 1 0 5; omega) (by show h 1 0 5 ≤ 901; omega) ?_
  rw [rH_adv]
  exact k
set_option maxRecDepth 100000 in
set_option maxHeartbeats 4000000 in
theorem c_X5_refuse {d : Nat} {h : fwH} {Q : Option fwV → fwH → Prop} (i : Nat) (fk fp x : Int) (W H : Nat → Int)  (k : Q (some (aI 0)) (rH h i x (h 15 0 i) W H)) : fwCt mX5_refuse (d + 0) [aR 2 0, aI x] (rH h i fk fp W H) Q := by
  refine fwCt_of [some (aR 2 0), some (aI x)] rfl rfl rfl ?_
  refine w_aload_n dX5_refuse_0 rfl ?_
  refine w_iload_n dX5_refuse_1 rfl ?_
  refine w_puti dX5_refuse_2 fl_X5_34 fp_2_6 rfl (by decide) ?_
  rw [show (fwUp (rH h i fk fp W H) 2 0 6 x) = (rH h i x fp W H) from rH_fk _ _ _ _ _ _ _]
  refine w_aload_n dX5_refuse_5 rfl ?_
  refine w_aload_n dX5_refuse_6 rfl ?_
  refine w_getiE (v := h 15 0 i) dX5_refuse_7 fl_X5_63 rfl (by decide) rfl ?_
  refine w_puti dX5_refuse_10 fl_X5_18 fp_2_7 rfl (by decide) ?_
  rw [show (fwUp (rH h i x fp W H) 2 0 7 (h 15 0 i)) = (rH h i x (h 15 0 i) W H) from rH_fp _ _ _ _ _ _ _]
  refine w_iconst dX5_refuse_13 ?_
  exact w_zret dX5_refuse_14 rfl (Or.inl rfl) k
def wK (h : fwH) (i : Nat) (x : Int) (W H : Nat → Int) (Q : Option fwV → fwH → Prop) : Prop := (¬ h 14 0 i = x → Q (some (aI 0)) (rH h i 1 (h 15 0 i) W H)) ∧ (h 14 0 i = x → Q (some (aI 1)) (rH h (i + 1) 0 (-1) W H))
set_option maxRecDepth 100000 in
set_option maxHeartbeats 4000000 in
theorem c_X5_pass {d : Nat} {h : fwH} {Q : Option fwV → fwH → Prop} (i T : Nat) (x : Int) (W H : Nat → Int) (hT : tk h T) (hi : i ≤ T) (hx : 1 ≤ x ∧ x ≤ 16) (k : wK h i x W H Q) : fwCt mX5_pass (d + 1) [aR 2 0, aI x] (rH h i 0 (-1) W H) Q := by
  refine fwCt_of [some (aR 2 0), some (aI x)] rfl rfl rfl ?_
  obtain ⟨t1, t2, t3, t4⟩ := id hT
  have hkr := (t4 i hi).1
  refine w_aload_n dX5_pass_0 rfl ?_
  refine w_getiE (v := h 14 0 i) dX5_pass_1 fl_X5_43 rfl (by decide) rfl ?_
  refine w_iload_n dX5_pass_4 rfl ?_
  refine w_icmp_eq 14 dX5_pass_5 (by decide) (by omega) (by omega) (fun ce => ?_) (fun ce => ?_)
  · have hlt := tk_lt hT hi ce (by omega)
    refine w_aload_n dX5_pass_14 rfl ?_
    refine w_callV (d := d + 0) (S := []) [] dX5_pass_15 ml_X5_40 ok_X5_advance vi_X5_advance rfl rfl (by decide) rfl (Nat.le_of_ble_eq_true rfl) ?_
    refine c_adv (d := d) i T 0 (-1) W H hT (by first | assumption | omega) ?_
    show fwWP mX5_pass (d + 1) 18 [some (aR 2 0), some (aI x)] [] (rH h (i + 1) 0 (-1) W H) Q
    refine w_iconst dX5_pass_18 ?_
    exact w_zret dX5_pass_19 rfl (Or.inr rfl) (k.2 ce)
  · refine w_aload_n dX5_pass_8 rfl ?_
    refine w_iconst dX5_pass_9 ?_
    refine w_callV (d := d + 0) (S := []) [aI 1] dX5_pass_10 ml_X5_72 ok_X5_refuse vi_X5_refuse rfl rfl (by decide) rfl (Nat.le_of_ble_eq_true rfl) ?_
    refine c_X5_refuse (d := d) i 0 (-1) 1 W H ?_
    show fwWP mX5_pass (d + 1) 13 [some (aR 2 0), some (aI x)] [aI 0] (rH h i 1 (h 15 0 i) W H) Q
    exact w_zret dX5_pass_13 rfl (Or.inl rfl) (k.1 ce)
def nK (h : fwH) (i : Nat) (lo hi : Int) (W H : Nat → Int) (Q : Option fwV → fwH → Prop) : Prop := (¬ h 14 0 i = 3 → Q (some (aI 0)) (rH h i 1 (h 15 0 i) W H)) ∧ (h 14 0 i = 3 → ¬ (lo ≤ h 16 0 i ∧ h 16 0 i ≤ hi) → Q (some (aI 0)) (rH h i 2 (h 15 0 i) W H)) ∧ (h 14 0 i = 3 → (lo ≤ h 16 0 i ∧ h 16 0 i ≤ hi) → Q (some (aI 1)) (rH h i 0 (-1) W H))
set_option maxRecDepth 100000 in
set_option maxHeartbeats 4000000 in
theorem c_X5_isNumber {d : Nat} {h : fwH} {Q : Option fwV → fwH → Prop} (i T : Nat) (lo up : Int) (W H : Nat → Int) (hT : tk h T) (hi : i ≤ T) (hlo : -1000000 ≤ lo ∧ lo ≤ 1000000) (hup : -1000000 ≤ up ∧ up ≤ 1000000) (k : nK h i lo up W H Q) : fwCt mX5_isNumber (d + 1) [aR 2 0, aI lo, aI up] (rH h i 0 (-1) W H) Q := by
  refine fwCt_of [some (aR 2 0), some (aI lo), some (aI up)] rfl rfl rfl ?_
  obtain ⟨t1, t2, t3, t4⟩ := id hT
  have hkr := t4 i hi
  refine w_aload_n dX5_isNumber_0 rfl ?_
  refine w_getiE (v := h 14 0 i) dX5_isNumber_1 fl_X5_43 rfl (by decide) rfl ?_
  refine w_iconst dX5_isNumber_4 ?_
  refine w_icmp_eq 14 dX5_isNumber_5 (by decide) (by omega) (by omega) (fun ce => ?_) (fun ce => ?_)
  · refine w_aload_n dX5_isNumber_14 rfl ?_
    refine w_getiE (v := h 16 0 i) dX5_isNumber_15 fl_X5_69 rfl (by decide) rfl ?_
    refine w_iload_n dX5_isNumber_18 rfl ?_
    refine w_icmp_lt 30 dX5_isNumber_19 (by decide) (by omega) (by omega) (fun c19 => ?_) (fun c19 => ?_)
    · refine w_aload_n dX5_isNumber_30 rfl ?_
      refine w_iconst dX5_isNumber_31 ?_
      refine w_callV (d := d + 0) (S := []) [aI 2] dX5_isNumber_32 ml_X5_72 ok_X5_refuse vi_X5_refuse rfl rfl (by decide) rfl (Nat.le_of_ble_eq_true rfl) ?_
      refine c_X5_refuse (d := d) i 0 (-1) 2 W H ?_
      show fwWP mX5_isNumber (d + 1) 35 [some (aR 2 0), some (aI lo), some (aI up)] [aI 0] (rH h i 2 (h 15 0 i) W H) Q
      refine w_if_eq 42 dX5_isNumber_35 (by decide) (by omega) (fun c35 => ?_) (fun c35 => ?_)
      · refine w_iconst dX5_isNumber_42 ?_
        exact w_zret dX5_isNumber_43 rfl (Or.inl rfl) (k.2.1 ce (by omega))
      · (exfalso; omega)
    · refine w_aload_n dX5_isNumber_22 rfl ?_
      refine w_getiE (v := h 16 0 i) dX5_isNumber_23 fl_X5_69 rfl (by decide) rfl ?_
      refine w_iload_n dX5_isNumber_26 rfl ?_
      refine w_icmp_le 38 dX5_isNumber_27 (by decide) (by omega) (by omega) (fun c27 => ?_) (fun c27 => ?_)
      · refine w_iconst dX5_isNumber_38 ?_
        refine w_goto 43 dX5_isNumber_39 (by decide) ?_
        exact w_zret dX5_isNumber_43 rfl (Or.inr rfl) (k.2.2 ce (by omega))
      · refine w_aload_n dX5_isNumber_30 rfl ?_
        refine w_iconst dX5_isNumber_31 ?_
        refine w_callV (d := d + 0) (S := []) [aI 2] dX5_isNumber_32 ml_X5_72 ok_X5_refuse vi_X5_refuse rfl rfl (by decide) rfl (Nat.le_of_ble_eq_true rfl) ?_
        refine c_X5_refuse (d := d) i 0 (-1) 2 W H ?_
        show fwWP mX5_isNumber (d + 1) 35 [some (aR 2 0), some (aI lo), some (aI up)] [aI 0] (rH h i 2 (h 15 0 i) W H) Q
        refine w_if_eq 42 dX5_isNumber_35 (by decide) (by omega) (fun c35 => ?_) (fun c35 => ?_)
        · refine w_iconst dX5_isNumber_42 ?_
          exact w_zret dX5_isNumber_43 rfl (Or.inl rfl) (k.2.1 ce (by omega))
        · (exfalso; omega)
  · refine w_aload_n dX5_isNumber_8 rfl ?_
    refine w_iconst dX5_isNumber_9 ?_
    refine w_callV (d := d + 0) (S := []) [aI 1] dX5_isNumber_10 ml_X5_72 ok_X5_refuse vi_X5_refuse rfl rfl (by decide) rfl (Nat.le_of_ble_eq_true rfl) ?_
    refine c_X5_refuse (d := d) i 0 (-1) 1 W H ?_
    show fwWP mX5_isNumber (d + 1) 13 [some (aR 2 0), some (aI lo), some (aI up)] [aI 0] (rH h i 1 (h 15 0 i) W H) Q
    exact w_zret dX5_isNumber_13 rfl (Or.inl rfl) (k.1 ce)
set_option maxRecDepth 100000 in
set_option maxHeartbeats 4000000 in
theorem c_X5_passNumber {d : Nat} {h : fwH} {Q : Option fwV → fwH → Prop} (i T : Nat) (W H : Nat → Int) (hT : tk h T) (hi : i < T) (k : Q (some (aI (h 16 0 i))) (rH h (i + 1) 0 (-1) W H)) : fwCt mX5_passNumber (d + 1) [aR 2 0] (rH h i 0 (-1) W H) Q := by
  refine fwCt_of [some (aR 2 0), none] rfl rfl rfl ?_
  refine w_aload_n dX5_passNumber_0 rfl ?_
  refine w_getiE (v := h 16 0 i) dX5_passNumber_1 fl_X5_69 rfl (by decide) rfl ?_
  refine w_istore_n [some (aR 2 0), some (aI (h 16 0 i))] dX5_passNumber_4 rfl (by decide) ?_
  refine w_aload_n dX5_passNumber_5 rfl ?_
  refine w_callV (d := d + 0) (S := []) [] dX5_passNumber_6 ml_X5_40 ok_X5_advance vi_X5_advance rfl rfl (by decide) rfl (Nat.le_of_ble_eq_true rfl) ?_
  refine c_adv (d := d) i T 0 (-1) W H hT (by first | assumption | omega) ?_
  show fwWP mX5_passNumber (d + 1) 9 [some (aR 2 0), some (aI (h 16 0 i))] [] (rH h (i + 1) 0 (-1) W H) Q
  refine w_iload_n dX5_passNumber_9 rfl ?_
  exact w_iret dX5_passNumber_10 rfl k
set_option maxRecDepth 100000 in
set_option maxHeartbeats 4000000 in
theorem c_X5_readFact {d : Nat} {h : fwH} {Q : Option fwV → fwH → Prop} (i T f w : Nat) (x lo up : Int) (W H : Nat → Int) (hT : tk h T) (hi : i ≤ T) (hf : f < 8) (hw : w < 7) (hx : 1 ≤ x ∧ x ≤ 16) (hlo : -1000000 ≤ lo ∧ lo ≤ 1000000) (hup : -1000000 ≤ up ∧ up ≤ 1000000) (hH : rHr W H) (k : rK h T Q (qFact (h 14 0) (h 16 0) x lo up (19 + (7 * f + w)) i W)) : fwCt mX5_readFact (d + 2) [aR 2 0, aI (f : Int), aI x, aI (w : Int), aI lo, aI up] (rH h i 0 (-1) W H) Q := by
  refine fwCt_of [some (aR 2 0), some (aI (f : Int)), some (aI x), some (aI (w : Int)), some (aI lo), some (aI up)] rfl rfl rfl ?_
  obtain ⟨t1, t2, t3, t4⟩ := id hT
  refine w_aload_n dX5_readFact_0 rfl ?_
  refine w_iload_n dX5_readFact_1 rfl ?_
  refine w_callV (d := d + 1) (S := []) [aI x] dX5_readFact_2 ml_X5_85 ok_X5_pass vi_X5_pass rfl rfl (by decide) rfl (Nat.le_of_ble_eq_true rfl) ?_
  refine c_X5_pass (d := d) i T x W H hT hi (by omega) ⟨fun n1 => ?_, fun n1 => ?_⟩
  · show fwWP mX5_readFact (d + 2) 5 [some (aR 2 0), some (aI (f : Int)), some (aI x), some (aI (w : Int)), some (aI lo), some (aI up)] [aI 0] (rH h i 1 (h 15 0 i) W H) Q
    refine w_if_eq 19 dX5_readFact_5 (by decide) (by omega) (fun c5 => ?_) (fun c5 => ?_)
    · refine w_iconst dX5_readFact_19 ?_
      exact w_zret dX5_readFact_20 rfl (Or.inl rfl) (k.1 _ _ _ _ _ (by simp only [qFact, qNum, qWord, qThen, if_neg n1]) (by first | assumption | omega) hH.1)
    · (exfalso; omega)
  · have hl1 : i < T := tk_lt hT (by first | assumption | omega) n1 (by omega)
    show fwWP mX5_readFact (d + 2) 5 [some (aR 2 0), some (aI (f : Int)), some (aI x), some (aI (w : Int)), some (aI lo), some (aI up)] [aI 1] (rH h (i + 1) 0 (-1) W H) Q
    refine w_if_eq 19 dX5_readFact_5 (by decide) (by omega) (fun c5 => ?_) (fun c5 => ?_)
    · (exfalso; omega)
    · refine w_aload_n dX5_readFact_8 rfl ?_
      refine w_iload dX5_readFact_9 rfl ?_
      refine w_iload dX5_readFact_11 rfl ?_
      refine w_callV (d := d + 1) (S := []) [aI lo, aI up] dX5_readFact_13 ml_X5_96 ok_X5_isNumber vi_X5_isNumber rfl rfl (by decide) rfl (Nat.le_of_ble_eq_true rfl) ?_
      refine c_X5_isNumber (d := d) (i + 1) T lo up W H hT (by omega) (by omega) (by omega) ⟨fun n2 => ?_, fun n2 r2 => ?_, fun n2 r2 => ?_⟩
      · show fwWP mX5_readFact (d + 2) 16 [some (aR 2 0), some (aI (f : Int)), some (aI x), some (aI (w : Int)), some (aI lo), some (aI up)] [aI 0] (rH h (i + 1) 1 (h 15 0 (i + 1)) W H) Q
        refine w_if_ne 21 dX5_readFact_16 (by decide) (by omega) (fun c16 => ?_) (fun c16 => ?_)
        · (exfalso; omega)
        · refine w_iconst dX5_readFact_19 ?_
          exact w_zret dX5_readFact_20 rfl (Or.inl rfl) (k.1 _ _ _ _ _ (by simp only [qFact, qNum, qWord, qThen, if_pos n1, if_neg n2]) (by first | assumption | omega) hH.1)
      · show fwWP mX5_readFact (d + 2) 16 [some (aR 2 0), some (aI (f : Int)), some (aI x), some (aI (w : Int)), some (aI lo), some (aI up)] [aI 0] (rH h (i + 1) 2 (h 15 0 (i + 1)) W H) Q
        refine w_if_ne 21 dX5_readFact_16 (by decide) (by omega) (fun c16 => ?_) (fun c16 => ?_)
        · (exfalso; omega)
        · refine w_iconst dX5_readFact_19 ?_
          exact w_zret dX5_readFact_20 rfl (Or.inl rfl) (k.1 _ _ _ _ _ (by simp only [qFact, qNum, qWord, qThen, if_pos n1, if_pos n2, if_neg r2]) (by first | assumption | omega) hH.1)
      · show fwWP mX5_readFact (d + 2) 16 [some (aR 2 0), some (aI (f : Int)), some (aI x), some (aI (w : Int)), some (aI lo), some (aI up)] [aI 1] (rH h (i + 1) 0 (-1) W H) Q
        refine w_if_ne 21 dX5_readFact_16 (by decide) (by omega) (fun c16 => ?_) (fun c16 => ?_)
        · refine w_aload_n dX5_readFact_21 rfl ?_
          refine w_getr 3 1 dX5_readFact_22 fl_X5_12 rfl (by decide) ?_
          refine w_getr 5 1 dX5_readFact_25 fl_X5_126 rfl (by decide) ?_
          refine w_iload_n dX5_readFact_28 rfl ?_
          refine w_iload_n dX5_readFact_29 rfl ?_
          refine w_aload_n dX5_readFact_30 rfl ?_
          refine w_callV (d := d + 1) (S := [aI (w : Int), aI (f : Int), aR 5 1]) [] dX5_readFact_31 ml_X5_100 ok_X5_passNumber vi_X5_passNumber rfl rfl (by decide) rfl (Nat.le_of_ble_eq_true rfl) ?_
          have hln2 : (i + 1) < T := tk_lt hT (by first | assumption | omega) n2 (by omega)
          refine c_X5_passNumber (d := d) (i + 1) T W H hT hln2 ?_
          show fwWP mX5_readFact (d + 2) 34 [some (aR 2 0), some (aI (f : Int)), some (aI x), some (aI (w : Int)), some (aI lo), some (aI up)] [aI (h 16 0 (i + 1)), aI (w : Int), aI (f : Int), aR 5 1] (rH h ((i + 1) + 1) 0 (-1) W H) Q
          refine w_callV (d := d + 1) (S := []) [aI (f : Int), aI (w : Int), aI (h 16 0 (i + 1))] dX5_readFact_34 ml_X5_142 ok_X3_setFact vi_X3_setFact rfl rfl (by decide) rfl (Nat.le_of_ble_eq_true rfl) ?_
          refine c_X3_setFact (d := (d + 1)) 1 f w (h 16 0 (i + 1)) (by decide) (by omega) (by omega) ?_
          show fwWP mX5_readFact (d + 2) 37 [some (aR 2 0), some (aI (f : Int)), some (aI x), some (aI (w : Int)), some (aI lo), some (aI up)] [] (fwUp (rH h ((i + 1) + 1) 0 (-1) W H) 18 1 (7 * f + w) (h 16 0 (i + 1))) Q
          rw [rH_fact]
          refine w_iconst dX5_readFact_37 ?_
          exact w_zret dX5_readFact_38 rfl (Or.inr rfl) (k.2 _ _ _ (by simp only [qFact, qNum, qWord, qThen, if_pos n1, if_pos n2, if_pos r2]) (by first | assumption | omega) (rHr_fu hH (by omega) (by omega)))
        · (exfalso; omega)
theorem rHr_cell {W H : Nat → Int} {c : Nat} {x : Int} (hH : rHr W H) (h0 : W 0 = (c : Int)) (hc : c < 10) (hx : 0 ≤ x ∧ x ≤ 40) : rHr (fwFu (fwFu W (9 + c) x) 0 ((c : Int) + 1)) (fwFu H c x) := by
  refine ⟨fun a h10 => ?_, fun a ha h10 => ?_⟩
  · unfold fwFu
    split
    · exact hx
    · exact hH.1 a h10
  have h1 : (a : Int) < (c : Int) + 1 := ha
  unfold fwFu
  rw [if_neg (show ¬ 9 + a = 0 by omega)]
  by_cases e : a = c
  · subst e
    rw [if_pos rfl, if_pos rfl]
  · rw [if_neg e, if_neg (by omega)]
    exact hH.2 a (by omega) h10
set_option maxRecDepth 100000 in
set_option maxHeartbeats 4000000 in
theorem c_X5_readHeights {d : Nat} {h : fwH} {Q : Option fwV → fwH → Prop} (i T : Nat) (W H : Nat → Int) (hT : tk h T) (hi : i ≤ T) (h0 : W 0 = 0) (hH : rHr W H) (k : rK h T Q (qHts (h 14 0) (h 16 0) 11 i W)) : fwCt mX5_readHeights (d + 2) [aR 2 0, aR 4 1] (rH h i 0 (-1) W H) Q := by
  refine fwCt_of [some (aR 2 0), some (aR 4 1), none] rfl rfl rfl ?_
  obtain ⟨t1, t2, t3, t4⟩ := id hT
  refine w_iconst dX5_readHeights_0 ?_
  refine w_istore_n [some (aR 2 0), some (aR 4 1), some (aI 0)] dX5_readHeights_1 rfl (by decide) ?_
  have lp2 : ∀ c : Nat, c ≤ 10 → ∀ (y : Int) (i9002 : Nat) (W9002 H9002 : Nat → Int), y = (c : Int) → i9002 ≤ T → rHr W9002 H9002 → (W9002 0 = (c : Int) ∧ qHts (h 14 0) (h 16 0) 11 i W = qHts (h 14 0) (h 16 0) (11 - c) i9002 W9002) → fwWP mX5_readHeights (d + 2) 2 [some (aR 2 0), some (aR 4 1), some (aI y)] [] (rH h i9002 0 (-1) W9002 H9002) Q := by
    refine fw_up (fun c hc2 ih2 => ?_)
    intro y i9002 W9002 H9002 ey hi9002 hH9002 iv2
    subst ey
    obtain ⟨iv0, ivq⟩ := iv2
    have iv2 := And.intro iv0 ivq
    have hkr := t4 i9002 hi9002
    show fwWP mX5_readHeights (d + 2) 2 [some (aR 2 0), some (aR 4 1), some (aI (c : Int))] [] (rH h i9002 0 (-1) W9002 H9002) Q
    refine w_iload_n dX5_readHeights_2 rfl ?_
    refine w_bipush dX5_readHeights_3 rfl ?_
    refine w_icmp_gt 54 dX5_readHeights_5 (by decide) (by omega) (by omega) (fun c5 => ?_) (fun c5 => ?_)
    · (exfalso; omega)
    · refine w_aload_n dX5_readHeights_8 rfl ?_
      refine w_getiE (v := h 14 0 i9002) dX5_readHeights_9 fl_X5_43 rfl (by decide) rfl ?_
      refine w_iconst dX5_readHeights_12 ?_
      refine w_icmp_ne 54 dX5_readHeights_13 (by decide) (by omega) (by omega) (fun c13 => ?_) (fun c13 => ?_)
      · refine w_aload_n dX5_readHeights_54 rfl ?_
        refine w_getiE (v := W9002 0) dX5_readHeights_55 fl_X5_123 rfl (by decide) rfl ?_
        refine w_iconst dX5_readHeights_58 ?_
        refine w_icmp_ge 70 dX5_readHeights_59 (by decide) (by omega) (by omega) (fun c59 => ?_) (fun c59 => ?_)
        · refine w_iconst dX5_readHeights_70 ?_
          refine w_goto 75 dX5_readHeights_71 (by decide) ?_
          exact w_zret dX5_readHeights_75 rfl (Or.inr rfl) (k.2 _ _ _ (by rw [ivq, show 11 - c = (10 - c) + 1 by omega, qHts, if_neg c13, if_pos (by omega)]) (by omega) hH9002)
        · refine w_aload_n dX5_readHeights_62 rfl ?_
          refine w_iconst dX5_readHeights_63 ?_
          refine w_callV (d := d + 1) (S := []) [aI 1] dX5_readHeights_64 ml_X5_72 ok_X5_refuse vi_X5_refuse rfl rfl (by decide) rfl (Nat.le_of_ble_eq_true rfl) ?_
          refine c_X5_refuse (d := (d + 1)) i9002 0 (-1) 1 W9002 H9002 ?_
          show fwWP mX5_readHeights (d + 2) 67 [some (aR 2 0), some (aR 4 1), some (aI (c : Int))] [aI 0] (rH h i9002 1 (h 15 0 i9002) W9002 H9002) Q
          refine w_if_eq 74 dX5_readHeights_67 (by decide) (by omega) (fun c67 => ?_) (fun c67 => ?_)
          · refine w_iconst dX5_readHeights_74 ?_
            exact w_zret dX5_readHeights_75 rfl (Or.inl rfl) (k.1 _ _ _ _ _ (by rw [ivq, show 11 - c = (10 - c) + 1 by omega, qHts, if_neg c13, if_neg (by omega)]) (by omega) hH9002.1)
          · (exfalso; omega)
      · refine w_aload_n dX5_readHeights_16 rfl ?_
        refine w_iconst dX5_readHeights_17 ?_
        refine w_bipush dX5_readHeights_18 rfl ?_
        refine w_callV (d := d + 1) (S := []) [aI 0, aI 40] dX5_readHeights_20 ml_X5_96 ok_X5_isNumber vi_X5_isNumber rfl rfl (by decide) rfl (Nat.le_of_ble_eq_true rfl) ?_
        refine c_X5_isNumber (d := d) i9002 T 0 40 W9002 H9002 hT hi9002 (by omega) (by omega) ⟨fun n3 => ?_, fun n3 r3 => ?_, fun n3 r3 => ?_⟩
        · exact absurd c13 n3
        · show fwWP mX5_readHeights (d + 2) 23 [some (aR 2 0), some (aR 4 1), some (aI (c : Int))] [aI 0] (rH h i9002 2 (h 15 0 i9002) W9002 H9002) Q
          refine w_if_ne 28 dX5_readHeights_23 (by decide) (by omega) (fun c23 => ?_) (fun c23 => ?_)
          · (exfalso; omega)
          · refine w_iconst dX5_readHeights_26 ?_
            exact w_zret dX5_readHeights_27 rfl (Or.inl rfl) (k.1 _ _ _ _ _ (by rw [ivq, show 11 - c = (10 - c) + 1 by omega, qHts, if_pos n3, if_neg r3]) (by omega) hH9002.1)
        · show fwWP mX5_readHeights (d + 2) 23 [some (aR 2 0), some (aR 4 1), some (aI (c : Int))] [aI 1] (rH h i9002 0 (-1) W9002 H9002) Q
          refine w_if_ne 28 dX5_readHeights_23 (by decide) (by omega) (fun c23 => ?_) (fun c23 => ?_)
          · refine w_iload_n dX5_readHeights_28 rfl ?_
            refine w_bipush dX5_readHeights_29 rfl ?_
            refine w_icmp_ne 40 dX5_readHeights_31 (by decide) (by omega) (by omega) (fun c31 => ?_) (fun c31 => ?_)
            · refine w_aload_n dX5_readHeights_40 rfl ?_
              refine w_aload_n dX5_readHeights_41 rfl ?_
              refine w_callV (d := d + 1) (S := [aR 4 1]) [] dX5_readHeights_42 ml_X5_100 ok_X5_passNumber vi_X5_passNumber rfl rfl (by decide) rfl (Nat.le_of_ble_eq_true rfl) ?_
              have hln3 : i9002 < T := tk_lt hT (by first | assumption | omega) n3 (by omega)
              refine c_X5_passNumber (d := d) i9002 T W9002 H9002 hT hln3 ?_
              show fwWP mX5_readHeights (d + 2) 45 [some (aR 2 0), some (aR 4 1), some (aI (c : Int))] [aI (h 16 0 i9002), aR 4 1] (rH h (i9002 + 1) 0 (-1) W9002 H9002) Q
              refine w_callV (d := d + 1) (S := []) [aI (h 16 0 i9002)] dX5_readHeights_45 ml_X5_119 ok_X1_addCell vi_X1_addCell rfl rfl (by decide) rfl (Nat.le_of_ble_eq_true rfl) ?_
              refine c_X1_addCell (d := (d + 1)) 1 (h 16 0 i9002) (by decide) (by show 0 ≤ W9002 0; omega) (by show W9002 0 < 10; omega) ?_
              show fwWP mX5_readHeights (d + 2) 48 [some (aR 2 0), some (aR 4 1), some (aI (c : Int))] [] (fwUp (fwUp (rH h (i9002 + 1) 0 (-1) W9002 H9002) 17 1 (W9002 0).toNat (h 16 0 i9002)) 4 1 1 (W9002 0 + 1)) Q
              rw [iv0, Int.toNat_natCast, rH_cell _ _ _ _ _ _ _ (by omega)]
              have hHc := rHr_cell (x := (h 16 0 i9002)) hH9002 iv0 (by omega) (by omega)
              refine w_iinc [some (aR 2 0), some (aR 4 1), some (aI ((c : Int) + 1))] dX5_readHeights_48 rfl rfl (by decide) ?_
              refine w_goto 2 dX5_readHeights_51 (by decide) ?_
              exact ih2 (by omega) _ _ _ _ (by omega) (by first | assumption | omega) hHc ⟨rfl, by rw [iv2.2, show 11 - c = (10 - c) + 1 by omega, qHts, if_pos n3, if_pos r3, if_neg (by omega), show 10 - (10 - c) = c by omega, show 11 - (c + 1) = 10 - c by omega]⟩
            · refine w_aload_n dX5_readHeights_34 rfl ?_
              refine w_iconst dX5_readHeights_35 ?_
              refine w_callV (d := d + 1) (S := []) [aI 3] dX5_readHeights_36 ml_X5_72 ok_X5_refuse vi_X5_refuse rfl rfl (by decide) rfl (Nat.le_of_ble_eq_true rfl) ?_
              refine c_X5_refuse (d := (d + 1)) i9002 0 (-1) 3 W9002 H9002 ?_
              show fwWP mX5_readHeights (d + 2) 39 [some (aR 2 0), some (aR 4 1), some (aI (c : Int))] [aI 0] (rH h i9002 3 (h 15 0 i9002) W9002 H9002) Q
              exact w_zret dX5_readHeights_39 rfl (Or.inl rfl) (k.1 _ _ _ _ _ (by rw [ivq, show 11 - c = (10 - c) + 1 by omega, qHts, if_pos n3, if_pos r3, if_pos (by omega)]) (by omega) hH9002.1)
          · (exfalso; omega)
  exact lp2 0 (Nat.zero_le _) _ _ _ _ rfl (by first | assumption | omega) hH ⟨h0, rfl⟩
theorem c_bef {d : Nat} {h : fwH} {Q : Option fwV → fwH → Prop} (i f : Nat) (fk fp x : Int) (W H : Nat → Int) (hf : f < 8) (hx : 0 ≤ x ∧ x ≤ (f : Int) - 1) (k : Q none (rH h i fk fp (qBef W f x.toNat) H)) : fwCt mX3_befriend (d + 1) [aR 5 1, aI (f : Int), aI x] (rH h i fk fp W H) Q := by
  obtain ⟨g, rfl⟩ : ∃ g : Nat, x = g := ⟨x.toNat, by omega⟩
  refine c_X3_befriend 1 f g (by decide) hf (by omega) ?_
  rw [rH_fact, rH_fact]
  exact k
set_option maxRecDepth 100000 in
set_option maxHeartbeats 4000000 in
theorem c_X5_readTalk {d : Nat} {h : fwH} {Q : Option fwV → fwH → Prop} (i T f : Nat) (W H : Nat → Int) (hT : tk h T) (hi : i ≤ T) (hf : f < 8) (hH : rHr W H) (k : rK h T Q (qTalk (h 14 0) (h 16 0) f i W)) : fwCt mX5_readTalk (d + 3) [aR 2 0, aI (f : Int)] (rH h i 0 (-1) W H) Q := by
  refine fwCt_of [some (aR 2 0), some (aI (f : Int)), none] rfl rfl rfl ?_
  obtain ⟨t1, t2, t3, t4⟩ := id hT
  refine w_aload_n dX5_readTalk_0 rfl ?_
  refine w_iload_n dX5_readTalk_1 rfl ?_
  refine w_bipush dX5_readTalk_2 rfl ?_
  refine w_iconst dX5_readTalk_4 ?_
  refine w_iconst dX5_readTalk_5 ?_
  refine w_bipush dX5_readTalk_6 rfl ?_
  refine w_callV (d := d + 2) (S := []) [aI (f : Int), aI 12, aI 5, aI 1, aI 7] dX5_readTalk_8 ml_X5_135 ok_X5_readFact vi_X5_readFact rfl rfl (by decide) rfl (Nat.le_of_ble_eq_true rfl) ?_
  refine c_X5_readFact (d := d) i T f 5 12 1 7 W H hT hi (by omega) (by omega) (by omega) (by omega) (by first | omega | (show -1000000 ≤ W 0 - 1 ∧ W 0 - 1 ≤ 1000000; omega)) hH ⟨fun fk4 j4 i4 W4 H4 e4 hj4 hg4 => ?_, fun i4 W4 H4 e4 hi4 hH4 => ?_⟩
  · show fwWP mX5_readTalk (d + 3) 11 [some (aR 2 0), some (aI (f : Int)), none] [aI 0] (rH h i4 fk4 (h 15 0 j4) W4 H4) Q
    refine w_if_eq 34 dX5_readTalk_11 (by decide) (by omega) (fun c11 => ?_) (fun c11 => ?_)
    · refine w_iconst dX5_readTalk_34 ?_
      exact w_zret dX5_readTalk_35 rfl (Or.inl rfl) (k.1 _ _ _ _ _ (by simp only [qTalk, qNum, qWord, qThen, e4]) hj4 hg4)
    · (exfalso; omega)
  · show fwWP mX5_readTalk (d + 3) 11 [some (aR 2 0), some (aI (f : Int)), none] [aI 1] (rH h i4 0 (-1) W4 H4) Q
    refine w_if_eq 34 dX5_readTalk_11 (by decide) (by omega) (fun c11 => ?_) (fun c11 => ?_)
    · (exfalso; omega)
    · refine w_aload_n dX5_readTalk_14 rfl ?_
      refine w_bipush dX5_readTalk_15 rfl ?_
      refine w_callV (d := d + 2) (S := []) [aI 13] dX5_readTalk_17 ml_X5_85 ok_X5_pass vi_X5_pass rfl rfl (by decide) rfl (Nat.le_of_ble_eq_true rfl) ?_
      refine c_X5_pass (d := (d + 1)) i4 T 13 W4 H4 hT hi4 (by omega) ⟨fun n5 => ?_, fun n5 => ?_⟩
      · show fwWP mX5_readTalk (d + 3) 20 [some (aR 2 0), some (aI (f : Int)), none] [aI 0] (rH h i4 1 (h 15 0 i4) W4 H4) Q
        refine w_if_eq 34 dX5_readTalk_20 (by decide) (by omega) (fun c20 => ?_) (fun c20 => ?_)
        · refine w_iconst dX5_readTalk_34 ?_
          exact w_zret dX5_readTalk_35 rfl (Or.inl rfl) (k.1 _ _ _ _ _ (by simp only [qTalk, qNum, qWord, qThen, e4, if_neg n5]) (by first | assumption | omega) hH4.1)
        · (exfalso; omega)
      · have hl5 : i4 < T := tk_lt hT (by first | assumption | omega) n5 (by omega)
        show fwWP mX5_readTalk (d + 3) 20 [some (aR 2 0), some (aI (f : Int)), none] [aI 1] (rH h (i4 + 1) 0 (-1) W4 H4) Q
        refine w_if_eq 34 dX5_readTalk_20 (by decide) (by omega) (fun c20 => ?_) (fun c20 => ?_)
        · (exfalso; omega)
        · refine w_aload_n dX5_readTalk_23 rfl ?_
          refine w_iconst dX5_readTalk_24 ?_
          refine w_iload_n dX5_readTalk_25 rfl ?_
          refine w_iconst dX5_readTalk_26 ?_
          refine w_isub dX5_readTalk_27 ?_
          refine w_callV (d := d + 2) (S := []) [aI 0, aI ((f : Int) - 1)] dX5_readTalk_28 ml_X5_96 ok_X5_isNumber vi_X5_isNumber rfl rfl (by decide) rfl (Nat.le_of_ble_eq_true rfl) ?_
          refine c_X5_isNumber (d := (d + 1)) (i4 + 1) T 0 ((f : Int) - 1) W4 H4 hT (by omega) (by omega) (by omega) ⟨fun n6 => ?_, fun n6 r6 => ?_, fun n6 r6 => ?_⟩
          · show fwWP mX5_readTalk (d + 3) 31 [some (aR 2 0), some (aI (f : Int)), none] [aI 0] (rH h (i4 + 1) 1 (h 15 0 (i4 + 1)) W4 H4) Q
            refine w_if_ne 36 dX5_readTalk_31 (by decide) (by omega) (fun c31 => ?_) (fun c31 => ?_)
            · (exfalso; omega)
            · refine w_iconst dX5_readTalk_34 ?_
              exact w_zret dX5_readTalk_35 rfl (Or.inl rfl) (k.1 _ _ _ _ _ (by simp only [qTalk, qNum, qWord, qThen, e4, if_pos n5, if_neg n6]) (by first | assumption | omega) hH4.1)
          · show fwWP mX5_readTalk (d + 3) 31 [some (aR 2 0), some (aI (f : Int)), none] [aI 0] (rH h (i4 + 1) 2 (h 15 0 (i4 + 1)) W4 H4) Q
            refine w_if_ne 36 dX5_readTalk_31 (by decide) (by omega) (fun c31 => ?_) (fun c31 => ?_)
            · (exfalso; omega)
            · refine w_iconst dX5_readTalk_34 ?_
              exact w_zret dX5_readTalk_35 rfl (Or.inl rfl) (k.1 _ _ _ _ _ (by simp only [qTalk, qNum, qWord, qThen, e4, if_pos n5, if_pos n6, if_neg r6]) (by first | assumption | omega) hH4.1)
          · show fwWP mX5_readTalk (d + 3) 31 [some (aR 2 0), some (aI (f : Int)), none] [aI 1] (rH h (i4 + 1) 0 (-1) W4 H4) Q
            refine w_if_ne 36 dX5_readTalk_31 (by decide) (by omega) (fun c31 => ?_) (fun c31 => ?_)
            · refine w_aload_n dX5_readTalk_36 rfl ?_
              refine w_getr 3 1 dX5_readTalk_37 fl_X5_12 rfl (by decide) ?_
              refine w_getr 5 1 dX5_readTalk_40 fl_X5_126 rfl (by decide) ?_
              refine w_iload_n dX5_readTalk_43 rfl ?_
              refine w_aload_n dX5_readTalk_44 rfl ?_
              refine w_callV (d := d + 2) (S := [aI (f : Int), aR 5 1]) [] dX5_readTalk_45 ml_X5_100 ok_X5_passNumber vi_X5_passNumber rfl rfl (by decide) rfl (Nat.le_of_ble_eq_true rfl) ?_
              have hln6 : (i4 + 1) < T := tk_lt hT (by first | assumption | omega) n6 (by omega)
              refine c_X5_passNumber (d := (d + 1)) (i4 + 1) T W4 H4 hT hln6 ?_
              show fwWP mX5_readTalk (d + 3) 48 [some (aR 2 0), some (aI (f : Int)), none] [aI (h 16 0 (i4 + 1)), aI (f : Int), aR 5 1] (rH h ((i4 + 1) + 1) 0 (-1) W4 H4) Q
              refine w_callV (d := d + 2) (S := []) [aI (f : Int), aI (h 16 0 (i4 + 1))] dX5_readTalk_48 ml_X5_146 ok_X3_befriend vi_X3_befriend rfl rfl (by decide) rfl (Nat.le_of_ble_eq_true rfl) ?_
              refine c_bef (d := (d + 1)) ((i4 + 1) + 1) f 0 (-1) (h 16 0 (i4 + 1)) W4 H4 (by omega) (by omega) ?_
              show fwWP mX5_readTalk (d + 3) 51 [some (aR 2 0), some (aI (f : Int)), none] [] (rH h ((i4 + 1) + 1) 0 (-1) (qBef W4 f (h 16 0 (i4 + 1)).toNat) H4) Q
              refine w_iconst dX5_readTalk_51 ?_
              refine w_istore_n [some (aR 2 0), some (aI (f : Int)), some (aI 0)] dX5_readTalk_52 rfl (by decide) ?_
              have lp53 : ∀ c : Nat, c ≤ 900 → ∀ (y : Int) (i9053 : Nat) (W9053 H9053 : Nat → Int), y = (c : Int) → i9053 ≤ T → rHr W9053 H9053 → (qTalk (h 14 0) (h 16 0) f i W = qTl (h 14 0) (h 16 0) f (900 - c) i9053 W9053) → fwWP mX5_readTalk (d + 3) 53 [some (aR 2 0), some (aI (f : Int)), some (aI y)] [] (rH h i9053 0 (-1) W9053 H9053) Q := by
                refine fw_up (fun c hc53 ih53 => ?_)
                intro y i9053 W9053 H9053 ey hi9053 hH9053 iv53
                subst ey
                have hkr := t4 i9053 hi9053
                show fwWP mX5_readTalk (d + 3) 53 [some (aR 2 0), some (aI (f : Int)), some (aI (c : Int))] [] (rH h i9053 0 (-1) W9053 H9053) Q
                refine w_iload_n dX5_readTalk_53 rfl ?_
                refine w_sipush dX5_readTalk_54 rfl ?_
                refine w_icmp_ge 102 dX5_readTalk_57 (by decide) (by omega) (by omega) (fun c57 => ?_) (fun c57 => ?_)
                · refine w_iconst dX5_readTalk_102 ?_
                  by_cases e9 : c = 900
                  · subst e9
                    exact w_zret dX5_readTalk_103 rfl (Or.inr rfl) (k.2 _ _ _ (by rw [iv53]; rfl) (by omega) hH9053)
                  · exact w_zret dX5_readTalk_103 rfl (Or.inr rfl) (k.2 _ _ _ (by rw [iv53, show 900 - c = (899 - c) + 1 by omega, qTl, if_neg (by first | exact c65 | omega)]) (by omega) hH9053)
                · refine w_aload_n dX5_readTalk_60 rfl ?_
                  refine w_getiE (v := h 14 0 i9053) dX5_readTalk_61 fl_X5_43 rfl (by decide) rfl ?_
                  refine w_iconst dX5_readTalk_64 ?_
                  refine w_icmp_ne 102 dX5_readTalk_65 (by decide) (by omega) (by omega) (fun c65 => ?_) (fun c65 => ?_)
                  · refine w_iconst dX5_readTalk_102 ?_
                    by_cases e9 : c = 900
                    · subst e9
                      exact w_zret dX5_readTalk_103 rfl (Or.inr rfl) (k.2 _ _ _ (by rw [iv53]; rfl) (by omega) hH9053)
                    · exact w_zret dX5_readTalk_103 rfl (Or.inr rfl) (k.2 _ _ _ (by rw [iv53, show 900 - c = (899 - c) + 1 by omega, qTl, if_neg (by first | exact c65 | omega)]) (by omega) hH9053)
                  · refine w_aload_n dX5_readTalk_68 rfl ?_
                    refine w_iconst dX5_readTalk_69 ?_
                    refine w_iload_n dX5_readTalk_70 rfl ?_
                    refine w_iconst dX5_readTalk_71 ?_
                    refine w_isub dX5_readTalk_72 ?_
                    refine w_callV (d := d + 2) (S := []) [aI 0, aI ((f : Int) - 1)] dX5_readTalk_73 ml_X5_96 ok_X5_isNumber vi_X5_isNumber rfl rfl (by decide) rfl (Nat.le_of_ble_eq_true rfl) ?_
                    refine c_X5_isNumber (d := (d + 1)) i9053 T 0 ((f : Int) - 1) W9053 H9053 hT hi9053 (by omega) (by omega) ⟨fun n7 => ?_, fun n7 r7 => ?_, fun n7 r7 => ?_⟩
                    · exact absurd c65 n7
                    · show fwWP mX5_readTalk (d + 3) 76 [some (aR 2 0), some (aI (f : Int)), some (aI (c : Int))] [aI 0] (rH h i9053 2 (h 15 0 i9053) W9053 H9053) Q
                      refine w_if_ne 81 dX5_readTalk_76 (by decide) (by omega) (fun c76 => ?_) (fun c76 => ?_)
                      · (exfalso; omega)
                      · refine w_iconst dX5_readTalk_79 ?_
                        exact w_zret dX5_readTalk_80 rfl (Or.inl rfl) (k.1 _ _ _ _ _ (by rw [iv53, show 900 - c = (899 - c) + 1 by omega, qTl, if_pos n7, if_neg r7]) (by omega) hH9053.1)
                    · show fwWP mX5_readTalk (d + 3) 76 [some (aR 2 0), some (aI (f : Int)), some (aI (c : Int))] [aI 1] (rH h i9053 0 (-1) W9053 H9053) Q
                      refine w_if_ne 81 dX5_readTalk_76 (by decide) (by omega) (fun c76 => ?_) (fun c76 => ?_)
                      · refine w_aload_n dX5_readTalk_81 rfl ?_
                        refine w_getr 3 1 dX5_readTalk_82 fl_X5_12 rfl (by decide) ?_
                        refine w_getr 5 1 dX5_readTalk_85 fl_X5_126 rfl (by decide) ?_
                        refine w_iload_n dX5_readTalk_88 rfl ?_
                        refine w_aload_n dX5_readTalk_89 rfl ?_
                        refine w_callV (d := d + 2) (S := [aI (f : Int), aR 5 1]) [] dX5_readTalk_90 ml_X5_100 ok_X5_passNumber vi_X5_passNumber rfl rfl (by decide) rfl (Nat.le_of_ble_eq_true rfl) ?_
                        have hln7 : i9053 < T := tk_lt hT (by first | assumption | omega) n7 (by omega)
                        refine c_X5_passNumber (d := (d + 1)) i9053 T W9053 H9053 hT hln7 ?_
                        show fwWP mX5_readTalk (d + 3) 93 [some (aR 2 0), some (aI (f : Int)), some (aI (c : Int))] [aI (h 16 0 i9053), aI (f : Int), aR 5 1] (rH h (i9053 + 1) 0 (-1) W9053 H9053) Q
                        refine w_callV (d := d + 2) (S := []) [aI (f : Int), aI (h 16 0 i9053)] dX5_readTalk_93 ml_X5_146 ok_X3_befriend vi_X3_befriend rfl rfl (by decide) rfl (Nat.le_of_ble_eq_true rfl) ?_
                        refine c_bef (d := (d + 1)) (i9053 + 1) f 0 (-1) (h 16 0 i9053) W9053 H9053 (by omega) (by omega) ?_
                        show fwWP mX5_readTalk (d + 3) 96 [some (aR 2 0), some (aI (f : Int)), some (aI (c : Int))] [] (rH h (i9053 + 1) 0 (-1) (qBef W9053 f (h 16 0 i9053).toNat) H9053) Q
                        refine w_iinc [some (aR 2 0), some (aI (f : Int)), some (aI ((c : Int) + 1))] dX5_readTalk_96 rfl rfl (by decide) ?_
                        refine w_goto 53 dX5_readTalk_99 (by decide) ?_
                        exact ih53 (by omega) _ _ _ _ (by omega) (by first | assumption | omega) (rHr_bef hH9053 _ _) (by rw [iv53, show 900 - c = (899 - c) + 1 by omega, qTl, if_pos n7, if_pos r7, show 900 - (c + 1) = 899 - c by omega])
                      · (exfalso; omega)
              exact lp53 0 (Nat.zero_le _) _ _ _ _ rfl (by first | assumption | omega) (rHr_bef hH4 _ _) (by simp only [qTalk, qNum, qWord, qThen, e4, if_pos n5, if_pos n6, if_pos r6])
            · (exfalso; omega)
set_option maxRecDepth 100000 in
set_option maxHeartbeats 4000000 in
theorem c_X5_readHeap {d : Nat} {h : fwH} {Q : Option fwV → fwH → Prop} (i T : Nat) (W H : Nat → Int) (hT : tk h T) (hi : i ≤ T) (h0 : 0 ≤ W 0 ∧ W 0 ≤ 10) (hH : rHr W H) (k : rK h T Q (qHeap (h 14 0) (h 16 0) i W)) : fwCt mX5_readHeap (d + 2) [aR 2 0] (rH h i 0 (-1) W H) Q := by
  refine fwCt_of [some (aR 2 0)] rfl rfl rfl ?_
  obtain ⟨t1, t2, t3, t4⟩ := id hT
  refine w_aload_n dX5_readHeap_0 rfl ?_
  refine w_bipush dX5_readHeap_1 rfl ?_
  refine w_callV (d := d + 1) (S := []) [aI 14] dX5_readHeap_3 ml_X5_85 ok_X5_pass vi_X5_pass rfl rfl (by decide) rfl (Nat.le_of_ble_eq_true rfl) ?_
  refine c_X5_pass (d := d) i T 14 W H hT hi (by omega) ⟨fun n8 => ?_, fun n8 => ?_⟩
  · show fwWP mX5_readHeap (d + 2) 6 [some (aR 2 0)] [aI 0] (rH h i 1 (h 15 0 i) W H) Q
    refine w_if_eq 29 dX5_readHeap_6 (by decide) (by omega) (fun c6 => ?_) (fun c6 => ?_)
    · refine w_iconst dX5_readHeap_29 ?_
      exact w_zret dX5_readHeap_30 rfl (Or.inl rfl) (k.1 _ _ _ _ _ (by simp only [qHeap, qFact, qNum, qWord, qThen, if_neg n8]) (by first | assumption | omega) hH.1)
    · (exfalso; omega)
  · have hl8 : i < T := tk_lt hT (by first | assumption | omega) n8 (by omega)
    show fwWP mX5_readHeap (d + 2) 6 [some (aR 2 0)] [aI 1] (rH h (i + 1) 0 (-1) W H) Q
    refine w_if_eq 29 dX5_readHeap_6 (by decide) (by omega) (fun c6 => ?_) (fun c6 => ?_)
    · (exfalso; omega)
    · refine w_aload_n dX5_readHeap_9 rfl ?_
      refine w_iconst dX5_readHeap_10 ?_
      refine w_aload_n dX5_readHeap_11 rfl ?_
      refine w_getr 3 1 dX5_readHeap_12 fl_X5_12 rfl (by decide) ?_
      refine w_getr 4 1 dX5_readHeap_15 fl_X5_88 rfl (by decide) ?_
      refine w_getiE (v := W 0) dX5_readHeap_18 fl_X5_123 rfl (by decide) rfl ?_
      refine w_iconst dX5_readHeap_21 ?_
      refine w_isub dX5_readHeap_22 ?_
      refine w_callV (d := d + 1) (S := []) [aI 0, aI ((W 0) - 1)] dX5_readHeap_23 ml_X5_96 ok_X5_isNumber vi_X5_isNumber rfl rfl (by decide) rfl (Nat.le_of_ble_eq_true rfl) ?_
      refine c_X5_isNumber (d := d) (i + 1) T 0 ((W 0) - 1) W H hT (by omega) (by omega) (by omega) ⟨fun n9 => ?_, fun n9 r9 => ?_, fun n9 r9 => ?_⟩
      · show fwWP mX5_readHeap (d + 2) 26 [some (aR 2 0)] [aI 0] (rH h (i + 1) 1 (h 15 0 (i + 1)) W H) Q
        refine w_if_ne 31 dX5_readHeap_26 (by decide) (by omega) (fun c26 => ?_) (fun c26 => ?_)
        · (exfalso; omega)
        · refine w_iconst dX5_readHeap_29 ?_
          exact w_zret dX5_readHeap_30 rfl (Or.inl rfl) (k.1 _ _ _ _ _ (by simp only [qHeap, qFact, qNum, qWord, qThen, if_pos n8, if_neg n9]) (by first | assumption | omega) hH.1)
      · show fwWP mX5_readHeap (d + 2) 26 [some (aR 2 0)] [aI 0] (rH h (i + 1) 2 (h 15 0 (i + 1)) W H) Q
        refine w_if_ne 31 dX5_readHeap_26 (by decide) (by omega) (fun c26 => ?_) (fun c26 => ?_)
        · (exfalso; omega)
        · refine w_iconst dX5_readHeap_29 ?_
          exact w_zret dX5_readHeap_30 rfl (Or.inl rfl) (k.1 _ _ _ _ _ (by simp only [qHeap, qFact, qNum, qWord, qThen, if_pos n8, if_pos n9, if_neg r9]) (by first | assumption | omega) hH.1)
      · show fwWP mX5_readHeap (d + 2) 26 [some (aR 2 0)] [aI 1] (rH h (i + 1) 0 (-1) W H) Q
        refine w_if_ne 31 dX5_readHeap_26 (by decide) (by omega) (fun c26 => ?_) (fun c26 => ?_)
        · refine w_aload_n dX5_readHeap_31 rfl ?_
          refine w_getr 3 1 dX5_readHeap_32 fl_X5_12 rfl (by decide) ?_
          refine w_aload_n dX5_readHeap_35 rfl ?_
          refine w_callV (d := d + 1) (S := [aR 3 1]) [] dX5_readHeap_36 ml_X5_100 ok_X5_passNumber vi_X5_passNumber rfl rfl (by decide) rfl (Nat.le_of_ble_eq_true rfl) ?_
          have hln9 : (i + 1) < T := tk_lt hT (by first | assumption | omega) n9 (by omega)
          refine c_X5_passNumber (d := d) (i + 1) T W H hT hln9 ?_
          show fwWP mX5_readHeap (d + 2) 39 [some (aR 2 0)] [aI (h 16 0 (i + 1)), aR 3 1] (rH h ((i + 1) + 1) 0 (-1) W H) Q
          refine w_puti dX5_readHeap_39 fl_X5_150 fp_3_5 rfl (by decide) ?_
          rw [show (fwUp (rH h ((i + 1) + 1) 0 (-1) W H) 3 1 5 (h 16 0 (i + 1))) = (rH h ((i + 1) + 1) 0 (-1) (fwFu W 5 (h 16 0 (i + 1))) H) from rH_heap _ _ _ _ _ _ _]
          refine w_iconst dX5_readHeap_42 ?_
          exact w_zret dX5_readHeap_43 rfl (Or.inr rfl) (k.2 _ _ _ (by simp only [qHeap, qFact, qNum, qWord, qThen, if_pos n8, if_pos n9, if_pos r9]) (by first | assumption | omega) (rHr_fu hH (by omega) (by omega)))
        · (exfalso; omega)
set_option maxRecDepth 100000 in
set_option maxHeartbeats 4000000 in
theorem c_X5_readFolk {d : Nat} {h : fwH} {Q : Option fwV → fwH → Prop} (i T f : Nat) (W H : Nat → Int) (hT : tk h T) (hi : i ≤ T) (h6 : W 6 = (f : Int)) (hf : f ≤ 8) (h0 : 0 ≤ W 0 ∧ W 0 ≤ 10) (hH : rHr W H) (k : rK h T Q (qFolk (h 14 0) (h 16 0) f i W)) : fwCt mX5_readFolk (d + 4) [aR 2 0] (rH h i 0 (-1) W H) Q := by
  refine fwCt_of [some (aR 2 0), none] rfl rfl rfl ?_
  obtain ⟨t1, t2, t3, t4⟩ := id hT
  refine w_aload_n dX5_readFolk_0 rfl ?_
  refine w_getr 3 1 dX5_readFolk_1 fl_X5_12 rfl (by decide) ?_
  refine w_getr 5 1 dX5_readFolk_4 fl_X5_126 rfl (by decide) ?_
  refine w_getiE (v := (f : Int)) dX5_readFolk_7 fl_X5_130 rfl (by decide) h6 ?_
  refine w_istore_n [some (aR 2 0), some (aI (f : Int))] dX5_readFolk_10 rfl (by decide) ?_
  refine w_iload_n dX5_readFolk_11 rfl ?_
  refine w_bipush dX5_readFolk_12 rfl ?_
  refine w_icmp_lt 23 dX5_readFolk_14 (by decide) (by omega) (by omega) (fun c14 => ?_) (fun c14 => ?_)
  · refine w_aload_n dX5_readFolk_23 rfl ?_
    refine w_getr 3 1 dX5_readFolk_24 fl_X5_12 rfl (by decide) ?_
    refine w_getr 5 1 dX5_readFolk_27 fl_X5_126 rfl (by decide) ?_
    refine w_dup dX5_readFolk_30 rfl ?_
    refine w_getiE (v := (f : Int)) dX5_readFolk_31 fl_X5_130 rfl (by decide) h6 ?_
    refine w_iconst dX5_readFolk_34 ?_
    refine w_iadd dX5_readFolk_35 ?_
    refine w_puti dX5_readFolk_36 fl_X5_130 fp_5_3 rfl (by decide) ?_
    rw [show (fwUp (rH h i 0 (-1) W H) 5 1 3 ((f : Int) + 1)) = (rH h i 0 (-1) (fwFu W 6 ((f : Int) + 1)) H) from rH_size _ _ _ _ _ _ _]
    refine w_aload_n dX5_readFolk_39 rfl ?_
    refine w_bipush dX5_readFolk_40 rfl ?_
    refine w_callV (d := d + 3) (S := []) [aI 8] dX5_readFolk_42 ml_X5_85 ok_X5_pass vi_X5_pass rfl rfl (by decide) rfl (Nat.le_of_ble_eq_true rfl) ?_
    refine c_X5_pass (d := (d + 2)) i T 8 (fwFu W 6 ((f : Int) + 1)) H hT hi (by omega) ⟨fun n10 => ?_, fun n10 => ?_⟩
    · show fwWP mX5_readFolk (d + 4) 45 [some (aR 2 0), some (aI (f : Int))] [aI 0] (rH h i 1 (h 15 0 i) (fwFu W 6 ((f : Int) + 1)) H) Q
      refine w_if_eq 148 dX5_readFolk_45 (by decide) (by omega) (fun c45 => ?_) (fun c45 => ?_)
      · refine w_iconst dX5_readFolk_148 ?_
        exact w_zret dX5_readFolk_149 rfl (Or.inl rfl) (k.1 _ _ _ _ _ (by simp only [qFolk, qWord, qThen, if_neg (show ¬ 8 ≤ f by omega), if_neg n10]) (by first | assumption | omega) hH.1)
      · (exfalso; omega)
    · have hl10 : i < T := tk_lt hT (by first | assumption | omega) n10 (by omega)
      show fwWP mX5_readFolk (d + 4) 45 [some (aR 2 0), some (aI (f : Int))] [aI 1] (rH h (i + 1) 0 (-1) (fwFu W 6 ((f : Int) + 1)) H) Q
      refine w_if_eq 148 dX5_readFolk_45 (by decide) (by omega) (fun c45 => ?_) (fun c45 => ?_)
      · (exfalso; omega)
      · refine w_aload_n dX5_readFolk_48 rfl ?_
        refine w_iload_n dX5_readFolk_49 rfl ?_
        refine w_bipush dX5_readFolk_50 rfl ?_
        refine w_iconst dX5_readFolk_52 ?_
        refine w_iconst dX5_readFolk_53 ?_
        refine w_aload_n dX5_readFolk_54 rfl ?_
        refine w_getr 3 1 dX5_readFolk_55 fl_X5_12 rfl (by decide) ?_
        refine w_getr 4 1 dX5_readFolk_58 fl_X5_88 rfl (by decide) ?_
        refine w_getiE (v := (fwFu W 6 ((f : Int) + 1)) 0) dX5_readFolk_61 fl_X5_123 rfl (by decide) rfl ?_
        refine w_iconst dX5_readFolk_64 ?_
        refine w_isub dX5_readFolk_65 ?_
        refine w_callV (d := d + 3) (S := []) [aI (f : Int), aI 9, aI 0, aI 0, aI (((fwFu W 6 ((f : Int) + 1)) 0) - 1)] dX5_readFolk_66 ml_X5_135 ok_X5_readFact vi_X5_readFact rfl rfl (by decide) rfl (Nat.le_of_ble_eq_true rfl) ?_
        refine c_X5_readFact (d := (d + 1)) (i + 1) T f 0 9 0 (((fwFu W 6 ((f : Int) + 1)) 0) - 1) (fwFu W 6 ((f : Int) + 1)) H hT (by omega) (by omega) (by omega) (by omega) (by omega) (by first | omega | (show -1000000 ≤ W 0 - 1 ∧ W 0 - 1 ≤ 1000000; omega)) (rHr_fu hH (by omega) (by omega)) ⟨fun fk11 j11 i11 W11 H11 e11 hj11 hg11 => ?_, fun i11 W11 H11 e11 hi11 hH11 => ?_⟩
        · show fwWP mX5_readFolk (d + 4) 69 [some (aR 2 0), some (aI (f : Int))] [aI 0] (rH h i11 fk11 (h 15 0 j11) W11 H11) Q
          refine w_if_eq 148 dX5_readFolk_69 (by decide) (by omega) (fun c69 => ?_) (fun c69 => ?_)
          · refine w_iconst dX5_readFolk_148 ?_
            exact w_zret dX5_readFolk_149 rfl (Or.inl rfl) (k.1 _ _ _ _ _ (by simp only [qFolk, qWord, qThen, if_neg (show ¬ 8 ≤ f by omega), if_pos n10, e11]) hj11 hg11)
          · (exfalso; omega)
        · show fwWP mX5_readFolk (d + 4) 69 [some (aR 2 0), some (aI (f : Int))] [aI 1] (rH h i11 0 (-1) W11 H11) Q
          refine w_if_eq 148 dX5_readFolk_69 (by decide) (by omega) (fun c69 => ?_) (fun c69 => ?_)
          · (exfalso; omega)
          · refine w_aload_n dX5_readFolk_72 rfl ?_
            refine w_iload_n dX5_readFolk_73 rfl ?_
            refine w_bipush dX5_readFolk_74 rfl ?_
            refine w_iconst dX5_readFolk_76 ?_
            refine w_iconst dX5_readFolk_77 ?_
            refine w_bipush dX5_readFolk_78 rfl ?_
            refine w_callV (d := d + 3) (S := []) [aI (f : Int), aI 7, aI 1, aI 1, aI 99] dX5_readFolk_80 ml_X5_135 ok_X5_readFact vi_X5_readFact rfl rfl (by decide) rfl (Nat.le_of_ble_eq_true rfl) ?_
            refine c_X5_readFact (d := (d + 1)) i11 T f 1 7 1 99 W11 H11 hT hi11 (by omega) (by omega) (by omega) (by omega) (by first | omega | (show -1000000 ≤ W 0 - 1 ∧ W 0 - 1 ≤ 1000000; omega)) hH11 ⟨fun fk12 j12 i12 W12 H12 e12 hj12 hg12 => ?_, fun i12 W12 H12 e12 hi12 hH12 => ?_⟩
            · show fwWP mX5_readFolk (d + 4) 83 [some (aR 2 0), some (aI (f : Int))] [aI 0] (rH h i12 fk12 (h 15 0 j12) W12 H12) Q
              refine w_if_eq 148 dX5_readFolk_83 (by decide) (by omega) (fun c83 => ?_) (fun c83 => ?_)
              · refine w_iconst dX5_readFolk_148 ?_
                exact w_zret dX5_readFolk_149 rfl (Or.inl rfl) (k.1 _ _ _ _ _ (by simp only [qFolk, qWord, qThen, if_neg (show ¬ 8 ≤ f by omega), if_pos n10, e11, e12]) hj12 hg12)
              · (exfalso; omega)
            · show fwWP mX5_readFolk (d + 4) 83 [some (aR 2 0), some (aI (f : Int))] [aI 1] (rH h i12 0 (-1) W12 H12) Q
              refine w_if_eq 148 dX5_readFolk_83 (by decide) (by omega) (fun c83 => ?_) (fun c83 => ?_)
              · (exfalso; omega)
              · refine w_aload_n dX5_readFolk_86 rfl ?_
                refine w_iload_n dX5_readFolk_87 rfl ?_
                refine w_bipush dX5_readFolk_88 rfl ?_
                refine w_iconst dX5_readFolk_90 ?_
                refine w_iconst dX5_readFolk_91 ?_
                refine w_bipush dX5_readFolk_92 rfl ?_
                refine w_callV (d := d + 3) (S := []) [aI (f : Int), aI 10, aI 2, aI 0, aI 9] dX5_readFolk_94 ml_X5_135 ok_X5_readFact vi_X5_readFact rfl rfl (by decide) rfl (Nat.le_of_ble_eq_true rfl) ?_
                refine c_X5_readFact (d := (d + 1)) i12 T f 2 10 0 9 W12 H12 hT hi12 (by omega) (by omega) (by omega) (by omega) (by first | omega | (show -1000000 ≤ W 0 - 1 ∧ W 0 - 1 ≤ 1000000; omega)) hH12 ⟨fun fk13 j13 i13 W13 H13 e13 hj13 hg13 => ?_, fun i13 W13 H13 e13 hi13 hH13 => ?_⟩
                · show fwWP mX5_readFolk (d + 4) 97 [some (aR 2 0), some (aI (f : Int))] [aI 0] (rH h i13 fk13 (h 15 0 j13) W13 H13) Q
                  refine w_if_eq 148 dX5_readFolk_97 (by decide) (by omega) (fun c97 => ?_) (fun c97 => ?_)
                  · refine w_iconst dX5_readFolk_148 ?_
                    exact w_zret dX5_readFolk_149 rfl (Or.inl rfl) (k.1 _ _ _ _ _ (by simp only [qFolk, qWord, qThen, if_neg (show ¬ 8 ≤ f by omega), if_pos n10, e11, e12, e13]) hj13 hg13)
                  · (exfalso; omega)
                · show fwWP mX5_readFolk (d + 4) 97 [some (aR 2 0), some (aI (f : Int))] [aI 1] (rH h i13 0 (-1) W13 H13) Q
                  refine w_if_eq 148 dX5_readFolk_97 (by decide) (by omega) (fun c97 => ?_) (fun c97 => ?_)
                  · (exfalso; omega)
                  · refine w_aload_n dX5_readFolk_100 rfl ?_
                    refine w_iload_n dX5_readFolk_101 rfl ?_
                    refine w_iconst dX5_readFolk_102 ?_
                    refine w_iconst dX5_readFolk_103 ?_
                    refine w_iconst dX5_readFolk_104 ?_
                    refine w_bipush dX5_readFolk_105 rfl ?_
                    refine w_callV (d := d + 3) (S := []) [aI (f : Int), aI 5, aI 3, aI 0, aI 9] dX5_readFolk_107 ml_X5_135 ok_X5_readFact vi_X5_readFact rfl rfl (by decide) rfl (Nat.le_of_ble_eq_true rfl) ?_
                    refine c_X5_readFact (d := (d + 1)) i13 T f 3 5 0 9 W13 H13 hT hi13 (by omega) (by omega) (by omega) (by omega) (by first | omega | (show -1000000 ≤ W 0 - 1 ∧ W 0 - 1 ≤ 1000000; omega)) hH13 ⟨fun fk14 j14 i14 W14 H14 e14 hj14 hg14 => ?_, fun i14 W14 H14 e14 hi14 hH14 => ?_⟩
                    · show fwWP mX5_readFolk (d + 4) 110 [some (aR 2 0), some (aI (f : Int))] [aI 0] (rH h i14 fk14 (h 15 0 j14) W14 H14) Q
                      refine w_if_eq 148 dX5_readFolk_110 (by decide) (by omega) (fun c110 => ?_) (fun c110 => ?_)
                      · refine w_iconst dX5_readFolk_148 ?_
                        exact w_zret dX5_readFolk_149 rfl (Or.inl rfl) (k.1 _ _ _ _ _ (by simp only [qFolk, qWord, qThen, if_neg (show ¬ 8 ≤ f by omega), if_pos n10, e11, e12, e13, e14]) hj14 hg14)
                      · (exfalso; omega)
                    · show fwWP mX5_readFolk (d + 4) 110 [some (aR 2 0), some (aI (f : Int))] [aI 1] (rH h i14 0 (-1) W14 H14) Q
                      refine w_if_eq 148 dX5_readFolk_110 (by decide) (by omega) (fun c110 => ?_) (fun c110 => ?_)
                      · (exfalso; omega)
                      · refine w_aload_n dX5_readFolk_113 rfl ?_
                        refine w_iload_n dX5_readFolk_114 rfl ?_
                        refine w_bipush dX5_readFolk_115 rfl ?_
                        refine w_iconst dX5_readFolk_117 ?_
                        refine w_iconst dX5_readFolk_118 ?_
                        refine w_bipush dX5_readFolk_119 rfl ?_
                        refine w_callV (d := d + 3) (S := []) [aI (f : Int), aI 11, aI 4, aI 0, aI 9] dX5_readFolk_121 ml_X5_135 ok_X5_readFact vi_X5_readFact rfl rfl (by decide) rfl (Nat.le_of_ble_eq_true rfl) ?_
                        refine c_X5_readFact (d := (d + 1)) i14 T f 4 11 0 9 W14 H14 hT hi14 (by omega) (by omega) (by omega) (by omega) (by first | omega | (show -1000000 ≤ W 0 - 1 ∧ W 0 - 1 ≤ 1000000; omega)) hH14 ⟨fun fk15 j15 i15 W15 H15 e15 hj15 hg15 => ?_, fun i15 W15 H15 e15 hi15 hH15 => ?_⟩
                        · show fwWP mX5_readFolk (d + 4) 124 [some (aR 2 0), some (aI (f : Int))] [aI 0] (rH h i15 fk15 (h 15 0 j15) W15 H15) Q
                          refine w_if_eq 148 dX5_readFolk_124 (by decide) (by omega) (fun c124 => ?_) (fun c124 => ?_)
                          · refine w_iconst dX5_readFolk_148 ?_
                            exact w_zret dX5_readFolk_149 rfl (Or.inl rfl) (k.1 _ _ _ _ _ (by simp only [qFolk, qWord, qThen, if_neg (show ¬ 8 ≤ f by omega), if_pos n10, e11, e12, e13, e14, e15]) hj15 hg15)
                          · (exfalso; omega)
                        · show fwWP mX5_readFolk (d + 4) 124 [some (aR 2 0), some (aI (f : Int))] [aI 1] (rH h i15 0 (-1) W15 H15) Q
                          refine w_if_eq 148 dX5_readFolk_124 (by decide) (by omega) (fun c124 => ?_) (fun c124 => ?_)
                          · (exfalso; omega)
                          · have hki15 := (t4 i15 hi15).1
                            refine w_aload_n dX5_readFolk_127 rfl ?_
                            refine w_getiE (v := h 14 0 i15) dX5_readFolk_128 fl_X5_43 rfl (by decide) rfl ?_
                            refine w_bipush dX5_readFolk_131 rfl ?_
                            refine w_icmp_ne 144 dX5_readFolk_133 (by decide) (by omega) (by omega) (fun c133 => ?_) (fun c133 => ?_)
                            · refine w_iconst dX5_readFolk_144 ?_
                              refine w_goto 149 dX5_readFolk_145 (by decide) ?_
                              exact w_zret dX5_readFolk_149 rfl (Or.inr rfl) (k.2 _ _ _ (by simp only [qFolk, qWord, qThen, if_neg (show ¬ 8 ≤ f by omega), if_pos n10, e11, e12, e13, e14, e15, if_neg c133]) (by first | assumption | omega) hH15)
                            · refine w_aload_n dX5_readFolk_136 rfl ?_
                              refine w_iload_n dX5_readFolk_137 rfl ?_
                              refine w_callV (d := d + 3) (S := []) [aI (f : Int)] dX5_readFolk_138 ml_X5_139 ok_X5_readTalk vi_X5_readTalk rfl rfl (by decide) rfl (Nat.le_of_ble_eq_true rfl) ?_
                              refine c_X5_readTalk (d := d) i15 T f W15 H15 hT hi15 (by omega) hH15 ⟨fun fk16 j16 i16 W16 H16 e16 hj16 hg16 => ?_, fun i16 W16 H16 e16 hi16 hH16 => ?_⟩
                              · show fwWP mX5_readFolk (d + 4) 141 [some (aR 2 0), some (aI (f : Int))] [aI 0] (rH h i16 fk16 (h 15 0 j16) W16 H16) Q
                                refine w_if_eq 148 dX5_readFolk_141 (by decide) (by omega) (fun c141 => ?_) (fun c141 => ?_)
                                · refine w_iconst dX5_readFolk_148 ?_
                                  exact w_zret dX5_readFolk_149 rfl (Or.inl rfl) (k.1 _ _ _ _ _ (by simp only [qFolk, qWord, qThen, if_neg (show ¬ 8 ≤ f by omega), if_pos n10, e11, e12, e13, e14, e15, if_pos c133, e16]) hj16 hg16)
                                · (exfalso; omega)
                              · show fwWP mX5_readFolk (d + 4) 141 [some (aR 2 0), some (aI (f : Int))] [aI 1] (rH h i16 0 (-1) W16 H16) Q
                                refine w_if_eq 148 dX5_readFolk_141 (by decide) (by omega) (fun c141 => ?_) (fun c141 => ?_)
                                · (exfalso; omega)
                                · refine w_iconst dX5_readFolk_144 ?_
                                  refine w_goto 149 dX5_readFolk_145 (by decide) ?_
                                  exact w_zret dX5_readFolk_149 rfl (Or.inr rfl) (k.2 _ _ _ (by simp only [qFolk, qWord, qThen, if_neg (show ¬ 8 ≤ f by omega), if_pos n10, e11, e12, e13, e14, e15, if_pos c133, e16]) (by first | assumption | omega) hH16)
  · refine w_aload_n dX5_readFolk_17 rfl ?_
    refine w_iconst dX5_readFolk_18 ?_
    refine w_callV (d := d + 3) (S := []) [aI 3] dX5_readFolk_19 ml_X5_72 ok_X5_refuse vi_X5_refuse rfl rfl (by decide) rfl (Nat.le_of_ble_eq_true rfl) ?_
    refine c_X5_refuse (d := (d + 3)) i 0 (-1) 3 W H ?_
    show fwWP mX5_readFolk (d + 4) 22 [some (aR 2 0), some (aI (f : Int))] [aI 0] (rH h i 3 (h 15 0 i) W H) Q
    exact w_zret dX5_readFolk_22 rfl (Or.inl rfl) (k.1 _ _ _ _ _ (by rw [qFolk, if_pos (by omega)]) hi hH.1)
set_option maxRecDepth 100000 in
set_option maxHeartbeats 4000000 in
theorem c_X5_readMountain {d : Nat} {h : fwH} {Q : Option fwV → fwH → Prop} (i T : Nat) (W H : Nat → Int) (hT : tk h T) (hi : i ≤ T) (h0 : W 0 = 0) (hH : rHr W H) (k : rK h T Q (qFirst (h 14 0) (h 16 0) i W)) : fwCt mX5_readMountain (d + 3) [aR 2 0] (rH h i 0 (-1) W H) Q := by
  refine fwCt_of [some (aR 2 0), none] rfl rfl rfl ?_
  obtain ⟨t1, t2, t3, t4⟩ := id hT
  refine w_aload_n dX5_readMountain_0 rfl ?_
  refine w_getr 3 1 dX5_readMountain_1 fl_X5_12 rfl (by decide) ?_
  refine w_getr 4 1 dX5_readMountain_4 fl_X5_88 rfl (by decide) ?_
  refine w_astore_n [some (aR 2 0), some (aR 4 1)] dX5_readMountain_7 rfl (by decide) ?_
  refine w_aload_n dX5_readMountain_8 rfl ?_
  refine w_iconst dX5_readMountain_9 ?_
  refine w_callV (d := d + 2) (S := []) [aI 4] dX5_readMountain_10 ml_X5_85 ok_X5_pass vi_X5_pass rfl rfl (by decide) rfl (Nat.le_of_ble_eq_true rfl) ?_
  refine c_X5_pass (d := (d + 1)) i T 4 W H hT hi (by omega) ⟨fun n17 => ?_, fun n17 => ?_⟩
  · show fwWP mX5_readMountain (d + 3) 13 [some (aR 2 0), some (aR 4 1)] [aI 0] (rH h i 1 (h 15 0 i) W H) Q
    refine w_if_eq 42 dX5_readMountain_13 (by decide) (by omega) (fun c13 => ?_) (fun c13 => ?_)
    · refine w_iconst dX5_readMountain_42 ?_
      exact w_zret dX5_readMountain_43 rfl (Or.inl rfl) (k.1 _ _ _ _ _ (by simp only [qFirst, qFact, qNum, qWord, qSide, qThen, if_neg n17]) (by first | assumption | omega) hH.1)
    · (exfalso; omega)
  · have hl17 : i < T := tk_lt hT (by first | assumption | omega) n17 (by omega)
    show fwWP mX5_readMountain (d + 3) 13 [some (aR 2 0), some (aR 4 1)] [aI 1] (rH h (i + 1) 0 (-1) W H) Q
    refine w_if_eq 42 dX5_readMountain_13 (by decide) (by omega) (fun c13 => ?_) (fun c13 => ?_)
    · (exfalso; omega)
    · refine w_aload_n dX5_readMountain_16 rfl ?_
      refine w_aload_n dX5_readMountain_17 rfl ?_
      refine w_callV (d := d + 2) (S := []) [aR 4 1] dX5_readMountain_18 ml_X5_92 ok_X5_readHeights vi_X5_readHeights rfl rfl (by decide) rfl (Nat.le_of_ble_eq_true rfl) ?_
      refine c_X5_readHeights (d := d) (i + 1) T W H hT (by omega) (by first | assumption | omega | decide) hH ⟨fun fk18 j18 i18 W18 H18 e18 hj18 hg18 => ?_, fun i18 W18 H18 e18 hi18 hH18 => ?_⟩
      · show fwWP mX5_readMountain (d + 3) 21 [some (aR 2 0), some (aR 4 1)] [aI 0] (rH h i18 fk18 (h 15 0 j18) W18 H18) Q
        refine w_if_eq 42 dX5_readMountain_21 (by decide) (by omega) (fun c21 => ?_) (fun c21 => ?_)
        · refine w_iconst dX5_readMountain_42 ?_
          exact w_zret dX5_readMountain_43 rfl (Or.inl rfl) (k.1 _ _ _ _ _ (by simp only [qFirst, qFact, qNum, qWord, qSide, qThen, if_pos n17, e18]) hj18 hg18)
        · (exfalso; omega)
      · show fwWP mX5_readMountain (d + 3) 21 [some (aR 2 0), some (aR 4 1)] [aI 1] (rH h i18 0 (-1) W18 H18) Q
        refine w_if_eq 42 dX5_readMountain_21 (by decide) (by omega) (fun c21 => ?_) (fun c21 => ?_)
        · (exfalso; omega)
        · refine w_aload_n dX5_readMountain_24 rfl ?_
          refine w_iconst dX5_readMountain_25 ?_
          refine w_callV (d := d + 2) (S := []) [aI 5] dX5_readMountain_26 ml_X5_85 ok_X5_pass vi_X5_pass rfl rfl (by decide) rfl (Nat.le_of_ble_eq_true rfl) ?_
          refine c_X5_pass (d := (d + 1)) i18 T 5 W18 H18 hT hi18 (by omega) ⟨fun n19 => ?_, fun n19 => ?_⟩
          · show fwWP mX5_readMountain (d + 3) 29 [some (aR 2 0), some (aR 4 1)] [aI 0] (rH h i18 1 (h 15 0 i18) W18 H18) Q
            refine w_if_eq 42 dX5_readMountain_29 (by decide) (by omega) (fun c29 => ?_) (fun c29 => ?_)
            · refine w_iconst dX5_readMountain_42 ?_
              exact w_zret dX5_readMountain_43 rfl (Or.inl rfl) (k.1 _ _ _ _ _ (by simp only [qFirst, qFact, qNum, qWord, qSide, qThen, if_pos n17, e18, if_neg n19]) (by first | assumption | omega) hH18.1)
            · (exfalso; omega)
          · have hl19 : i18 < T := tk_lt hT (by first | assumption | omega) n19 (by omega)
            show fwWP mX5_readMountain (d + 3) 29 [some (aR 2 0), some (aR 4 1)] [aI 1] (rH h (i18 + 1) 0 (-1) W18 H18) Q
            refine w_if_eq 42 dX5_readMountain_29 (by decide) (by omega) (fun c29 => ?_) (fun c29 => ?_)
            · (exfalso; omega)
            · refine w_aload_n dX5_readMountain_32 rfl ?_
              refine w_iconst dX5_readMountain_33 ?_
              refine w_bipush dX5_readMountain_34 rfl ?_
              refine w_callV (d := d + 2) (S := []) [aI 0, aI 40] dX5_readMountain_36 ml_X5_96 ok_X5_isNumber vi_X5_isNumber rfl rfl (by decide) rfl (Nat.le_of_ble_eq_true rfl) ?_
              refine c_X5_isNumber (d := (d + 1)) (i18 + 1) T 0 40 W18 H18 hT (by omega) (by omega) (by omega) ⟨fun n20 => ?_, fun n20 r20 => ?_, fun n20 r20 => ?_⟩
              · show fwWP mX5_readMountain (d + 3) 39 [some (aR 2 0), some (aR 4 1)] [aI 0] (rH h (i18 + 1) 1 (h 15 0 (i18 + 1)) W18 H18) Q
                refine w_if_ne 44 dX5_readMountain_39 (by decide) (by omega) (fun c39 => ?_) (fun c39 => ?_)
                · (exfalso; omega)
                · refine w_iconst dX5_readMountain_42 ?_
                  exact w_zret dX5_readMountain_43 rfl (Or.inl rfl) (k.1 _ _ _ _ _ (by simp only [qFirst, qFact, qNum, qWord, qSide, qThen, if_pos n17, e18, if_pos n19, if_neg n20]) (by first | assumption | omega) hH18.1)
              · show fwWP mX5_readMountain (d + 3) 39 [some (aR 2 0), some (aR 4 1)] [aI 0] (rH h (i18 + 1) 2 (h 15 0 (i18 + 1)) W18 H18) Q
                refine w_if_ne 44 dX5_readMountain_39 (by decide) (by omega) (fun c39 => ?_) (fun c39 => ?_)
                · (exfalso; omega)
                · refine w_iconst dX5_readMountain_42 ?_
                  exact w_zret dX5_readMountain_43 rfl (Or.inl rfl) (k.1 _ _ _ _ _ (by simp only [qFirst, qFact, qNum, qWord, qSide, qThen, if_pos n17, e18, if_pos n19, if_pos n20, if_neg r20]) (by first | assumption | omega) hH18.1)
              · show fwWP mX5_readMountain (d + 3) 39 [some (aR 2 0), some (aR 4 1)] [aI 1] (rH h (i18 + 1) 0 (-1) W18 H18) Q
                refine w_if_ne 44 dX5_readMountain_39 (by decide) (by omega) (fun c39 => ?_) (fun c39 => ?_)
                · refine w_aload_n dX5_readMountain_44 rfl ?_
                  refine w_aload_n dX5_readMountain_45 rfl ?_
                  refine w_callV (d := d + 2) (S := [aR 4 1]) [] dX5_readMountain_46 ml_X5_100 ok_X5_passNumber vi_X5_passNumber rfl rfl (by decide) rfl (Nat.le_of_ble_eq_true rfl) ?_
                  have hln20 : (i18 + 1) < T := tk_lt hT (by first | assumption | omega) n20 (by omega)
                  refine c_X5_passNumber (d := (d + 1)) (i18 + 1) T W18 H18 hT hln20 ?_
                  show fwWP mX5_readMountain (d + 3) 49 [some (aR 2 0), some (aR 4 1)] [aI (h 16 0 (i18 + 1)), aR 4 1] (rH h ((i18 + 1) + 1) 0 (-1) W18 H18) Q
                  refine w_puti dX5_readMountain_49 fl_X5_104 fp_4_2 rfl (by decide) ?_
                  rw [show (fwUp (rH h ((i18 + 1) + 1) 0 (-1) W18 H18) 4 1 2 (h 16 0 (i18 + 1))) = (rH h ((i18 + 1) + 1) 0 (-1) (fwFu W18 1 (h 16 0 (i18 + 1))) H18) from rH_snow _ _ _ _ _ _ _]
                  refine w_aload_n dX5_readMountain_52 rfl ?_
                  refine w_bipush dX5_readMountain_53 rfl ?_
                  refine w_callV (d := d + 2) (S := []) [aI 6] dX5_readMountain_55 ml_X5_85 ok_X5_pass vi_X5_pass rfl rfl (by decide) rfl (Nat.le_of_ble_eq_true rfl) ?_
                  refine c_X5_pass (d := (d + 1)) ((i18 + 1) + 1) T 6 (fwFu W18 1 (h 16 0 (i18 + 1))) H18 hT (by omega) (by omega) ⟨fun n21 => ?_, fun n21 => ?_⟩
                  · show fwWP mX5_readMountain (d + 3) 58 [some (aR 2 0), some (aR 4 1)] [aI 0] (rH h ((i18 + 1) + 1) 1 (h 15 0 ((i18 + 1) + 1)) (fwFu W18 1 (h 16 0 (i18 + 1))) H18) Q
                    refine w_if_eq 71 dX5_readMountain_58 (by decide) (by omega) (fun c58 => ?_) (fun c58 => ?_)
                    · refine w_iconst dX5_readMountain_71 ?_
                      exact w_zret dX5_readMountain_72 rfl (Or.inl rfl) (k.1 _ _ _ _ _ (by simp only [qFirst, qFact, qNum, qWord, qSide, qThen, if_pos n17, e18, if_pos n19, if_pos n20, if_pos r20, if_neg n21]) (by first | assumption | omega) hH18.1)
                    · (exfalso; omega)
                  · have hl21 : ((i18 + 1) + 1) < T := tk_lt hT (by first | assumption | omega) n21 (by omega)
                    show fwWP mX5_readMountain (d + 3) 58 [some (aR 2 0), some (aR 4 1)] [aI 1] (rH h (((i18 + 1) + 1) + 1) 0 (-1) (fwFu W18 1 (h 16 0 (i18 + 1))) H18) Q
                    refine w_if_eq 71 dX5_readMountain_58 (by decide) (by omega) (fun c58 => ?_) (fun c58 => ?_)
                    · (exfalso; omega)
                    · refine w_aload_n dX5_readMountain_61 rfl ?_
                      refine w_iconst dX5_readMountain_62 ?_
                      refine w_bipush dX5_readMountain_63 rfl ?_
                      refine w_callV (d := d + 2) (S := []) [aI 1, aI 40] dX5_readMountain_65 ml_X5_96 ok_X5_isNumber vi_X5_isNumber rfl rfl (by decide) rfl (Nat.le_of_ble_eq_true rfl) ?_
                      refine c_X5_isNumber (d := (d + 1)) (((i18 + 1) + 1) + 1) T 1 40 (fwFu W18 1 (h 16 0 (i18 + 1))) H18 hT (by omega) (by omega) (by omega) ⟨fun n22 => ?_, fun n22 r22 => ?_, fun n22 r22 => ?_⟩
                      · show fwWP mX5_readMountain (d + 3) 68 [some (aR 2 0), some (aR 4 1)] [aI 0] (rH h (((i18 + 1) + 1) + 1) 1 (h 15 0 (((i18 + 1) + 1) + 1)) (fwFu W18 1 (h 16 0 (i18 + 1))) H18) Q
                        refine w_if_ne 73 dX5_readMountain_68 (by decide) (by omega) (fun c68 => ?_) (fun c68 => ?_)
                        · (exfalso; omega)
                        · refine w_iconst dX5_readMountain_71 ?_
                          exact w_zret dX5_readMountain_72 rfl (Or.inl rfl) (k.1 _ _ _ _ _ (by simp only [qFirst, qFact, qNum, qWord, qSide, qThen, if_pos n17, e18, if_pos n19, if_pos n20, if_pos r20, if_pos n21, if_neg n22]) (by first | assumption | omega) hH18.1)
                      · show fwWP mX5_readMountain (d + 3) 68 [some (aR 2 0), some (aR 4 1)] [aI 0] (rH h (((i18 + 1) + 1) + 1) 2 (h 15 0 (((i18 + 1) + 1) + 1)) (fwFu W18 1 (h 16 0 (i18 + 1))) H18) Q
                        refine w_if_ne 73 dX5_readMountain_68 (by decide) (by omega) (fun c68 => ?_) (fun c68 => ?_)
                        · (exfalso; omega)
                        · refine w_iconst dX5_readMountain_71 ?_
                          exact w_zret dX5_readMountain_72 rfl (Or.inl rfl) (k.1 _ _ _ _ _ (by simp only [qFirst, qFact, qNum, qWord, qSide, qThen, if_pos n17, e18, if_pos n19, if_pos n20, if_pos r20, if_pos n21, if_pos n22, if_neg r22]) (by first | assumption | omega) hH18.1)
                      · show fwWP mX5_readMountain (d + 3) 68 [some (aR 2 0), some (aR 4 1)] [aI 1] (rH h (((i18 + 1) + 1) + 1) 0 (-1) (fwFu W18 1 (h 16 0 (i18 + 1))) H18) Q
                        refine w_if_ne 73 dX5_readMountain_68 (by decide) (by omega) (fun c68 => ?_) (fun c68 => ?_)
                        · refine w_aload_n dX5_readMountain_73 rfl ?_
                          refine w_aload_n dX5_readMountain_74 rfl ?_
                          refine w_callV (d := d + 2) (S := [aR 4 1]) [] dX5_readMountain_75 ml_X5_100 ok_X5_passNumber vi_X5_passNumber rfl rfl (by decide) rfl (Nat.le_of_ble_eq_true rfl) ?_
                          have hln22 : (((i18 + 1) + 1) + 1) < T := tk_lt hT (by first | assumption | omega) n22 (by omega)
                          refine c_X5_passNumber (d := (d + 1)) (((i18 + 1) + 1) + 1) T (fwFu W18 1 (h 16 0 (i18 + 1))) H18 hT hln22 ?_
                          show fwWP mX5_readMountain (d + 3) 78 [some (aR 2 0), some (aR 4 1)] [aI (h 16 0 (((i18 + 1) + 1) + 1)), aR 4 1] (rH h ((((i18 + 1) + 1) + 1) + 1) 0 (-1) (fwFu W18 1 (h 16 0 (i18 + 1))) H18) Q
                          refine w_puti dX5_readMountain_78 fl_X5_109 fp_4_3 rfl (by decide) ?_
                          rw [show (fwUp (rH h ((((i18 + 1) + 1) + 1) + 1) 0 (-1) (fwFu W18 1 (h 16 0 (i18 + 1))) H18) 4 1 3 (h 16 0 (((i18 + 1) + 1) + 1))) = (rH h ((((i18 + 1) + 1) + 1) + 1) 0 (-1) (fwFu (fwFu W18 1 (h 16 0 (i18 + 1))) 2 (h 16 0 (((i18 + 1) + 1) + 1))) H18) from rH_rest _ _ _ _ _ _ _]
                          refine w_aload_n dX5_readMountain_81 rfl ?_
                          refine w_bipush dX5_readMountain_82 rfl ?_
                          refine w_callV (d := d + 2) (S := []) [aI 7] dX5_readMountain_84 ml_X5_85 ok_X5_pass vi_X5_pass rfl rfl (by decide) rfl (Nat.le_of_ble_eq_true rfl) ?_
                          refine c_X5_pass (d := (d + 1)) ((((i18 + 1) + 1) + 1) + 1) T 7 (fwFu (fwFu W18 1 (h 16 0 (i18 + 1))) 2 (h 16 0 (((i18 + 1) + 1) + 1))) H18 hT (by omega) (by omega) ⟨fun n23 => ?_, fun n23 => ?_⟩
                          · show fwWP mX5_readMountain (d + 3) 87 [some (aR 2 0), some (aR 4 1)] [aI 0] (rH h ((((i18 + 1) + 1) + 1) + 1) 1 (h 15 0 ((((i18 + 1) + 1) + 1) + 1)) (fwFu (fwFu W18 1 (h 16 0 (i18 + 1))) 2 (h 16 0 (((i18 + 1) + 1) + 1))) H18) Q
                            refine w_if_eq 101 dX5_readMountain_87 (by decide) (by omega) (fun c87 => ?_) (fun c87 => ?_)
                            · refine w_iconst dX5_readMountain_101 ?_
                              exact w_zret dX5_readMountain_102 rfl (Or.inl rfl) (k.1 _ _ _ _ _ (by simp only [qFirst, qFact, qNum, qWord, qSide, qThen, if_pos n17, e18, if_pos n19, if_pos n20, if_pos r20, if_pos n21, if_pos n22, if_pos r22, if_neg n23]) (by first | assumption | omega) hH18.1)
                            · (exfalso; omega)
                          · have hl23 : ((((i18 + 1) + 1) + 1) + 1) < T := tk_lt hT (by first | assumption | omega) n23 (by omega)
                            show fwWP mX5_readMountain (d + 3) 87 [some (aR 2 0), some (aR 4 1)] [aI 1] (rH h (((((i18 + 1) + 1) + 1) + 1) + 1) 0 (-1) (fwFu (fwFu W18 1 (h 16 0 (i18 + 1))) 2 (h 16 0 (((i18 + 1) + 1) + 1))) H18) Q
                            refine w_if_eq 101 dX5_readMountain_87 (by decide) (by omega) (fun c87 => ?_) (fun c87 => ?_)
                            · (exfalso; omega)
                            · refine w_aload_n dX5_readMountain_90 rfl ?_
                              refine w_iconst dX5_readMountain_91 ?_
                              refine w_sipush dX5_readMountain_92 rfl ?_
                              refine w_callV (d := d + 2) (S := []) [aI 1, aI 999] dX5_readMountain_95 ml_X5_96 ok_X5_isNumber vi_X5_isNumber rfl rfl (by decide) rfl (Nat.le_of_ble_eq_true rfl) ?_
                              refine c_X5_isNumber (d := (d + 1)) (((((i18 + 1) + 1) + 1) + 1) + 1) T 1 999 (fwFu (fwFu W18 1 (h 16 0 (i18 + 1))) 2 (h 16 0 (((i18 + 1) + 1) + 1))) H18 hT (by omega) (by omega) (by omega) ⟨fun n24 => ?_, fun n24 r24 => ?_, fun n24 r24 => ?_⟩
                              · show fwWP mX5_readMountain (d + 3) 98 [some (aR 2 0), some (aR 4 1)] [aI 0] (rH h (((((i18 + 1) + 1) + 1) + 1) + 1) 1 (h 15 0 (((((i18 + 1) + 1) + 1) + 1) + 1)) (fwFu (fwFu W18 1 (h 16 0 (i18 + 1))) 2 (h 16 0 (((i18 + 1) + 1) + 1))) H18) Q
                                refine w_if_ne 103 dX5_readMountain_98 (by decide) (by omega) (fun c98 => ?_) (fun c98 => ?_)
                                · (exfalso; omega)
                                · refine w_iconst dX5_readMountain_101 ?_
                                  exact w_zret dX5_readMountain_102 rfl (Or.inl rfl) (k.1 _ _ _ _ _ (by simp only [qFirst, qFact, qNum, qWord, qSide, qThen, if_pos n17, e18, if_pos n19, if_pos n20, if_pos r20, if_pos n21, if_pos n22, if_pos r22, if_pos n23, if_neg n24]) (by first | assumption | omega) hH18.1)
                              · show fwWP mX5_readMountain (d + 3) 98 [some (aR 2 0), some (aR 4 1)] [aI 0] (rH h (((((i18 + 1) + 1) + 1) + 1) + 1) 2 (h 15 0 (((((i18 + 1) + 1) + 1) + 1) + 1)) (fwFu (fwFu W18 1 (h 16 0 (i18 + 1))) 2 (h 16 0 (((i18 + 1) + 1) + 1))) H18) Q
                                refine w_if_ne 103 dX5_readMountain_98 (by decide) (by omega) (fun c98 => ?_) (fun c98 => ?_)
                                · (exfalso; omega)
                                · refine w_iconst dX5_readMountain_101 ?_
                                  exact w_zret dX5_readMountain_102 rfl (Or.inl rfl) (k.1 _ _ _ _ _ (by simp only [qFirst, qFact, qNum, qWord, qSide, qThen, if_pos n17, e18, if_pos n19, if_pos n20, if_pos r20, if_pos n21, if_pos n22, if_pos r22, if_pos n23, if_pos n24, if_neg r24]) (by first | assumption | omega) hH18.1)
                              · show fwWP mX5_readMountain (d + 3) 98 [some (aR 2 0), some (aR 4 1)] [aI 1] (rH h (((((i18 + 1) + 1) + 1) + 1) + 1) 0 (-1) (fwFu (fwFu W18 1 (h 16 0 (i18 + 1))) 2 (h 16 0 (((i18 + 1) + 1) + 1))) H18) Q
                                refine w_if_ne 103 dX5_readMountain_98 (by decide) (by omega) (fun c98 => ?_) (fun c98 => ?_)
                                · refine w_aload_n dX5_readMountain_103 rfl ?_
                                  refine w_getr 3 1 dX5_readMountain_104 fl_X5_12 rfl (by decide) ?_
                                  refine w_aload_n dX5_readMountain_107 rfl ?_
                                  refine w_callV (d := d + 2) (S := [aR 3 1]) [] dX5_readMountain_108 ml_X5_100 ok_X5_passNumber vi_X5_passNumber rfl rfl (by decide) rfl (Nat.le_of_ble_eq_true rfl) ?_
                                  have hln24 : (((((i18 + 1) + 1) + 1) + 1) + 1) < T := tk_lt hT (by first | assumption | omega) n24 (by omega)
                                  refine c_X5_passNumber (d := (d + 1)) (((((i18 + 1) + 1) + 1) + 1) + 1) T (fwFu (fwFu W18 1 (h 16 0 (i18 + 1))) 2 (h 16 0 (((i18 + 1) + 1) + 1))) H18 hT hln24 ?_
                                  show fwWP mX5_readMountain (d + 3) 111 [some (aR 2 0), some (aR 4 1)] [aI (h 16 0 (((((i18 + 1) + 1) + 1) + 1) + 1)), aR 3 1] (rH h ((((((i18 + 1) + 1) + 1) + 1) + 1) + 1) 0 (-1) (fwFu (fwFu W18 1 (h 16 0 (i18 + 1))) 2 (h 16 0 (((i18 + 1) + 1) + 1))) H18) Q
                                  refine w_puti dX5_readMountain_111 fl_X5_112 fp_3_4 rfl (by decide) ?_
                                  rw [show (fwUp (rH h ((((((i18 + 1) + 1) + 1) + 1) + 1) + 1) 0 (-1) (fwFu (fwFu W18 1 (h 16 0 (i18 + 1))) 2 (h 16 0 (((i18 + 1) + 1) + 1))) H18) 3 1 4 (h 16 0 (((((i18 + 1) + 1) + 1) + 1) + 1))) = (rH h ((((((i18 + 1) + 1) + 1) + 1) + 1) + 1) 0 (-1) (fwFu (fwFu (fwFu W18 1 (h 16 0 (i18 + 1))) 2 (h 16 0 (((i18 + 1) + 1) + 1))) 3 (h 16 0 (((((i18 + 1) + 1) + 1) + 1) + 1))) H18) from rH_law _ _ _ _ _ _ _]
                                  have hk9 := (t4 ((((((i18 + 1) + 1) + 1) + 1) + 1) + 1) (by omega)).1
                                  refine w_aload_n dX5_readMountain_114 rfl ?_
                                  refine w_aload_n dX5_readMountain_115 rfl ?_
                                  refine w_getiE (v := h 14 0 ((((((i18 + 1) + 1) + 1) + 1) + 1) + 1)) dX5_readMountain_116 fl_X5_43 rfl (by decide) rfl ?_
                                  refine w_bipush dX5_readMountain_119 rfl ?_
                                  refine w_icmp_ne 128 dX5_readMountain_121 (by decide) (by omega) (by omega) (fun c121 => ?_) (fun c121 => ?_)
                                  · refine w_iconst dX5_readMountain_128 ?_
                                    refine w_putz dX5_readMountain_129 fl_X5_115 fp_4_4 rfl (by first | omega | exact fwB_01 _) (by decide) ?_
                                    rw [show (fwUp (rH h ((((((i18 + 1) + 1) + 1) + 1) + 1) + 1) 0 (-1) (fwFu (fwFu (fwFu W18 1 (h 16 0 (i18 + 1))) 2 (h 16 0 (((i18 + 1) + 1) + 1))) 3 (h 16 0 (((((i18 + 1) + 1) + 1) + 1) + 1))) H18) 4 1 4 0) = (rH h ((((((i18 + 1) + 1) + 1) + 1) + 1) + 1) 0 (-1) (fwFu (fwFu (fwFu (fwFu W18 1 (h 16 0 (i18 + 1))) 2 (h 16 0 (((i18 + 1) + 1) + 1))) 3 (h 16 0 (((((i18 + 1) + 1) + 1) + 1) + 1))) 4 0) H18) from rH_last _ _ _ _ _ _ _]
                                    refine w_aload_n dX5_readMountain_132 rfl ?_
                                    refine w_aload_n dX5_readMountain_133 rfl ?_
                                    refine w_getiE (v := 0) dX5_readMountain_134 fl_X5_115 rfl (by decide) rfl ?_
                                    refine w_if_eq 145 dX5_readMountain_137 (by decide) (by omega) (fun c137 => ?_) (fun c137 => ?_)
                                    · refine w_bipush dX5_readMountain_145 rfl ?_
                                      refine w_callV (d := d + 2) (S := []) [aI 15] dX5_readMountain_147 ml_X5_85 ok_X5_pass vi_X5_pass rfl rfl (by decide) rfl (Nat.le_of_ble_eq_true rfl) ?_
                                      refine c_X5_pass (d := (d + 1)) ((((((i18 + 1) + 1) + 1) + 1) + 1) + 1) T 15 (fwFu (fwFu (fwFu (fwFu W18 1 (h 16 0 (i18 + 1))) 2 (h 16 0 (((i18 + 1) + 1) + 1))) 3 (h 16 0 (((((i18 + 1) + 1) + 1) + 1) + 1))) 4 0) H18 hT (by omega) (by omega) ⟨fun n25 => ?_, fun n25 => ?_⟩
                                      · show fwWP mX5_readMountain (d + 3) 150 [some (aR 2 0), some (aR 4 1)] [aI 0] (rH h ((((((i18 + 1) + 1) + 1) + 1) + 1) + 1) 1 (h 15 0 ((((((i18 + 1) + 1) + 1) + 1) + 1) + 1)) (fwFu (fwFu (fwFu (fwFu W18 1 (h 16 0 (i18 + 1))) 2 (h 16 0 (((i18 + 1) + 1) + 1))) 3 (h 16 0 (((((i18 + 1) + 1) + 1) + 1) + 1))) 4 0) H18) Q
                                        exact w_zret dX5_readMountain_150 rfl (Or.inl rfl) (k.1 _ _ _ _ _ (by simp only [qFirst, qFact, qNum, qWord, qSide, qThen, if_pos n17, e18, if_pos n19, if_pos n20, if_pos r20, if_pos n21, if_pos n22, if_pos r22, if_pos n23, if_pos n24, if_pos r24, if_neg c121, if_neg n25]) (by first | assumption | omega) hH18.1)
                                      · have hl25 : ((((((i18 + 1) + 1) + 1) + 1) + 1) + 1) < T := tk_lt hT (by first | assumption | omega) n25 (by omega)
                                        show fwWP mX5_readMountain (d + 3) 150 [some (aR 2 0), some (aR 4 1)] [aI 1] (rH h (((((((i18 + 1) + 1) + 1) + 1) + 1) + 1) + 1) 0 (-1) (fwFu (fwFu (fwFu (fwFu W18 1 (h 16 0 (i18 + 1))) 2 (h 16 0 (((i18 + 1) + 1) + 1))) 3 (h 16 0 (((((i18 + 1) + 1) + 1) + 1) + 1))) 4 0) H18) Q
                                        exact w_zret dX5_readMountain_150 rfl (Or.inr rfl) (k.2 _ _ _ (by simp only [qFirst, qFact, qNum, qWord, qSide, qThen, if_pos n17, e18, if_pos n19, if_pos n20, if_pos r20, if_pos n21, if_pos n22, if_pos r22, if_pos n23, if_pos n24, if_pos r24, if_neg c121, if_pos n25]) (by first | assumption | omega) (rHr_fu (rHr_fu (rHr_fu (rHr_fu hH18 (by omega) (by omega)) (by omega) (by omega)) (by omega) (by omega)) (by omega) (by omega)))
                                    · (exfalso; omega)
                                  · refine w_iconst dX5_readMountain_124 ?_
                                    refine w_goto 129 dX5_readMountain_125 (by decide) ?_
                                    refine w_putz dX5_readMountain_129 fl_X5_115 fp_4_4 rfl (by first | omega | exact fwB_01 _) (by decide) ?_
                                    rw [show (fwUp (rH h ((((((i18 + 1) + 1) + 1) + 1) + 1) + 1) 0 (-1) (fwFu (fwFu (fwFu W18 1 (h 16 0 (i18 + 1))) 2 (h 16 0 (((i18 + 1) + 1) + 1))) 3 (h 16 0 (((((i18 + 1) + 1) + 1) + 1) + 1))) H18) 4 1 4 1) = (rH h ((((((i18 + 1) + 1) + 1) + 1) + 1) + 1) 0 (-1) (fwFu (fwFu (fwFu (fwFu W18 1 (h 16 0 (i18 + 1))) 2 (h 16 0 (((i18 + 1) + 1) + 1))) 3 (h 16 0 (((((i18 + 1) + 1) + 1) + 1) + 1))) 4 1) H18) from rH_last _ _ _ _ _ _ _]
                                    refine w_aload_n dX5_readMountain_132 rfl ?_
                                    refine w_aload_n dX5_readMountain_133 rfl ?_
                                    refine w_getiE (v := 1) dX5_readMountain_134 fl_X5_115 rfl (by decide) rfl ?_
                                    refine w_if_eq 145 dX5_readMountain_137 (by decide) (by omega) (fun c137 => ?_) (fun c137 => ?_)
                                    · (exfalso; omega)
                                    · refine w_bipush dX5_readMountain_140 rfl ?_
                                      refine w_goto 147 dX5_readMountain_142 (by decide) ?_
                                      refine w_callV (d := d + 2) (S := []) [aI 16] dX5_readMountain_147 ml_X5_85 ok_X5_pass vi_X5_pass rfl rfl (by decide) rfl (Nat.le_of_ble_eq_true rfl) ?_
                                      refine c_X5_pass (d := (d + 1)) ((((((i18 + 1) + 1) + 1) + 1) + 1) + 1) T 16 (fwFu (fwFu (fwFu (fwFu W18 1 (h 16 0 (i18 + 1))) 2 (h 16 0 (((i18 + 1) + 1) + 1))) 3 (h 16 0 (((((i18 + 1) + 1) + 1) + 1) + 1))) 4 1) H18 hT (by omega) (by omega) ⟨fun n26 => ?_, fun n26 => ?_⟩
                                      · exact absurd c121 n26
                                      · have hl26 : ((((((i18 + 1) + 1) + 1) + 1) + 1) + 1) < T := tk_lt hT (by first | assumption | omega) n26 (by omega)
                                        show fwWP mX5_readMountain (d + 3) 150 [some (aR 2 0), some (aR 4 1)] [aI 1] (rH h (((((((i18 + 1) + 1) + 1) + 1) + 1) + 1) + 1) 0 (-1) (fwFu (fwFu (fwFu (fwFu W18 1 (h 16 0 (i18 + 1))) 2 (h 16 0 (((i18 + 1) + 1) + 1))) 3 (h 16 0 (((((i18 + 1) + 1) + 1) + 1) + 1))) 4 1) H18) Q
                                        exact w_zret dX5_readMountain_150 rfl (Or.inr rfl) (k.2 _ _ _ (by simp only [qFirst, qFact, qNum, qWord, qSide, qThen, if_pos n17, e18, if_pos n19, if_pos n20, if_pos r20, if_pos n21, if_pos n22, if_pos r22, if_pos n23, if_pos n24, if_pos r24, if_pos c121, if_pos n26]) (by first | assumption | omega) (rHr_fu (rHr_fu (rHr_fu (rHr_fu hH18 (by omega) (by omega)) (by omega) (by omega)) (by omega) (by omega)) (by omega) (by omega)))
                                · (exfalso; omega)
                        · (exfalso; omega)
                · (exfalso; omega)
set_option maxRecDepth 100000 in
set_option maxHeartbeats 4000000 in
theorem c_X5_readLine {d : Nat} {h : fwH} {Q : Option fwV → fwH → Prop} (i T : Nat) (W H : Nat → Int) (hT : tk h T) (hi : i ≤ T) (h6 : 0 ≤ W 6 ∧ W 6 ≤ 8) (h0 : 0 ≤ W 0 ∧ W 0 ≤ 10) (h7 : 0 ≤ W 7 ∧ W 7 ≤ 1000) (h70 : W 7 = 0 → W 0 = 0) (hH : rHr W H) (k : rK h T Q (qLine (h 14 0) (h 16 0) i W)) : fwCt mX5_readLine (d + 5) [aR 2 0] (rH h i 0 (-1) W H) Q := by
  refine fwCt_of [some (aR 2 0), none] rfl rfl rfl ?_
  obtain ⟨t1, t2, t3, t4⟩ := id hT
  refine w_aload_n dX5_readLine_0 rfl ?_
  refine w_getr 3 1 dX5_readLine_1 fl_X5_12 rfl (by decide) ?_
  refine w_getiE (v := W 7) dX5_readLine_4 fl_X5_50 rfl (by decide) rfl ?_
  refine w_if_ne 18 dX5_readLine_7 (by decide) (by omega) (fun c7 => ?_) (fun c7 => ?_)
  · have hkr := (t4 i hi).1
    refine w_aload_n dX5_readLine_18 rfl ?_
    refine w_getiE (v := h 14 0 i) dX5_readLine_19 fl_X5_43 rfl (by decide) rfl ?_
    refine w_bipush dX5_readLine_22 rfl ?_
    refine w_icmp_ne 34 dX5_readLine_24 (by decide) (by omega) (by omega) (fun c24 => ?_) (fun c24 => ?_)
    · refine w_aload_n dX5_readLine_34 rfl ?_
      refine w_callV (d := d + 4) (S := []) [] dX5_readLine_35 ml_X5_82 ok_X5_readHeap vi_X5_readHeap rfl rfl (by decide) rfl (Nat.le_of_ble_eq_true rfl) ?_
      refine c_X5_readHeap (d := (d + 2)) i T W H hT hi (by omega) hH ⟨fun fk27 j27 i27 W27 H27 e27 hj27 hg27 => ?_, fun i27 W27 H27 e27 hi27 hH27 => ?_⟩
      · show fwWP mX5_readLine (d + 5) 38 [some (aR 2 0), none] [aI 0] (rH h i27 fk27 (h 15 0 j27) W27 H27) Q
        refine w_istore_n [some (aR 2 0), some (aI 0)] dX5_readLine_38 rfl (by decide) ?_
        refine w_iload_n dX5_readLine_39 rfl ?_
        refine w_if_eq 55 dX5_readLine_40 (by decide) (by omega) (fun c40 => ?_) (fun c40 => ?_)
        · refine w_iconst dX5_readLine_55 ?_
          exact w_zret dX5_readLine_56 rfl (Or.inl rfl) (k.1 _ _ _ _ _ (by simp only [qLine, qBody, qWord, qThen, if_neg c7, if_neg c24, e27]) hj27 hg27)
        · (exfalso; omega)
      · show fwWP mX5_readLine (d + 5) 38 [some (aR 2 0), none] [aI 1] (rH h i27 0 (-1) W27 H27) Q
        refine w_istore_n [some (aR 2 0), some (aI 1)] dX5_readLine_38 rfl (by decide) ?_
        refine w_iload_n dX5_readLine_39 rfl ?_
        refine w_if_eq 55 dX5_readLine_40 (by decide) (by omega) (fun c40 => ?_) (fun c40 => ?_)
        · (exfalso; omega)
        · refine w_aload_n dX5_readLine_43 rfl ?_
          refine w_iconst dX5_readLine_44 ?_
          refine w_callV (d := d + 4) (S := []) [aI 2] dX5_readLine_45 ml_X5_85 ok_X5_pass vi_X5_pass rfl rfl (by decide) rfl (Nat.le_of_ble_eq_true rfl) ?_
          refine c_X5_pass (d := (d + 3)) i27 T 2 W27 H27 hT hi27 (by omega) ⟨fun n28 => ?_, fun n28 => ?_⟩
          · show fwWP mX5_readLine (d + 5) 48 [some (aR 2 0), some (aI 1)] [aI 0] (rH h i27 1 (h 15 0 i27) W27 H27) Q
            refine w_if_eq 55 dX5_readLine_48 (by decide) (by omega) (fun c48 => ?_) (fun c48 => ?_)
            · refine w_iconst dX5_readLine_55 ?_
              exact w_zret dX5_readLine_56 rfl (Or.inl rfl) (k.1 _ _ _ _ _ (by simp only [qLine, qBody, qWord, qThen, if_neg c7, if_neg c24, e27, if_neg n28]) (by first | assumption | omega) hH27.1)
            · (exfalso; omega)
          · have hl28 : i27 < T := tk_lt hT (by first | assumption | omega) n28 (by omega)
            show fwWP mX5_readLine (d + 5) 48 [some (aR 2 0), some (aI 1)] [aI 1] (rH h (i27 + 1) 0 (-1) W27 H27) Q
            refine w_if_eq 55 dX5_readLine_48 (by decide) (by omega) (fun c48 => ?_) (fun c48 => ?_)
            · (exfalso; omega)
            · refine w_iconst dX5_readLine_51 ?_
              refine w_goto 56 dX5_readLine_52 (by decide) ?_
              exact w_zret dX5_readLine_56 rfl (Or.inr rfl) (k.2 _ _ _ (by simp only [qLine, qBody, qWord, qThen, if_neg c7, if_neg c24, e27, if_pos n28]) (by first | assumption | omega) hH27)
    · refine w_aload_n dX5_readLine_27 rfl ?_
      refine w_callV (d := d + 4) (S := []) [] dX5_readLine_28 ml_X5_79 ok_X5_readFolk vi_X5_readFolk rfl rfl (by decide) rfl (Nat.le_of_ble_eq_true rfl) ?_
      refine c_X5_readFolk (d := d) i T (W 6).toNat W H hT hi (by omega) (by omega) (by omega) hH ⟨fun fk29 j29 i29 W29 H29 e29 hj29 hg29 => ?_, fun i29 W29 H29 e29 hi29 hH29 => ?_⟩
      · show fwWP mX5_readLine (d + 5) 31 [some (aR 2 0), none] [aI 0] (rH h i29 fk29 (h 15 0 j29) W29 H29) Q
        refine w_goto 38 dX5_readLine_31 (by decide) ?_
        refine w_istore_n [some (aR 2 0), some (aI 0)] dX5_readLine_38 rfl (by decide) ?_
        refine w_iload_n dX5_readLine_39 rfl ?_
        refine w_if_eq 55 dX5_readLine_40 (by decide) (by omega) (fun c40 => ?_) (fun c40 => ?_)
        · refine w_iconst dX5_readLine_55 ?_
          exact w_zret dX5_readLine_56 rfl (Or.inl rfl) (k.1 _ _ _ _ _ (by simp only [qLine, qBody, qWord, qThen, if_neg c7, if_pos c24, e29]) hj29 hg29)
        · (exfalso; omega)
      · show fwWP mX5_readLine (d + 5) 31 [some (aR 2 0), none] [aI 1] (rH h i29 0 (-1) W29 H29) Q
        refine w_goto 38 dX5_readLine_31 (by decide) ?_
        refine w_istore_n [some (aR 2 0), some (aI 1)] dX5_readLine_38 rfl (by decide) ?_
        refine w_iload_n dX5_readLine_39 rfl ?_
        refine w_if_eq 55 dX5_readLine_40 (by decide) (by omega) (fun c40 => ?_) (fun c40 => ?_)
        · (exfalso; omega)
        · refine w_aload_n dX5_readLine_43 rfl ?_
          refine w_iconst dX5_readLine_44 ?_
          refine w_callV (d := d + 4) (S := []) [aI 2] dX5_readLine_45 ml_X5_85 ok_X5_pass vi_X5_pass rfl rfl (by decide) rfl (Nat.le_of_ble_eq_true rfl) ?_
          refine c_X5_pass (d := (d + 3)) i29 T 2 W29 H29 hT hi29 (by omega) ⟨fun n30 => ?_, fun n30 => ?_⟩
          · show fwWP mX5_readLine (d + 5) 48 [some (aR 2 0), some (aI 1)] [aI 0] (rH h i29 1 (h 15 0 i29) W29 H29) Q
            refine w_if_eq 55 dX5_readLine_48 (by decide) (by omega) (fun c48 => ?_) (fun c48 => ?_)
            · refine w_iconst dX5_readLine_55 ?_
              exact w_zret dX5_readLine_56 rfl (Or.inl rfl) (k.1 _ _ _ _ _ (by simp only [qLine, qBody, qWord, qThen, if_neg c7, if_pos c24, e29, if_neg n30]) (by first | assumption | omega) hH29.1)
            · (exfalso; omega)
          · have hl30 : i29 < T := tk_lt hT (by first | assumption | omega) n30 (by omega)
            show fwWP mX5_readLine (d + 5) 48 [some (aR 2 0), some (aI 1)] [aI 1] (rH h (i29 + 1) 0 (-1) W29 H29) Q
            refine w_if_eq 55 dX5_readLine_48 (by decide) (by omega) (fun c48 => ?_) (fun c48 => ?_)
            · (exfalso; omega)
            · refine w_iconst dX5_readLine_51 ?_
              refine w_goto 56 dX5_readLine_52 (by decide) ?_
              exact w_zret dX5_readLine_56 rfl (Or.inr rfl) (k.2 _ _ _ (by simp only [qLine, qBody, qWord, qThen, if_neg c7, if_pos c24, e29, if_pos n30]) (by first | assumption | omega) hH29)
  · refine w_aload_n dX5_readLine_10 rfl ?_
    refine w_callV (d := d + 4) (S := []) [] dX5_readLine_11 ml_X5_76 ok_X5_readMountain vi_X5_readMountain rfl rfl (by decide) rfl (Nat.le_of_ble_eq_true rfl) ?_
    refine c_X5_readMountain (d := (d + 1)) i T W H hT hi (by omega) hH ⟨fun fk31 j31 i31 W31 H31 e31 hj31 hg31 => ?_, fun i31 W31 H31 e31 hi31 hH31 => ?_⟩
    · show fwWP mX5_readLine (d + 5) 14 [some (aR 2 0), none] [aI 0] (rH h i31 fk31 (h 15 0 j31) W31 H31) Q
      refine w_istore_n [some (aR 2 0), some (aI 0)] dX5_readLine_14 rfl (by decide) ?_
      refine w_goto 39 dX5_readLine_15 (by decide) ?_
      refine w_iload_n dX5_readLine_39 rfl ?_
      refine w_if_eq 55 dX5_readLine_40 (by decide) (by omega) (fun c40 => ?_) (fun c40 => ?_)
      · refine w_iconst dX5_readLine_55 ?_
        exact w_zret dX5_readLine_56 rfl (Or.inl rfl) (k.1 _ _ _ _ _ (by simp only [qLine, qBody, qWord, qThen, if_pos c7, e31]) hj31 hg31)
      · (exfalso; omega)
    · show fwWP mX5_readLine (d + 5) 14 [some (aR 2 0), none] [aI 1] (rH h i31 0 (-1) W31 H31) Q
      refine w_istore_n [some (aR 2 0), some (aI 1)] dX5_readLine_14 rfl (by decide) ?_
      refine w_goto 39 dX5_readLine_15 (by decide) ?_
      refine w_iload_n dX5_readLine_39 rfl ?_
      refine w_if_eq 55 dX5_readLine_40 (by decide) (by omega) (fun c40 => ?_) (fun c40 => ?_)
      · (exfalso; omega)
      · refine w_aload_n dX5_readLine_43 rfl ?_
        refine w_iconst dX5_readLine_44 ?_
        refine w_callV (d := d + 4) (S := []) [aI 2] dX5_readLine_45 ml_X5_85 ok_X5_pass vi_X5_pass rfl rfl (by decide) rfl (Nat.le_of_ble_eq_true rfl) ?_
        refine c_X5_pass (d := (d + 3)) i31 T 2 W31 H31 hT hi31 (by omega) ⟨fun n32 => ?_, fun n32 => ?_⟩
        · show fwWP mX5_readLine (d + 5) 48 [some (aR 2 0), some (aI 1)] [aI 0] (rH h i31 1 (h 15 0 i31) W31 H31) Q
          refine w_if_eq 55 dX5_readLine_48 (by decide) (by omega) (fun c48 => ?_) (fun c48 => ?_)
          · refine w_iconst dX5_readLine_55 ?_
            exact w_zret dX5_readLine_56 rfl (Or.inl rfl) (k.1 _ _ _ _ _ (by simp only [qLine, qBody, qWord, qThen, if_pos c7, e31, if_neg n32]) (by first | assumption | omega) hH31.1)
          · (exfalso; omega)
        · have hl32 : i31 < T := tk_lt hT (by first | assumption | omega) n32 (by omega)
          show fwWP mX5_readLine (d + 5) 48 [some (aR 2 0), some (aI 1)] [aI 1] (rH h (i31 + 1) 0 (-1) W31 H31) Q
          refine w_if_eq 55 dX5_readLine_48 (by decide) (by omega) (fun c48 => ?_) (fun c48 => ?_)
          · (exfalso; omega)
          · refine w_iconst dX5_readLine_51 ?_
            refine w_goto 56 dX5_readLine_52 (by decide) ?_
            exact w_zret dX5_readLine_56 rfl (Or.inr rfl) (k.2 _ _ _ (by simp only [qLine, qBody, qWord, qThen, if_pos c7, e31, if_pos n32]) (by first | assumption | omega) hH31)
end
section
/-! where the TOKENS lie -/
theorem mFst_not {p : Nat → Bool} : ∀ n : Nat, mFst p n < n → p (mFst p n) = false := by
  intro n
  induction n with
  | zero => intro h; omega
  | succ n ih =>
    intro h
    rw [mFst] at h ⊢
    split at h
    · omega
    · rename_i q
      rw [if_neg q]
      have hle := mFst_le p n
      rcases Nat.lt_or_ge (mFst p n) n with e | e
      · exact ih e
      · have e2 : mFst p n = n := by omega
        rw [e2]
        cases hp : p n with
        | false => rfl
        | true => exact absurd ⟨e2, hp⟩ q
/-- a run of bytes: from p up to e, where it stops -/
def isRun (q : Int → Bool) (b : Nat → Int) (p e : Nat) : Prop := p ≤ e ∧ (∀ j, p ≤ j → j < e → q (b j) = true) ∧ q (b e) = false
theorem isRun.one {q : Int → Bool} {b : Nat → Int} {p e f : Nat} (h : isRun q b p e) (k : isRun q b p f) : e = f := by
  rcases Nat.lt_trichotomy e f with x | x | x
  · have := k.2.1 e h.1 x
    rw [h.2.2] at this
    cases this
  · exact x
  · have := h.2.1 f k.1 x
    rw [k.2.2] at this
    cases this
theorem run_of {h : fwH} (hT : tOk h) {q : Int → Bool} (hq : q (-1) = false) {p : Nat} (hp : (p : Int) ≤ h 1 0 1) : isRun q (mBy h) p (p + mFst (fun i => q (mBy h (p + i))) 900) := by
  refine ⟨by omega, fun j h1 h2 => ?_, ?_⟩
  · have := mFst_pre (p := fun i => q (mBy h (p + i))) 900 (j - p) (by omega)
    rw [show p + (j - p) = j by omega] at this
    exact this
  · rcases Nat.lt_or_ge (mFst (fun i => q (mBy h (p + i))) 900) 900 with e | e
    · exact mFst_not (p := fun i => q (mBy h (p + i))) 900 e
    · have h1 := mRun_le (h := h) (q := q) hq hp
      have h2 := hT.2
      rw [mBy_end (by omega)]
      exact hq
def mBlB (x : Int) : Bool := decide (mBlank x)
def skB (b : Nat → Int) (p : Nat) : Nat := p + mFst (fun i => mBlB (b (p + i))) 900
def tokP (b : Nat → Int) : Nat → Nat
  | 0 => skB b 0
  | i + 1 => skB b (mNxt b (tokP b i))
theorem skB_run {h : fwH} (hT : tOk h) {p : Nat} (hp : (p : Int) ≤ h 1 0 1) : isRun mBlB (mBy h) p (skB (mBy h) p) := run_of hT (by decide) hp
theorem skB_le {h : fwH} {p : Nat} (hp : (p : Int) ≤ h 1 0 1) : (skB (mBy h) p : Int) ≤ h 1 0 1 := mRun_le (q := mBlB) (by decide) hp
theorem skB_bl {h : fwH} (hT : tOk h) {p : Nat} (hp : (p : Int) < h 1 0 1) (hb : mBlank (mBy h p)) : skB (mBy h) (p + 1) = skB (mBy h) p := by
  have r1 := skB_run hT (p := p) (by omega)
  have r2 := skB_run hT (p := p + 1) (by omega)
  refine isRun.one (q := mBlB) (b := mBy h) (p := p) ⟨by have := r2.1; omega, fun j h1 h2 => ?_, r2.2.2⟩ r1
  rcases Nat.lt_or_ge p j with e | e
  · exact r2.2.1 j (by omega) h2
  · rw [show j = p by omega]
    exact decide_eq_true hb
theorem skB_nb {h : fwH} (hT : tOk h) {p : Nat} (hp : (p : Int) ≤ h 1 0 1) (hb : ¬ mBlank (mBy h p)) : skB (mBy h) p = p :=
  isRun.one (skB_run hT hp) ⟨Nat.le_refl _, fun j h1 h2 => by omega, decide_eq_false hb⟩
theorem mNxt_gt {h : fwH} (hT : tOk h) {p : Nat} (hp : (p : Int) < h 1 0 1) : p < mNxt (mBy h) p := by
  unfold mNxt
  split
  · rename_i q
    have r := run_of hT (q := mLet) (by decide) (p := p) (by omega)
    have := r.1
    unfold mLetEnd
    rcases Nat.lt_or_ge p (p + mFst (fun i => mLet (mBy h (p + i))) 900) with e | e
    · exact e
    · have h2 := r.2.2
      rw [show p + mFst (fun i => mLet (mBy h (p + i))) 900 = p by omega, q] at h2
      cases h2
  · split
    · rename_i q
      have r := run_of hT (q := mDig) (by decide) (p := p) (by omega)
      have := r.1
      unfold mDigEnd
      rcases Nat.lt_or_ge p (p + mFst (fun i => mDig (mBy h (p + i))) 900) with e | e
      · exact e
      · have h2 := r.2.2
        rw [show p + mFst (fun i => mDig (mBy h (p + i))) 900 = p by omega, q] at h2
        cases h2
    · omega
theorem mCu_tok {h : fwH} (hT : tOk h) (s0 : fwCu) (h1 : s0.1 = 0) (h2 : s0.2.1 = 0) : ∀ k : Nat, skB (mBy h) (mCu (mBy h) (h 1 0 1) s0 k).1 = tokP (mBy h) (mCu (mBy h) (h 1 0 1) s0 k).2.1 ∧ (∀ j : Nat, j < (mCu (mBy h) (h 1 0 1) s0 k).2.1 → (mCu (mBy h) (h 1 0 1) s0 k).2.2.1 j = mKd (mBy h) (tokP (mBy h) j) ∧ (mCu (mBy h) (h 1 0 1) s0 k).2.2.2.1 j = (tokP (mBy h) j : Int) ∧ (mCu (mBy h) (h 1 0 1) s0 k).2.2.2.2 j = mVl (mBy h) (tokP (mBy h) j) ∧ (tokP (mBy h) j : Int) < h 1 0 1) ∧ (k ≤ (mCu (mBy h) (h 1 0 1) s0 k).1 ∨ h 1 0 1 ≤ (mCu (mBy h) (h 1 0 1) s0 k).1) := by
  intro k
  induction k with
  | zero =>
    rw [mCu, h1, h2]
    exact ⟨rfl, fun j hj => by omega, Or.inl (Nat.zero_le _)⟩
  | succ k ih =>
    have hr := mCu_rng (h := h) (s0 := s0) (by rw [h1]; exact hT.1) h2 k
    revert ih hr
    rw [mCu]
    generalize mCu (mBy h) (h 1 0 1) s0 k = s
    intro ih hr
    obtain ⟨i1, i2, i3⟩ := ih
    split
    · rename_i q
      split
      · rename_i qb
        refine ⟨?_, i2, ?_⟩
        · dsimp only
          rw [skB_bl hT q qb]
          exact i1
        · dsimp only
          omega
      · rename_i qb
        have hp := skB_nb hT (by omega) qb
        rw [hp] at i1
        have hg := mNxt_gt hT q
        refine ⟨?_, ?_, ?_⟩
        · dsimp only
          rw [tokP, ← i1]
        · intro j hj
          dsimp only at hj ⊢
          unfold fwFu
          by_cases e : j = s.2.1
          · subst e
            rw [if_pos rfl, if_pos rfl, if_pos rfl, ← i1]
            exact ⟨rfl, rfl, rfl, q⟩
          · rw [if_neg e, if_neg e, if_neg e]
            exact i2 j (by omega)
        · dsimp only
          omega
    · rename_i q
      exact ⟨i1, i2, Or.inr (by omega)⟩
theorem mWk_rng (b : Nat → Int) (p q : Nat) : 1 ≤ mWk b p q ∧ mWk b p q ≤ 16 := by
  unfold mWk
  have := mFst_le (mWkB b p q) 13
  split <;> omega
theorem mKd_rng (b : Nat → Int) (p : Nat) : 1 ≤ mKd b p ∧ mKd b p ≤ 16 := by
  unfold mKd
  have := mWk_rng b p (mLetEnd b p)
  (repeat' split) <;> omega
theorem mVl_rng (b : Nat → Int) (p : Nat) : 0 ≤ mVl b p ∧ mVl b p ≤ 1000000 := by
  unfold mVl
  split
  · omega
  · split
    · exact mNum_rng _ (fun j hj => mFst_pre (p := fun i => mDig (b (p + i))) 900 j hj)
    · omega
/-- how many TOKENS there are, the end's not counted -/
def tkN (h : fwH) : Nat := (mCuE h).2.1
theorem cut_at {h : fwH} (hT : tOk h) : (∀ i : Nat, i < tkN h → cutH h 14 0 i = mKd (mBy h) (tokP (mBy h) i) ∧ cutH h 15 0 i = (tokP (mBy h) i : Int) ∧ cutH h 16 0 i = mVl (mBy h) (tokP (mBy h) i) ∧ (tokP (mBy h) i : Int) < h 1 0 1) ∧ (tokP (mBy h) (tkN h) : Int) = h 1 0 1 ∧ cutH h 14 0 (tkN h) = 0 ∧ cutH h 15 0 (tkN h) = h 1 0 1 ∧ cutH h 16 0 (tkN h) = 0 ∧ tkN h ≤ 900 ∧ cutH h 1 0 5 = (tkN h : Int) + 1 := by
  have k := mCu_tok hT (0, 0, h 14 0, h 15 0, h 16 0) rfl rfl 900
  have hr := mCu_rng (h := h) (s0 := (0, 0, h 14 0, h 15 0, h 16 0)) (by exact hT.1) rfl 900
  have h2 := hT.2
  obtain ⟨k1, k2, k3⟩ := k
  have e1 : ((mCuE h).1 : Int) = h 1 0 1 := by unfold mCuE; omega
  have kk : tokP (mBy h) (tkN h) = (mCuE h).1 := by
    unfold tkN
    rw [mCuE, ← k1]
    exact skB_nb hT (by omega) (by rw [mBy_end (by have := e1; unfold mCuE at this; omega)]; decide)
  refine ⟨fun i hi => ?_, ?_, ?_, ?_, ?_, hr.2, rfl⟩
  · have hne : ¬ i = (mCuE h).2.1 := by unfold tkN at hi; omega
    have := k2 i hi
    refine ⟨?_, ?_, ?_, this.2.2.2⟩
    · show fwFu (mCuE h).2.2.1 (mCuE h).2.1 0 i = _
      unfold fwFu
      rw [if_neg hne]
      exact this.1
    · show fwFu (mCuE h).2.2.2.1 (mCuE h).2.1 (h 1 0 1) i = _
      unfold fwFu
      rw [if_neg hne]
      exact this.2.1
    · show fwFu (mCuE h).2.2.2.2 (mCuE h).2.1 0 i = _
      unfold fwFu
      rw [if_neg hne]
      exact this.2.2.1
  · rw [kk]; exact e1
  · show fwFu (mCuE h).2.2.1 (mCuE h).2.1 0 (tkN h) = 0
    unfold fwFu tkN
    rw [if_pos rfl]
  · show fwFu (mCuE h).2.2.2.1 (mCuE h).2.1 (h 1 0 1) (tkN h) = _
    unfold fwFu tkN
    rw [if_pos rfl]
  · show fwFu (mCuE h).2.2.2.2 (mCuE h).2.1 0 (tkN h) = 0
    unfold fwFu tkN
    rw [if_pos rfl]
theorem tk_cut {h : fwH} (hT : tOk h) : tk (cutH h) (tkN h) := by
  obtain ⟨k1, k2, k3, k4, k5, k6, k7⟩ := cut_at hT
  refine ⟨k7, k6, k3, fun i hi => ?_⟩
  rcases Nat.lt_or_ge i (tkN h) with e | e
  · obtain ⟨a, -, c, -⟩ := k1 i e
    rw [a, c]
    have := mKd_rng (mBy h) (tokP (mBy h) i)
    have := mVl_rng (mBy h) (tokP (mBy h) i)
    omega
  · rw [show i = tkN h by omega, k3, k5]
    omega
theorem tokP_le {h : fwH} (hT : tOk h) {i : Nat} (hi : i ≤ tkN h) : (tokP (mBy h) i : Int) ≤ h 1 0 1 := by
  obtain ⟨k1, k2, -⟩ := cut_at hT
  rcases Nat.lt_or_ge i (tkN h) with e | e
  · have := (k1 i e).2.2.2
    omega
  · rw [show i = tkN h by omega, k2]
    omega
/-! what a reading gives -/
def qOk (P : Nat → (Nat → Int) → Prop) (q : fwPq) : Prop := ∀ i W, q = .inr (i, W) → P i W
theorem qOk_then {P R : Nat → (Nat → Int) → Prop} {a : fwPq} {f : Nat → (Nat → Int) → fwPq} (h1 : qOk P a) (h2 : ∀ i W, P i W → qOk R (f i W)) : qOk R (qThen a f) := by
  intro i W e
  unfold qThen at e
  cases a with
  | inl x => cases e
  | inr s => exact h2 s.1 s.2 (h1 s.1 s.2 rfl) i W e
theorem qOk_word {P : Nat → (Nat → Int) → Prop} {K : Nat → Int} {x : Int} {i : Nat} {W : Nat → Int} (h : K i = x → P (i + 1) W) : qOk P (qWord K x i W) := by
  intro j W' e
  unfold qWord at e
  split at e
  · rename_i q
    cases e
    exact h q
  · cases e
theorem qOk_num {P : Nat → (Nat → Int) → Prop} {K V : Nat → Int} {lo hi : Int} {f : Int → Nat → (Nat → Int)} {i : Nat} (h : lo ≤ V i → V i ≤ hi → P (i + 1) (f (V i) i)) : qOk P (qNum K V lo hi f i) := by
  intro j W' e
  unfold qNum at e
  split at e
  · split at e
    · rename_i q
      cases e
      exact h q.1 q.2
    · cases e
  · cases e
theorem qOk_fact {P : Nat → (Nat → Int) → Prop} {K V : Nat → Int} {x lo hi : Int} {s i : Nat} {W : Nat → Int} (h : ∀ v, lo ≤ v → v ≤ hi → P (i + 1 + 1) (fwFu W s v)) : qOk P (qFact K V x lo hi s i W) :=
  qOk_then (P := fun j W' => j = i + 1 ∧ W' = W) (qOk_word (fun _ => ⟨rfl, rfl⟩)) (fun j W' e => by
    obtain ⟨rfl, rfl⟩ := e
    exact qOk_num (fun h1 h2 => h _ h1 h2))
def wFa (W : Nat → Int) (f : Nat) : Prop := (0 ≤ W (19 + (7 * f + 0)) ∧ W (19 + (7 * f + 0)) < W 0) ∧ (0 ≤ W (19 + (7 * f + 1)) ∧ W (19 + (7 * f + 1)) ≤ 99) ∧ (0 ≤ W (19 + (7 * f + 2)) ∧ W (19 + (7 * f + 2)) ≤ 9) ∧ (0 ≤ W (19 + (7 * f + 3)) ∧ W (19 + (7 * f + 3)) ≤ 9) ∧ (0 ≤ W (19 + (7 * f + 4)) ∧ W (19 + (7 * f + 4)) ≤ 9) ∧ (0 ≤ W (19 + (7 * f + 5)) ∧ W (19 + (7 * f + 5)) ≤ 7) ∧ (0 ≤ W (19 + (7 * f + 6)) ∧ W (19 + (7 * f + 6)) ≤ 255)
/-- a picture that a text can give -/
def wG (W : Nat → Int) : Prop := (3 ≤ W 0 ∧ W 0 ≤ 10) ∧ (∀ c : Nat, c < 10 → 0 ≤ W (9 + c) ∧ W (9 + c) ≤ 40) ∧ (0 ≤ W 1 ∧ W 1 ≤ 40) ∧ (1 ≤ W 2 ∧ W 2 ≤ 40) ∧ (1 ≤ W 3 ∧ W 3 ≤ 999) ∧ (W 4 = 0 ∨ W 4 = 1) ∧ (0 ≤ W 5 ∧ W 5 < W 0) ∧ (0 ≤ W 6 ∧ W 6 ≤ 8) ∧ (∀ f : Nat, f < 8 → wFa W f) ∧ (∀ j : Nat, 7 * (W 6).toNat ≤ j → j < 56 → W (19 + j) = 0)
theorem fwFu_ne {g : Nat → Int} {j s : Nat} {x : Int} (h : s ≠ j) : fwFu g j x s = g s := if_neg h
theorem fwFu_at (g : Nat → Int) (j : Nat) (x : Int) : fwFu g j x j = x := if_pos rfl
theorem qOk_hts {K V : Nat → Int} : ∀ (n i : Nat) (W : Nat → Int), n ≤ 11 → W 0 = ((11 - n : Nat) : Int) → (∀ c : Nat, c < 10 → 0 ≤ W (9 + c) ∧ W (9 + c) ≤ 40) → (∀ s : Nat, s ≠ 0 → (s < 9 ∨ 19 ≤ s) → W s = 0) → qOk (fun j W' => i ≤ j ∧ (3 ≤ W' 0 ∧ W' 0 ≤ 10) ∧ (∀ c : Nat, c < 10 → 0 ≤ W' (9 + c) ∧ W' (9 + c) ≤ 40) ∧ (∀ s : Nat, s ≠ 0 → (s < 9 ∨ 19 ≤ s) → W' s = 0)) (qHts K V n i W) := by
  intro n
  induction n with
  | zero => intro i W hn h0 h1 h2 j W' e; cases e
  | succ n ih =>
    intro i W hn h0 h1 h2 j W' e
    rw [qHts] at e
    split at e
    · split at e
      · rename_i q
        split at e
        · cases e
        · rename_i q0
          have := ih (i + 1) _ (by omega) (by rw [fwFu_at]; omega) (fun c hc => by
            rw [fwFu_ne (by omega)]
            by_cases ec : 9 + c = 9 + (10 - n)
            · rw [ec, fwFu_at]; omega
            · rw [fwFu_ne ec]; exact h1 c hc) (fun s hs hs2 => by
            rw [fwFu_ne hs, fwFu_ne (by omega)]
            exact h2 s hs hs2) j W' e
          exact ⟨by omega, this.2⟩
      · cases e
    · split at e
      · rename_i q
        cases e
        exact ⟨Nat.le_refl _, ⟨q, by omega⟩, h1, h2⟩
      · cases e
theorem qOk_first {K V : Nat → Int} (i : Nat) : qOk (fun j W => i ≤ j ∧ wG W ∧ W 7 = 0 ∧ W 8 = 0) (qFirst K V i (fun _ => 0)) := by
  unfold qFirst
  refine qOk_then (P := fun j W => i ≤ j ∧ W = fun _ => 0) (qOk_word (fun _ => ⟨by omega, rfl⟩)) (fun j W e => ?_)
  obtain ⟨ej, rfl⟩ := e
  refine qOk_then (qOk_hts 11 j _ (by omega) rfl (fun c hc => by omega) (fun s _ _ => rfl)) (fun j2 W2 e2 => ?_)
  obtain ⟨a1, a2, a3, a4⟩ := e2
  refine qOk_then (P := fun j W => i ≤ j ∧ ∃ v, 0 ≤ v ∧ v ≤ 40 ∧ W = fwFu W2 1 v) (qOk_fact (fun v h1 h2 => ⟨by omega, v, h1, h2, rfl⟩)) (fun j3 W3 e3 => ?_)
  obtain ⟨b0, v1, b1, b2, rfl⟩ := e3
  refine qOk_then (P := fun j W => i ≤ j ∧ ∃ v, 1 ≤ v ∧ v ≤ 40 ∧ W = fwFu (fwFu W2 1 v1) 2 v) (qOk_fact (fun v h1 h2 => ⟨by omega, v, h1, h2, rfl⟩)) (fun j4 W4 e4 => ?_)
  obtain ⟨c0, v2, c1, c2, rfl⟩ := e4
  refine qOk_then (P := fun j W => i ≤ j ∧ ∃ v, 1 ≤ v ∧ v ≤ 999 ∧ W = fwFu (fwFu (fwFu W2 1 v1) 2 v2) 3 v) (qOk_fact (fun v h1 h2 => ⟨by omega, v, h1, h2, rfl⟩)) (fun j5 W5 e5 => ?_)
  obtain ⟨d0, v3, d1, d2, rfl⟩ := e5
  have key : ∀ v4 : Int, (v4 = 0 ∨ v4 = 1) → wG (fwFu (fwFu (fwFu (fwFu W2 1 v1) 2 v2) 3 v3) 4 v4) ∧ fwFu (fwFu (fwFu (fwFu W2 1 v1) 2 v2) 3 v3) 4 v4 7 = 0 ∧ fwFu (fwFu (fwFu (fwFu W2 1 v1) 2 v2) 3 v3) 4 v4 8 = 0 := by
    intro v4 h4
    have rd : ∀ s : Nat, s ≠ 1 → s ≠ 2 → s ≠ 3 → s ≠ 4 → fwFu (fwFu (fwFu (fwFu W2 1 v1) 2 v2) 3 v3) 4 v4 s = W2 s := fun s k1 k2 k3 k4 => by
      rw [fwFu_ne k4, fwFu_ne k3, fwFu_ne k2, fwFu_ne k1]
    have r0 := rd 0 (by omega) (by omega) (by omega) (by omega)
    have z : ∀ s : Nat, 19 ≤ s → fwFu (fwFu (fwFu (fwFu W2 1 v1) 2 v2) 3 v3) 4 v4 s = 0 := fun s hs => by
      rw [rd s (by omega) (by omega) (by omega) (by omega)]
      exact a4 s (by omega) (by omega)
    refine ⟨⟨by rw [r0]; exact a2, fun c hc => by rw [rd (9 + c) (by omega) (by omega) (by omega) (by omega)]; exact a3 c hc, ⟨b1, b2⟩, ⟨c1, c2⟩, ⟨d1, d2⟩, h4, ?_, ?_, fun f hf => ?_, fun j _ _ => z _ (by omega)⟩, ?_, ?_⟩
    · rw [rd 5 (by omega) (by omega) (by omega) (by omega), a4 5 (by omega) (by omega), r0]; omega
    · rw [rd 6 (by omega) (by omega) (by omega) (by omega), a4 6 (by omega) (by omega)]; omega
    · unfold wFa
      rw [r0, z (19 + (7 * f + 0)) (by omega), z (19 + (7 * f + 1)) (by omega), z (19 + (7 * f + 2)) (by omega), z (19 + (7 * f + 3)) (by omega), z (19 + (7 * f + 4)) (by omega), z (19 + (7 * f + 5)) (by omega), z (19 + (7 * f + 6)) (by omega)]
      omega
    · rw [rd 7 (by omega) (by omega) (by omega) (by omega)]; exact a4 7 (by omega) (by omega)
    · rw [rd 8 (by omega) (by omega) (by omega) (by omega)]; exact a4 8 (by omega) (by omega)
  intro j6 W6 e6
  unfold qSide at e6
  split at e6
  · cases e6
    exact ⟨by omega, key 1 (Or.inr rfl)⟩
  · split at e6
    · cases e6
      exact ⟨by omega, key 0 (Or.inl rfl)⟩
    · cases e6
theorem wG_fact {W : Nat → Int} (hW : wG W) {f k : Nat} {v : Int} (hf : (f : Int) < W 6) (hk : k < 7) (hv : (k = 0 → 0 ≤ v ∧ v < W 0) ∧ (k = 1 → 0 ≤ v ∧ v ≤ 99) ∧ (k = 2 ∨ k = 3 ∨ k = 4 → 0 ≤ v ∧ v ≤ 9) ∧ (k = 5 → 0 ≤ v ∧ v ≤ 7) ∧ (k = 6 → 0 ≤ v ∧ v ≤ 255)) : wG (fwFu W (19 + (7 * f + k)) v) := by
  obtain ⟨a1, a2, a3, a4, a5, a6, a7, a8, a9, a10⟩ := hW
  have rd : ∀ s : Nat, s < 19 → fwFu W (19 + (7 * f + k)) v s = W s := fun s hs => fwFu_ne (by omega)
  unfold wG
  rw [rd 0 (by omega), rd 1 (by omega), rd 2 (by omega), rd 3 (by omega), rd 4 (by omega), rd 5 (by omega), rd 6 (by omega)]
  refine ⟨a1, fun c hc => by rw [rd (9 + c) (by omega)]; exact a2 c hc, a3, a4, a5, a6, a7, a8, fun g hg => ?_, fun j h1 h2 => ?_⟩
  · obtain ⟨b0, b1, b2, b3, b4, b5, b6⟩ := a9 g hg
    obtain ⟨v0, v1, v2, v5, v6⟩ := hv
    unfold wFa
    rw [rd 0 (by omega)]
    unfold fwFu
    refine ⟨?_, ?_, ?_, ?_, ?_, ?_, ?_⟩
    · by_cases e : 19 + (7 * g + 0) = 19 + (7 * f + k)
      · rw [if_pos e]; exact v0 (by omega)
      · rw [if_neg e]; exact b0
    · by_cases e : 19 + (7 * g + 1) = 19 + (7 * f + k)
      · rw [if_pos e]; exact v1 (by omega)
      · rw [if_neg e]; exact b1
    · by_cases e : 19 + (7 * g + 2) = 19 + (7 * f + k)
      · rw [if_pos e]; exact v2 (by omega)
      · rw [if_neg e]; exact b2
    · by_cases e : 19 + (7 * g + 3) = 19 + (7 * f + k)
      · rw [if_pos e]; exact v2 (by omega)
      · rw [if_neg e]; exact b3
    · by_cases e : 19 + (7 * g + 4) = 19 + (7 * f + k)
      · rw [if_pos e]; exact v2 (by omega)
      · rw [if_neg e]; exact b4
    · by_cases e : 19 + (7 * g + 5) = 19 + (7 * f + k)
      · rw [if_pos e]; exact v5 (by omega)
      · rw [if_neg e]; exact b5
    · by_cases e : 19 + (7 * g + 6) = 19 + (7 * f + k)
      · rw [if_pos e]; exact v6 (by omega)
      · rw [if_neg e]; exact b6
  · rw [fwFu_ne (by omega)]
    exact a10 j h1 h2
theorem or_255 {x : Int} {g : Nat} (hx : 0 ≤ x ∧ x ≤ 255) (hg : g < 8) : 0 ≤ fwOr x (fwShl 1 (g : Int)) ∧ fwOr x (fwShl 1 (g : Int)) ≤ 255 := by
  obtain ⟨a, rfl⟩ : ∃ a : Nat, x = a := ⟨x.toNat, by omega⟩
  have h2 : 2 ^ g < 2 ^ 8 := Nat.pow_lt_pow_right (by omega) hg
  rw [fwShl1_nat (by omega), fwOr_nat (by omega) (by omega)]
  have := Nat.or_lt_two_pow (n := 8) (x := a) (y := 2 ^ g) (by omega) h2
  omega
/-- what a reading of FOLK leaves -/
def wS (W W' : Nat → Int) : Prop := W' 0 = W 0 ∧ W' 6 = W 6 ∧ W' 7 = W 7 ∧ W' 8 = W 8
theorem wS_fu {W : Nat → Int} {s : Nat} {v : Int} (h : 19 ≤ s) : wS W (fwFu W s v) := ⟨fwFu_ne (by omega), fwFu_ne (by omega), fwFu_ne (by omega), fwFu_ne (by omega)⟩
theorem wS.tr {W W1 W2 : Nat → Int} (a : wS W W1) (b : wS W1 W2) : wS W W2 := ⟨b.1.trans a.1, b.2.1.trans a.2.1, b.2.2.1.trans a.2.2.1, b.2.2.2.trans a.2.2.2⟩
theorem wG_bef {W : Nat → Int} (hW : wG W) {f g : Nat} (hf : (f : Int) < W 6) (hg : g < f) : wG (qBef W f g) ∧ wS W (qBef W f g) := by
  have h8 := hW.2.2.2.2.2.2.2.1
  have hF := hW.2.2.2.2.2.2.2.2.1
  have o1 := or_255 (hF f (by omega)).2.2.2.2.2.2 (g := g) (by omega)
  have w1 := wG_fact hW (f := f) (k := 6) hf (by omega) (v := fwOr (W (19 + (7 * f + 6))) (fwShl 1 (g : Int))) (by omega)
  have s1 : wS W (fwFu W (19 + (7 * f + 6)) (fwOr (W (19 + (7 * f + 6))) (fwShl 1 (g : Int)))) := wS_fu (by omega)
  have o2 := or_255 (w1.2.2.2.2.2.2.2.2.1 g (by omega)).2.2.2.2.2.2 (g := f) (by omega)
  have w2 := wG_fact w1 (f := g) (k := 6) (by rw [s1.2.1]; omega) (by omega) (v := fwOr ((fwFu W (19 + (7 * f + 6)) (fwOr (W (19 + (7 * f + 6))) (fwShl 1 (g : Int)))) (19 + (7 * g + 6))) (fwShl 1 (f : Int))) (by omega)
  exact ⟨w2, s1.tr (wS_fu (by omega))⟩
theorem qOk_tl {K V : Nat → Int} {f : Nat} : ∀ (n i : Nat) (W : Nat → Int), wG W → (f : Int) < W 6 → qOk (fun j W' => i ≤ j ∧ wG W' ∧ wS W W') (qTl K V f n i W) := by
  intro n
  induction n with
  | zero => intro i W hW hf j W' e; cases e; exact ⟨Nat.le_refl _, hW, rfl, rfl, rfl, rfl⟩
  | succ n ih =>
    intro i W hW hf j W' e
    rw [qTl] at e
    split at e
    · split at e
      · rename_i q
        have hb := wG_bef hW hf (g := (V i).toNat) (by omega)
        have := ih (i + 1) _ hb.1 (by rw [hb.2.2.1]; exact hf) j W' e
        exact ⟨by omega, this.2.1, hb.2.tr this.2.2⟩
      · cases e
    · cases e; exact ⟨Nat.le_refl _, hW, rfl, rfl, rfl, rfl⟩
theorem qOk_factW {K V : Nat → Int} {x lo hi : Int} {i f k : Nat} {W : Nat → Int} (hW : wG W) (hf : (f : Int) < W 6) (hk : k < 7) (hv : ∀ v, lo ≤ v → v ≤ hi → (k = 0 → 0 ≤ v ∧ v < W 0) ∧ (k = 1 → 0 ≤ v ∧ v ≤ 99) ∧ (k = 2 ∨ k = 3 ∨ k = 4 → 0 ≤ v ∧ v ≤ 9) ∧ (k = 5 → 0 ≤ v ∧ v ≤ 7) ∧ (k = 6 → 0 ≤ v ∧ v ≤ 255)) : qOk (fun j W' => i ≤ j ∧ wG W' ∧ wS W W') (qFact K V x lo hi (19 + (7 * f + k)) i W) :=
  qOk_fact (fun v h1 h2 => ⟨by omega, wG_fact hW hf hk (hv v h1 h2), wS_fu (by omega)⟩)
theorem qOk_talk {K V : Nat → Int} {f i : Nat} {W : Nat → Int} (hW : wG W) (hf : (f : Int) < W 6) : qOk (fun j W' => i ≤ j ∧ wG W' ∧ wS W W') (qTalk K V f i W) := by
  unfold qTalk
  refine qOk_then (qOk_factW hW hf (by omega) (by omega)) (fun j1 W1 e1 => ?_)
  obtain ⟨a1, a2, a3⟩ := e1
  refine qOk_then (P := fun j W' => i ≤ j ∧ W' = W1) (qOk_word (fun _ => ⟨by omega, rfl⟩)) (fun j2 W2 e2 => ?_)
  obtain ⟨b1, rfl⟩ := e2
  refine qOk_then (P := fun j W' => i ≤ j ∧ wG W' ∧ wS W W') (qOk_num (fun h1 h2 => ?_)) (fun j3 W3 e3 => ?_)
  · have hb := wG_bef a2 (f := f) (g := (V j2).toNat) (by rw [a3.2.1]; exact hf) (by omega)
    exact ⟨by omega, hb.1, a3.tr hb.2⟩
  · obtain ⟨c1, c2, c3⟩ := e3
    intro j4 W4 e4
    have := qOk_tl 900 j3 W3 c2 (by rw [c3.2.1]; exact hf) j4 W4 e4
    exact ⟨by omega, this.2.1, c3.tr this.2.2⟩
theorem wG_size {W : Nat → Int} (hW : wG W) {f : Nat} (h6 : W 6 = (f : Int)) (hf : f < 8) : wG (fwFu W 6 ((f : Int) + 1)) := by
  obtain ⟨a1, a2, a3, a4, a5, a6, a7, a8, a9, a10⟩ := hW
  have rd : ∀ s : Nat, s ≠ 6 → fwFu W 6 ((f : Int) + 1) s = W s := fun s hs => fwFu_ne hs
  unfold wG
  rw [rd 0 (by omega), rd 1 (by omega), rd 2 (by omega), rd 3 (by omega), rd 4 (by omega), rd 5 (by omega), fwFu_at]
  refine ⟨a1, fun c hc => by rw [rd (9 + c) (by omega)]; exact a2 c hc, a3, a4, a5, a6, a7, by omega, fun g hg => ?_, fun j h1 h2 => ?_⟩
  · have := a9 g hg
    unfold wFa at this ⊢
    rw [rd 0 (by omega), rd (19 + (7 * g + 0)) (by omega), rd (19 + (7 * g + 1)) (by omega), rd (19 + (7 * g + 2)) (by omega), rd (19 + (7 * g + 3)) (by omega), rd (19 + (7 * g + 4)) (by omega), rd (19 + (7 * g + 5)) (by omega), rd (19 + (7 * g + 6)) (by omega)]
    exact this
  · rw [rd (19 + j) (by omega)]
    exact a10 j (by omega) h2
theorem qOk_folk {K V : Nat → Int} {f i : Nat} {W : Nat → Int} (hW : wG W) (h6 : W 6 = (f : Int)) : qOk (fun j W' => i ≤ j ∧ wG W' ∧ W' 7 = W 7 ∧ W' 8 = W 8) (qFolk K V f i W) := by
  unfold qFolk
  split
  · intro j W' e; cases e
  · rename_i h8
    have w0 := wG_size hW h6 (by omega)
    have s7 : fwFu W 6 ((f : Int) + 1) 7 = W 7 := fwFu_ne (by omega)
    have s8 : fwFu W 6 ((f : Int) + 1) 8 = W 8 := fwFu_ne (by omega)
    have s6 : fwFu W 6 ((f : Int) + 1) 6 = (f : Int) + 1 := fwFu_at _ _ _
    revert w0 s7 s8 s6
    generalize fwFu W 6 ((f : Int) + 1) = W0
    intro w0 s7 s8 s6
    have fin : ∀ (j : Nat) (W' : Nat → Int), (i ≤ j ∧ wG W' ∧ wS W0 W') → i ≤ j ∧ wG W' ∧ W' 7 = W 7 ∧ W' 8 = W 8 := fun j W' k => ⟨k.1, k.2.1, k.2.2.2.2.1.trans s7, k.2.2.2.2.2.trans s8⟩
    refine qOk_then (P := fun j W' => i ≤ j ∧ W' = W0) (qOk_word (fun _ => ⟨by omega, rfl⟩)) (fun j1 W1 e1 => ?_)
    obtain ⟨a1, rfl⟩ := e1
    refine qOk_then (qOk_factW w0 (f := f) (by omega) (by omega) (by omega)) (fun j2 W2 e2 => ?_)
    obtain ⟨b1, b2, b3⟩ := e2
    refine qOk_then (qOk_factW b2 (f := f) (by rw [b3.2.1]; omega) (by omega) (by omega)) (fun j3 W3 e3 => ?_)
    obtain ⟨c1, c2, c3⟩ := e3
    have c4 := b3.tr c3
    refine qOk_then (qOk_factW c2 (f := f) (by rw [c4.2.1]; omega) (by omega) (by omega)) (fun j4 W4 e4 => ?_)
    obtain ⟨d1, d2, d3⟩ := e4
    have d4 := c4.tr d3
    refine qOk_then (qOk_factW d2 (f := f) (by rw [d4.2.1]; omega) (by omega) (by omega)) (fun j5 W5 e5 => ?_)
    obtain ⟨f1, f2, f3⟩ := e5
    have f4 := d4.tr f3
    refine qOk_then (qOk_factW f2 (f := f) (by rw [f4.2.1]; omega) (by omega) (by omega)) (fun j6 W6 e6 => ?_)
    obtain ⟨g1, g2, g3⟩ := e6
    have g4 := f4.tr g3
    split
    · intro j7 W7 e7
      have := qOk_talk g2 (f := f) (by rw [g4.2.1]; omega) j7 W7 e7
      exact fin j7 W7 ⟨by omega, this.2.1, g4.tr this.2.2⟩
    · intro j7 W7 e7
      cases e7
      exact fin _ _ ⟨by omega, g2, g4⟩
theorem wG_heap {W : Nat → Int} (hW : wG W) {v : Int} (h0 : 0 ≤ v) (h1 : v ≤ W 0 - 1) : wG (fwFu W 5 v) := by
  obtain ⟨a1, a2, a3, a4, a5, a6, a7, a8, a9, a10⟩ := hW
  have rd : ∀ s : Nat, s ≠ 5 → fwFu W 5 v s = W s := fun s hs => fwFu_ne hs
  unfold wG
  rw [rd 0 (by omega), rd 1 (by omega), rd 2 (by omega), rd 3 (by omega), rd 4 (by omega), rd 6 (by omega), fwFu_at]
  refine ⟨a1, fun c hc => by rw [rd (9 + c) (by omega)]; exact a2 c hc, a3, a4, a5, a6, by omega, a8, fun g hg => ?_, fun j h1 h2 => ?_⟩
  · have := a9 g hg
    unfold wFa at this ⊢
    rw [rd 0 (by omega), rd (19 + (7 * g + 0)) (by omega), rd (19 + (7 * g + 1)) (by omega), rd (19 + (7 * g + 2)) (by omega), rd (19 + (7 * g + 3)) (by omega), rd (19 + (7 * g + 4)) (by omega), rd (19 + (7 * g + 5)) (by omega), rd (19 + (7 * g + 6)) (by omega)]
    exact this
  · rw [rd (19 + j) (by omega)]
    exact a10 j h1 h2
/-- the picture between lines -/
def wL (W : Nat → Int) : Prop := (W 7 = 0 ∧ W = fun _ => 0) ∨ (1 ≤ W 7 ∧ wG W ∧ W 8 = 0)
theorem qOk_line {K V : Nat → Int} {i : Nat} {W : Nat → Int} (hW : wL W) : qOk (fun j W' => i < j ∧ wG W' ∧ W' 7 = W 7 ∧ W' 8 = 0) (qLine K V i W) := by
  unfold qLine
  refine qOk_then (P := fun j W' => i ≤ j ∧ wG W' ∧ W' 7 = W 7 ∧ W' 8 = 0) ?_ (fun j1 W1 e1 => qOk_word (fun _ => ⟨by omega, e1.2⟩))
  unfold qBody
  rcases hW with ⟨h7, rfl⟩ | ⟨h7, hW, h8⟩
  · rw [if_pos rfl]
    exact qOk_first i
  · rw [if_neg (by omega)]
    split
    · intro j W' e
      have := qOk_folk hW (f := (W 6).toNat) (by have := hW.2.2.2.2.2.2.2.1; omega) j W' e
      exact ⟨this.1, this.2.1, this.2.2.1, this.2.2.2.trans h8⟩
    · unfold qHeap
      refine qOk_fact (fun v h1 h2 => ⟨by omega, wG_heap hW h1 h2, ?_, ?_⟩)
      · exact fwFu_ne (by omega)
      · rw [fwFu_ne (by omega)]; exact h8
theorem wG_lines {W : Nat → Int} (hW : wG W) (v : Int) : wG (fwFu W 7 v) := by
  obtain ⟨a1, a2, a3, a4, a5, a6, a7, a8, a9, a10⟩ := hW
  have rd : ∀ s : Nat, s ≠ 7 → fwFu W 7 v s = W s := fun s hs => fwFu_ne hs
  unfold wG
  rw [rd 0 (by omega), rd 1 (by omega), rd 2 (by omega), rd 3 (by omega), rd 4 (by omega), rd 5 (by omega), rd 6 (by omega)]
  refine ⟨a1, fun c hc => by rw [rd (9 + c) (by omega)]; exact a2 c hc, a3, a4, a5, a6, a7, a8, fun g hg => ?_, fun j h1 h2 => ?_⟩
  · have := a9 g hg
    unfold wFa at this ⊢
    rw [rd 0 (by omega), rd (19 + (7 * g + 0)) (by omega), rd (19 + (7 * g + 1)) (by omega), rd (19 + (7 * g + 2)) (by omega), rd (19 + (7 * g + 3)) (by omega), rd (19 + (7 * g + 4)) (by omega), rd (19 + (7 * g + 5)) (by omega), rd (19 + (7 * g + 6)) (by omega)]
    exact this
  · rw [rd (19 + j) (by omega)]
    exact a10 j h1 h2
theorem qRun_stay {K V : Nat → Int} {c i : Nat} {W : Nat → Int} (h : qRun K V c = .inr (i, W)) (hk : K i = 0) : ∀ n, qRun K V (c + n) = .inr (i, W) := by
  intro n
  induction n with
  | zero => exact h
  | succ n ih => rw [← Nat.add_assoc, qRun, ih]; show (if K i = 0 then _ else _) = _; rw [if_pos hk]
theorem qRun_flt {K V : Nat → Int} {c : Nat} {e : Int × Nat} (h : qRun K V c = .inl e) : ∀ n, qRun K V (c + n) = .inl e := by
  intro n
  induction n with
  | zero => exact h
  | succ n ih => rw [← Nat.add_assoc, qRun, ih]; rfl
theorem qRun_next {K V : Nat → Int} {c i : Nat} {W : Nat → Int} (h : qRun K V c = .inr (i, W)) (hk : K i ≠ 0) : qRun K V (c + 1) = qThen (qLine K V i W) (fun i W => .inr (i, fwFu W 7 (W 7 + 1))) := by
  rw [qRun, h]
  show (if K i = 0 then _ else _) = _
  rw [if_neg hk]
theorem wL_init : wL (fun _ => 0) := Or.inl ⟨rfl, rfl⟩
theorem qRun_wL {K V : Nat → Int} {i i2 : Nat} {W W2 : Nat → Int} (hW : wL W) (e : qLine K V i W = .inr (i2, W2)) : i < i2 ∧ wL (fwFu W2 7 (W2 7 + 1)) ∧ W2 7 = W 7 := by
  have := qOk_line hW i2 W2 e
  refine ⟨this.1, Or.inr ⟨?_, wG_lines this.2.1 _, ?_⟩, this.2.2.1⟩
  · rw [fwFu_at, this.2.2.1]
    rcases hW with ⟨h7, -⟩ | ⟨h7, -⟩ <;> omega
  · rw [fwFu_ne (by omega)]; exact this.2.2.2
theorem wL_rng {W : Nat → Int} (hW : wL W) : (0 ≤ W 6 ∧ W 6 ≤ 8) ∧ (0 ≤ W 0 ∧ W 0 ≤ 10) ∧ (W 7 = 0 → W 0 = 0) := by
  rcases hW with ⟨h7, rfl⟩ | ⟨h7, hW, h8⟩
  · exact ⟨by dsimp only; omega, by dsimp only; omega, fun _ => rfl⟩
  · have h1 := hW.2.2.2.2.2.2.2.1
    have h2 := hW.1
    exact ⟨h1, by omega, fun q => by omega⟩
end
section
theorem raE (X : fwH) : fwE (advH (fwUp (fwUp (fwUp (fwUp (fwUp (fwUp (fwUp (fwUc (fwUp (fwUc X 4 1 (fun _ => 0)) 5 1 3 0) 18 1 (fun _ => 0)) 3 1 3 0) 3 1 4 0) 3 1 5 0) 3 1 6 0) 2 0 6 0) 2 0 7 (-1)) 2 0 2 0) 0) (rH X 0 0 (-1) (fun _ => 0) (X 17 1)) := by
  intro a b s hb hs hr
  by_cases e2 : a = 2 ∧ b = 0
  · obtain ⟨rfl, rfl⟩ := e2
    rcases (show s = 0 ∨ s = 1 ∨ s = 2 ∨ s = 3 ∨ s = 4 ∨ s = 5 ∨ s = 6 ∨ s = 7 by have : s < 8 := hs; omega) with rfl | rfl | rfl | rfl | rfl | rfl | rfl | rfl
    · cases hr
    · cases hr
    all_goals rfl
  · by_cases e3 : a = 3 ∧ b = 1
    · obtain ⟨rfl, rfl⟩ := e3
      rcases (show s = 0 ∨ s = 1 ∨ s = 2 ∨ s = 3 ∨ s = 4 ∨ s = 5 ∨ s = 6 by have : s < 7 := hs; omega) with rfl | rfl | rfl | rfl | rfl | rfl | rfl
      · cases hr
      · cases hr
      · cases hr
      all_goals rfl
    · by_cases e4 : a = 4 ∧ b = 1
      · obtain ⟨rfl, rfl⟩ := e4
        rcases (show s = 0 ∨ s = 1 ∨ s = 2 ∨ s = 3 ∨ s = 4 by have : s < 5 := hs; omega) with rfl | rfl | rfl | rfl | rfl
        · cases hr
        all_goals rfl
      · by_cases e5 : a = 5 ∧ b = 1
        · obtain ⟨rfl, rfl⟩ := e5
          rcases (show s = 0 ∨ s = 1 ∨ s = 2 ∨ s = 3 by have : s < 4 := hs; omega) with rfl | rfl | rfl | rfl
          · cases hr
          · cases hr
          · cases hr
          all_goals rfl
        · by_cases e7 : a = 17 ∧ b = 1
          · obtain ⟨rfl, rfl⟩ := e7
            rfl
          · by_cases e8 : a = 18 ∧ b = 1
            · obtain ⟨rfl, rfl⟩ := e8
              rfl
            · have u : ∀ (h : fwH) (k i j : Nat) (x : Int), ¬ (a = k ∧ b = i) → fwUp h k i j x a b s = h a b s := fun h k i j x q => by
                unfold fwUp
                rw [if_neg (fun z => q ⟨z.1, z.2.1⟩)]
              unfold advH
              rw [u _ 2 0 _ _ e2, u _ 2 0 _ _ e2, u _ 2 0 _ _ e2, u _ 2 0 _ _ e2, u _ 2 0 _ _ e2, u _ 2 0 _ _ e2, u _ 2 0 _ _ e2, u _ 3 1 _ _ e3, u _ 3 1 _ _ e3, u _ 3 1 _ _ e3, u _ 3 1 _ _ e3]
              unfold rH
              rw [fwUc_ne e8, u _ 5 1 _ _ e5, fwUc_ne e4, fwUc_ne e8, fwUc_ne e7, fwUc_ne e5, fwUc_ne e4, fwUc_ne e3, fwUc_ne e2]
set_option maxRecDepth 100000 in
set_option maxHeartbeats 4000000 in
theorem c_X5_readAll {d : Nat} {h : fwH} {Q : Option fwV → fwH → Prop} (T : Nat) (hT0 : tOk h) (hT : tk (cutH h) T) (h17 : rHg (h 17 1)) (k : rK (cutH h) T Q (qRun (cutH h 14 0) (cutH h 16 0) 900)) : fwCt mX5_readAll (d + 7) [aR 2 0] h Q := by
  refine fwCt_of [some (aR 2 0), none] rfl rfl rfl ?_
  obtain ⟨t1, t2, t3, t4⟩ := id hT
  refine w_aload_n dX5_readAll_0 rfl ?_
  refine w_getr 1 0 dX5_readAll_1 fl_X5_22 rfl (by decide) ?_
  refine w_callV (d := d + 6) (S := []) [] dX5_readAll_4 ml_X5_26 ok_X9_cutTokens vi_X9_cutTokens rfl rfl (by decide) rfl (Nat.le_of_ble_eq_true rfl) ?_
  refine c_X9_cutTokens (d := d) hT0 ?_
  show fwWP mX5_readAll (d + 7) 7 [some (aR 2 0), none] [] (cutH h) Q
  refine w_aload_n dX5_readAll_7 rfl ?_
  refine w_getr 3 1 dX5_readAll_8 fl_X5_12 rfl (by decide) ?_
  refine w_callV (d := d + 6) (S := []) [] dX5_readAll_11 ml_X5_31 ok_X2_clear vi_X2_clear rfl rfl (by decide) rfl (Nat.le_of_ble_eq_true rfl) ?_
  refine c_X2_clear (d := (d + 5)) ?_
  show fwWP mX5_readAll (d + 7) 14 [some (aR 2 0), none] [] (fwUp (fwUp (fwUp (fwUp (fwUc (fwUp (fwUc (cutH h) 4 1 (fun _ => 0)) 5 1 3 0) 18 1 (fun _ => 0)) 3 1 3 0) 3 1 4 0) 3 1 5 0) 3 1 6 0) Q
  refine w_aload_n dX5_readAll_14 rfl ?_
  refine w_iconst dX5_readAll_15 ?_
  refine w_puti dX5_readAll_16 fl_X5_34 fp_2_6 rfl (by decide) ?_
  refine w_aload_n dX5_readAll_19 rfl ?_
  refine w_iconst dX5_readAll_20 ?_
  refine w_puti dX5_readAll_21 fl_X5_18 fp_2_7 rfl (by decide) ?_
  refine w_aload_n dX5_readAll_24 rfl ?_
  refine w_iconst dX5_readAll_25 ?_
  refine w_puti dX5_readAll_26 fl_X5_37 fp_2_2 rfl (by decide) ?_
  refine w_aload_n dX5_readAll_29 rfl ?_
  refine w_callV (d := d + 6) (S := []) [] dX5_readAll_30 ml_X5_40 ok_X5_advance vi_X5_advance rfl rfl (by decide) rfl (Nat.le_of_ble_eq_true rfl) ?_
  refine c_X5_advance (d := (d + 6)) 0 rfl (by show (0 : Int) < cutH h 1 0 5; omega) (by show cutH h 1 0 5 ≤ 901; omega) ?_
  show fwWP mX5_readAll (d + 7) 33 [some (aR 2 0), none] [] (advH (fwUp (fwUp (fwUp (fwUp (fwUp (fwUp (fwUp (fwUc (fwUp (fwUc (cutH h) 4 1 (fun _ => 0)) 5 1 3 0) 18 1 (fun _ => 0)) 3 1 3 0) 3 1 4 0) 3 1 5 0) 3 1 6 0) 2 0 6 0) 2 0 7 (-1)) 2 0 2 0) 0) Q
  refine w_heq (rH (cutH h) 0 0 (-1) (fun _ => 0) (cutH h 17 1)) (raE (cutH h)) ?_
  refine w_iconst dX5_readAll_33 ?_
  refine w_istore_n [some (aR 2 0), some (aI 0)] dX5_readAll_34 rfl (by decide) ?_
  have lp35 : ∀ c : Nat, c ≤ 900 → ∀ (y : Int) (i9 : Nat) (W9 H9 : Nat → Int), y = (c : Int) → i9 ≤ T → rHr W9 H9 → qRun (cutH h 14 0) (cutH h 16 0) c = .inr (i9, W9) → wL W9 → W9 7 = (c : Int) → fwWP mX5_readAll (d + 7) 35 [some (aR 2 0), some (aI y)] [] (rH (cutH h) i9 0 (-1) W9 H9) Q := by
    refine fw_up (fun c hc35 ih35 => ?_)
    intro y i9 W9 H9 ey hi9 hH9 iv1 iv2 iv3
    subst ey
    have hrg := wL_rng iv2
    have hkr := (t4 i9 hi9).1
    show fwWP mX5_readAll (d + 7) 35 [some (aR 2 0), some (aI (c : Int))] [] (rH (cutH h) i9 0 (-1) W9 H9) Q
    refine w_iload_n dX5_readAll_35 rfl ?_
    refine w_sipush dX5_readAll_36 rfl ?_
    refine w_icmp_ge 77 dX5_readAll_39 (by decide) (by omega) (by omega) (fun c39 => ?_) (fun c39 => ?_)
    · refine w_iconst dX5_readAll_77 ?_
      by_cases e900 : c = 900
      · subst e900
        exact w_zret dX5_readAll_78 rfl (Or.inr rfl) (k.2 _ _ _ iv1 hi9 hH9)
      · have hs9 := qRun_stay iv1 (by first | exact c46 | omega) (900 - c)
        rw [show c + (900 - c) = 900 by omega] at hs9
        exact w_zret dX5_readAll_78 rfl (Or.inr rfl) (k.2 _ _ _ hs9 hi9 hH9)
    · refine w_aload_n dX5_readAll_42 rfl ?_
      refine w_getiE (v := (cutH h) 14 0 i9) dX5_readAll_43 fl_X5_43 rfl (by decide) rfl ?_
      refine w_if_eq 77 dX5_readAll_46 (by decide) (by omega) (fun c46 => ?_) (fun c46 => ?_)
      · refine w_iconst dX5_readAll_77 ?_
        by_cases e900 : c = 900
        · subst e900
          exact w_zret dX5_readAll_78 rfl (Or.inr rfl) (k.2 _ _ _ iv1 hi9 hH9)
        · have hs9 := qRun_stay iv1 (by first | exact c46 | omega) (900 - c)
          rw [show c + (900 - c) = 900 by omega] at hs9
          exact w_zret dX5_readAll_78 rfl (Or.inr rfl) (k.2 _ _ _ hs9 hi9 hH9)
      · refine w_aload_n dX5_readAll_49 rfl ?_
        refine w_callV (d := d + 6) (S := []) [] dX5_readAll_50 ml_X5_46 ok_X5_readLine vi_X5_readLine rfl rfl (by decide) rfl (Nat.le_of_ble_eq_true rfl) ?_
        refine c_X5_readLine (d := (d + 1)) i9 T W9 H9 hT hi9 hrg.1 hrg.2.1 (by omega) hrg.2.2 hH9 ⟨fun fk33 j33 i33 W33 H33 e33 hj33 hg33 => ?_, fun i33 W33 H33 e33 hi33 hH33 => ?_⟩
        · show fwWP mX5_readAll (d + 7) 53 [some (aR 2 0), some (aI (c : Int))] [aI 0] (rH (cutH h) i33 fk33 ((cutH h) 15 0 j33) W33 H33) Q
          refine w_if_ne 58 dX5_readAll_53 (by decide) (by omega) (fun c53 => ?_) (fun c53 => ?_)
          · (exfalso; omega)
          · refine w_iconst dX5_readAll_56 ?_
            have hf9 : qRun (cutH h 14 0) (cutH h 16 0) (c + 1) = .inl (fk33, j33) := by rw [qRun_next iv1 c46, e33]; rfl
            have hf8 := qRun_flt hf9 (899 - c)
            rw [show c + 1 + (899 - c) = 900 by omega] at hf8
            exact w_zret dX5_readAll_57 rfl (Or.inl rfl) (k.1 _ _ _ _ _ hf8 hj33 hg33)
        · show fwWP mX5_readAll (d + 7) 53 [some (aR 2 0), some (aI (c : Int))] [aI 1] (rH (cutH h) i33 0 (-1) W33 H33) Q
          refine w_if_ne 58 dX5_readAll_53 (by decide) (by omega) (fun c53 => ?_) (fun c53 => ?_)
          · refine w_aload_n dX5_readAll_58 rfl ?_
            refine w_getr 3 1 dX5_readAll_59 fl_X5_12 rfl (by decide) ?_
            refine w_dup dX5_readAll_62 rfl ?_
            refine w_getiE (v := W33 7) dX5_readAll_63 fl_X5_50 rfl (by decide) rfl ?_
            refine w_iconst dX5_readAll_66 ?_
            refine w_iadd dX5_readAll_67 ?_
            refine w_puti dX5_readAll_68 fl_X5_50 fp_3_6 rfl (by decide) ?_
            rw [show (fwUp (rH (cutH h) i33 0 (-1) W33 H33) 3 1 6 ((W33 7) + 1)) = (rH (cutH h) i33 0 (-1) (fwFu W33 7 ((W33 7) + 1)) H33) from rH_lines _ _ _ _ _ _ _]
            refine w_iinc [some (aR 2 0), some (aI ((c : Int) + 1))] dX5_readAll_71 rfl rfl (by decide) ?_
            refine w_goto 35 dX5_readAll_74 (by decide) ?_
            have hnx := qRun_wL iv2 e33
            exact ih35 (by omega) _ _ _ _ (by omega) (by omega) (rHr_fu hH33 (by omega) (by omega)) (by rw [qRun_next iv1 c46, e33]; rfl) hnx.2.1 (by rw [fwFu_at, hnx.2.2, iv3]; omega)
          · (exfalso; omega)
  exact lp35 0 (Nat.zero_le _) _ _ _ _ rfl (Nat.zero_le _) ⟨h17, fun c hc => absurd hc (by show ¬ (c : Int) < 0; omega)⟩ rfl wL_init rfl
end
section
/-! rows that no answer shows: what a question may leave changed -/
def fwScr (a b : Nat) : Bool := decide ((a = 4 ∧ b = 5) ∨ (a = 17 ∧ b = 5) ∨ a = 6 ∨ a = 7 ∨ a = 8 ∨ a = 10 ∨ a = 19 ∨ a = 20 ∨ (24 ≤ a ∧ a ≤ 31) ∨ a = 40 ∨ (42 ≤ a ∧ a ≤ 45) ∨ a = 49)
def sc (h : fwH) : Prop := h 25 0 0 = 0 ∧ 0 ≤ h 8 0 5 ∧ h 8 0 5 ≤ 300000
def scr (h g : fwH) : Prop := (∀ a b, fwScr a b = false → a ≠ 12 → g a b = h a b) ∧ (g 12 0 5 = h 12 0 5 ∧ g 12 0 12 = h 12 0 12 ∧ g 12 0 13 = h 12 0 13) ∧ sc g
theorem scr_rf {h : fwH} (hs : sc h) : scr h h := ⟨fun _ _ _ _ => rfl, ⟨rfl, rfl, rfl⟩, hs⟩
theorem scr_tr {h g f : fwH} (a : scr h g) (b : scr g f) : scr h f := ⟨fun x y p q => (b.1 x y p q).trans (a.1 x y p q), ⟨b.2.1.1.trans a.2.1.1, b.2.1.2.1.trans a.2.1.2.1, b.2.1.2.2.trans a.2.1.2.2⟩, b.2.2⟩
theorem scr_uc {h g : fwH} {k i : Nat} {f : Nat → Int} (a : scr h g) (hk : fwScr k i = true) (h1 : k ≠ 12) (h2 : k ≠ 25) (h3 : k ≠ 8) : scr h (fwUc g k i f) := by
  refine ⟨fun x y p q => ?_, ?_, ?_⟩
  · rw [fwUc_ne (fun z => by rw [z.1, z.2, hk] at p; cases p)]
    exact a.1 x y p q
  · rw [fwUc_ne (fun z => h1 z.1.symm)]
    exact a.2.1
  · unfold sc
    rw [fwUc_ne (fun z => h2 z.1.symm), fwUc_ne (fun z => h3 z.1.symm)]
    exact a.2.2
theorem scr_25 {h g : fwH} {f : Nat → Int} (a : scr h g) (hf : f 0 = 0) : scr h (fwUc g 25 0 f) := by
  refine ⟨fun x y p q => ?_, ?_, ?_⟩
  · rw [fwUc_ne (fun z => by rw [z.1, z.2] at p; cases p)]
    exact a.1 x y p q
  · rw [fwUc_ne (by omega)]
    exact a.2.1
  · unfold sc
    rw [fwUc_at, fwUc_ne (by omega)]
    exact ⟨hf, a.2.2.2⟩
theorem scr_8 {h g : fwH} {f : Nat → Int} (a : scr h g) (hf : 0 ≤ f 5 ∧ f 5 ≤ 300000) : scr h (fwUc g 8 0 f) := by
  refine ⟨fun x y p q => ?_, ?_, ?_⟩
  · rw [fwUc_ne (fun z => by rw [z.1, z.2] at p; cases p)]
    exact a.1 x y p q
  · rw [fwUc_ne (by omega)]
    exact a.2.1
  · unfold sc
    rw [fwUc_at, fwUc_ne (by omega)]
    exact ⟨a.2.2.1, hf⟩
theorem scr_12 {h g : fwH} {f : Nat → Int} (a : scr h g) (h1 : f 5 = g 12 0 5) (h2 : f 12 = g 12 0 12) (h3 : f 13 = g 12 0 13) : scr h (fwUc g 12 0 f) := by
  refine ⟨fun x y p q => ?_, ?_, ?_⟩
  · rw [fwUc_ne (fun z => q z.1)]
    exact a.1 x y p q
  · rw [fwUc_at, h1, h2, h3]
    exact a.2.1
  · unfold sc
    rw [fwUc_ne (by omega), fwUc_ne (by omega)]
    exact a.2.2
/-- the class's own state is as it should be -/
def cOk (h : fwH) : Prop := (0 ≤ h 3 0 6 ∧ h 3 0 6 ≤ 1000) ∧ pOk h 0 ∧ gOk h 0 ∧ (∀ c : Nat, c < 10 → 0 ≤ h 17 0 c ∧ h 17 0 c ≤ 99) ∧ (0 < h 3 0 6 → 3 ≤ h 4 0 1) ∧ (h 3 0 6 = 0 → h 4 0 1 = 0 ∧ h 5 0 3 = 0 ∧ h 3 0 3 = 0) ∧ (0 ≤ h 3 0 4 ∧ h 3 0 4 ≤ 999) ∧ (0 < h 3 0 6 → 0 ≤ h 3 0 5 ∧ h 3 0 5 < h 4 0 1) ∧ (0 ≤ h 3 0 3 ∧ h 3 0 3 ≤ 60) ∧ sOk h ∧ tOk h ∧ sc h
theorem cOk_scr {h g : fwH} (J : cOk h) (a : scr h g) : cOk g := by
  have r : ∀ x y, fwScr x y = false → x ≠ 12 → g x y = h x y := a.1
  obtain ⟨j1, j2, j3, j4, j5, j6, j7, j8, j9, j10, j11, j12⟩ := J
  unfold cOk pOk gOk sOk tOk
  rw [r 3 0 rfl (by decide), r 4 0 rfl (by decide), r 5 0 rfl (by decide), r 17 0 rfl (by decide), r 18 0 rfl (by decide), r 1 0 rfl (by decide), r 34 0 rfl (by decide), r 35 0 rfl (by decide)]
  refine ⟨j1, j2, j3, j4, j5, j6, j7, j8, j9, fun s hs => ?_, j11, a.2.2⟩
  rw [r 33 s rfl (by decide)]
  exact j10 s hs
end
section
/-! what hangs on the MOUNTAIN's rows alone -/
def rw5 (h g : fwH) : Prop := g 3 0 = h 3 0 ∧ g 4 0 = h 4 0 ∧ g 5 0 = h 5 0 ∧ g 17 0 = h 17 0 ∧ g 18 0 = h 18 0
theorem scr_rw {h g : fwH} (a : scr h g) : rw5 h g := ⟨a.1 3 0 rfl (by decide), a.1 4 0 rfl (by decide), a.1 5 0 rfl (by decide), a.1 17 0 rfl (by decide), a.1 18 0 rfl (by decide)⟩
section CG
variable {h g : fwH}
theorem cg_Wil (e : rw5 h g) : mWil g 0 = mWil h 0 := by
  obtain ⟨e3, e4, e5, e7, e8⟩ := e
  unfold mWil
  rw [e4, e5, e7, e8]
theorem cg_EnoB (e : rw5 h g) : mEnoB g = mEnoB h := by
  funext x
  have ew := cg_Wil e
  obtain ⟨e3, e4, e5, e7, e8⟩ := e
  unfold mEnoB
  rw [ew, e3, e5, e8]
theorem cg_BesN (e : rw5 h g) (x : Int) (f : Nat) : mBesN g x f = mBesN h x f := by
  have ew := cg_Wil e
  obtain ⟨e3, e4, e5, e7, e8⟩ := e
  unfold mBesN
  rw [ew, e5, e8]
theorem cg_Bes (e : rw5 h g) (x : Int) : ∀ f : Nat, mBes g x f = mBes h x f := by
  intro f
  induction f with
  | zero =>
    have ew := cg_Wil e
    obtain ⟨e3, e4, e5, e7, e8⟩ := e
    rw [mBes, mBes, ew, e5, e8]
  | succ f ih => rw [mBes, mBes, ih, cg_BesN e]
theorem cg_NeedB (e : rw5 h g) : mNeedB g = mNeedB h := by
  funext f
  have ew := cg_Wil e
  obtain ⟨e3, e4, e5, e7, e8⟩ := e
  unfold mNeedB
  rw [ew, e3, e5, e8]
theorem cg_Need (e : rw5 h g) : mNeed g = mNeed h := by
  have ew := cg_Wil e
  have eb := cg_NeedB e
  obtain ⟨e3, e4, e5, e7, e8⟩ := e
  unfold mNeed
  rw [ew, eb, e3, e5, e8]
theorem cg_Lw (e : rw5 h g) : mLw g = mLw h := by
  funext k
  obtain ⟨e3, e4, e5, e7, e8⟩ := e
  unfold mLw
  rw [e4, e7]
theorem cg_Wish (e : rw5 h g) (f : Nat) : ∀ k : Nat, mWish g f k = mWish h f k := by
  intro k
  have el := cg_Lw e
  induction k with
  | zero =>
    obtain ⟨e3, e4, e5, e7, e8⟩ := e
    rw [mWish, mWish, el, e4, e8]
  | succ k ih =>
    rw [mWish, mWish, ih, el]
    obtain ⟨e3, e4, e5, e7, e8⟩ := e
    rw [e4, e8]
theorem cg_NT (e : rw5 h g) : mNT g = mNT h := by
  funext H
  obtain ⟨e3, e4, e5, e7, e8⟩ := e
  unfold mNT
  rw [e4, e5, e8]
theorem cg_GoB (e : rw5 h g) (x : Int) : mGoB g x = mGoB h x := by
  funext j
  have el := cg_Lw e
  have en := cg_NT e
  obtain ⟨e3, e4, e5, e7, e8⟩ := e
  unfold mGoB mCan
  rw [el, en, e4]
theorem cg_Least (e : rw5 h g) : ∀ k : Nat, mLeast g k = mLeast h k := by
  intro k
  induction k with
  | zero => rfl
  | succ k ih => rw [mLeast, mLeast, ih, cg_NT e, cg_Lw e]
theorem cg_Grt (e : rw5 h g) (n : Nat) : mGrt g n = mGrt h n := by
  unfold mGrt
  rw [cg_GoB e, cg_Least e]
theorem cg_DrOk (e : rw5 h g) : mDrOk g = mDrOk h := by
  funext x H
  obtain ⟨e3, e4, e5, e7, e8⟩ := e
  unfold mDrOk mCan mWon
  rw [e3, e4, e5, e8]
theorem cg_DrH (e : rw5 h g) : mDrH g = mDrH h := by
  funext H
  obtain ⟨e3, e4, e5, e7, e8⟩ := e
  unfold mDrH
  rw [e3, e4]
theorem cg_Dr (e : rw5 h g) (x0 : Int) : ∀ m : Nat, mDr g x0 m = mDr h x0 m := by
  intro m
  induction m with
  | zero => rw [mDr, mDr, e.2.2.2.1]
  | succ m ih => rw [mDr, mDr, ih, cg_DrOk e, cg_DrH e]
theorem cg_Drawn (e : rw5 h g) (x0 : Int) (m : Nat) : mDrawn g x0 m = mDrawn h x0 m := by
  unfold mDrawn
  rw [cg_Dr e, e.2.2.1, e.2.2.2.1]
theorem cg_Gn (e : rw5 h g) : mGn g = mGn h := by
  funext c f
  obtain ⟨e3, e4, e5, e7, e8⟩ := e
  unfold mGn
  rw [e4, e7, e8]
theorem cg_Vo (e : rw5 h g) : mVo g = mVo h := by
  funext x y
  have eg : mVoB g x y = mVoB h x y := by
    funext f
    unfold mVoB
    rw [cg_Gn e]
  unfold mVo
  rw [eg, e.2.2.1]
theorem cg_VoN (e : rw5 h g) : mVoN g = mVoN h := by
  funext x y
  unfold mVoN
  rw [cg_Vo e, e.2.2.1, e.2.2.2.2]
theorem cg_UnB (e : rw5 h g) : mUnB g = mUnB h := by
  funext x y
  unfold mUnB
  rw [cg_VoN e, e.2.2.2.1]
theorem cg_ElB (e : rw5 h g) : mElB g = mElB h := by
  funext c
  unfold mElB mUnb
  rw [cg_UnB e, e.2.1, e.2.2.2.1]
theorem cg_El (e : rw5 h g) : mEl g = mEl h := by
  unfold mEl
  rw [cg_ElB e, e.2.1]
theorem cg_Gt (e : rw5 h g) : mGt g = mGt h := by
  funext H
  obtain ⟨e3, e4, e5, e7, e8⟩ := e
  unfold mGt
  rw [e4, e5, e8]
theorem cg_Spo (e : rw5 h g) : ∀ c : Nat, mSpo g c = mSpo h c := by
  intro c
  induction c with
  | zero => rfl
  | succ c ih => rw [mSpo, mSpo, ih, cg_Gt e, e.2.1, e.2.2.2.1]
theorem cg_OH (e : rw5 h g) : mOH g = mOH h := by
  funext k
  obtain ⟨e3, e4, e5, e7, e8⟩ := e
  unfold mOH
  rw [e4, e7]
theorem cg_Dk (e : rw5 h g) (p : Int) (x : Nat) : ∀ k : Nat, mDk g p x k = mDk h p x k := by
  intro k
  induction k with
  | zero => rfl
  | succ k ih => rw [mDk, mDk, ih, cg_OH e, e.2.1]
theorem cg_AskF (e : rw5 h g) (p : Int) (x j : Nat) : mAskF g p x j = mAskF h p x j := by
  unfold mAskF
  rw [cg_Dk e]
theorem cg_Ms (e : rw5 h g) (s : Nat) (e1 : g 33 s = h 33 s) (e2 : g 35 0 = h 35 0) : mMs g s = mMs h s := by
  funext k
  unfold mMs
  rw [cg_OH e, e.2.1, e1, e2]
theorem cg_Pos (e : rw5 h g) (s : Nat) (e1 : g 33 s = h 33 s) (e2 : g 35 0 = h 35 0) : mPos g s = mPos h s := by
  unfold mPos
  rw [cg_Ms e s e1 e2]
theorem cg_Ew (e : rw5 h g) : mEw g = mEw h := by
  funext K
  have ew := cg_Wil e
  obtain ⟨e3, e4, e5, e7, e8⟩ := e
  unfold mEw
  rw [ew, e3, e5, e8]
theorem cg_Play (e : rw5 h g) (n : Nat) (y : Int) : mPlay g n y = mPlay h n y := by
  unfold mPlay
  rw [cg_Ew e, e.2.2.1]
theorem cg_Mov (e : rw5 h g) (n : Nat) (y : Int) : mMov g n y = mMov h n y := by
  have eb : mMovB g n y = mMovB h n y := by
    funext f
    unfold mMovB
    rw [cg_Ew e, e.2.2.1]
  unfold mMov
  rw [eb, e.2.2.1]
end CG
end

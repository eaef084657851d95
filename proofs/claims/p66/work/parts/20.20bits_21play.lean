section
/-! bits of small numbers, in words of Nat -/
theorem fwOr_nat {a b : Nat} (ha : a < 2 ^ 31) (hb : b < 2 ^ 31) : fwOr (a : Int) (b : Int) = ((a ||| b : Nat) : Int) := by
  unfold fwOr
  have e1 : Int32.ofInt (a : Int) = nI a := rfl
  have e2 : Int32.ofInt (b : Int) = nI b := rfl
  have e3 : nI a ||| nI b = nI (a ||| b) := by
    apply Int32.toBitVec_inj.mp
    rw [Int32.toBitVec_or]
    apply BitVec.eq_of_toNat_eq
    rw [BitVec.toNat_or, pk_tn (by omega), pk_tn (by omega), pk_tn (Nat.lt_trans (Nat.or_lt_two_pow ha hb) (by decide))]
  rw [e1, e2, e3, nI_toInt (Nat.or_lt_two_pow ha hb)]
theorem fwAnd_nat {a b : Nat} (ha : a < 2 ^ 31) (hb : b < 2 ^ 31) : fwAnd (a : Int) (b : Int) = ((a &&& b : Nat) : Int) := by
  unfold fwAnd
  have e1 : Int32.ofInt (a : Int) = nI a := rfl
  have e2 : Int32.ofInt (b : Int) = nI b := rfl
  have hl : a &&& b < 2 ^ 31 := Nat.lt_of_le_of_lt Nat.and_le_left ha
  have e3 : nI a &&& nI b = nI (a &&& b) := by
    apply Int32.toBitVec_inj.mp
    rw [Int32.toBitVec_and]
    apply BitVec.eq_of_toNat_eq
    rw [BitVec.toNat_and, pk_tn (by omega), pk_tn (by omega), pk_tn (by omega)]
  rw [e1, e2, e3, nI_toInt hl]
theorem fwShr_nat {a : Nat} (ha : a < 2 ^ 31) : ∀ f : Nat, f < 32 → fwShr (a : Int) (f : Int) = ((a / 2 ^ f : Nat) : Int) := by
  intro f hf
  unfold fwShr
  have e1 : Int32.ofInt (a : Int) = nI a := rfl
  have key : ∀ f : Nat, f < 32 → ((Int32.ofInt (f : Int) &&& 31).toBitVec.smod 32).toNat = f := by decide +kernel
  rw [e1, pk_shrN ha _ f (key f hf), nI_toInt (Nat.lt_of_le_of_lt (Nat.div_le_self _ _) ha)]
theorem fwBit_nat {a : Nat} (ha : a < 2 ^ 31) (f : Nat) (hf : f < 32) : fwAnd (fwShr (a : Int) (f : Int)) 1 = if a.testBit f then 1 else 0 := by
  rw [fwShr_nat ha f hf, show (1 : Int) = ((1 : Nat) : Int) from rfl, fwAnd_nat (Nat.lt_of_le_of_lt (Nat.div_le_self _ _) ha) (by decide)]
  rw [Nat.and_one_is_mod, Nat.testBit_eq_decide_div_mod_eq]
  by_cases h : a / 2 ^ f % 2 = 1
  · simp [h]
  · have : a / 2 ^ f % 2 = 0 := by omega
    simp [this]
theorem fwShl1_nat {f : Nat} (hf : f ≤ 20) : fwShl 1 (f : Int) = ((2 ^ f : Nat) : Int) := by
  rw [fwShl1 f hf]
  simp
theorem fwB_eq {P Q : Prop} [Decidable P] [Decidable Q] (h : P ↔ Q) : fwB P = fwB Q := by
  unfold fwB
  by_cases hp : P
  · rw [if_pos hp, if_pos (h.mp hp)]
  · rw [if_neg hp, if_neg (fun q => hp (h.mpr q))]
/-- digits of base 3 -/
def mDg (K f : Nat) : Nat := K / 3 ^ f % 3
theorem mDg_add {K f c : Nat} (h0 : mDg K f = 0) (hc : c < 3) (j : Nat) : mDg (K + c * 3 ^ f) j = if j = f then c else mDg K j := by
  unfold mDg at *
  rcases Nat.lt_trichotomy j f with h | h | h
  · rw [if_neg (by omega)]
    obtain ⟨m, rfl⟩ : ∃ m, f = j + (m + 1) := ⟨f - j - 1, by omega⟩
    have e : K + c * 3 ^ (j + (m + 1)) = K + 3 ^ j * (c * 3 ^ m * 3) := by
      rw [Nat.pow_add, Nat.pow_succ]
      congr 1
      simp only [Nat.mul_comm, Nat.mul_left_comm, Nat.mul_assoc]
    rw [e, Nat.add_mul_div_left _ _ (Nat.pow_pos (by decide)), Nat.add_mul_mod_self_right]
  · subst h
    rw [if_pos rfl, Nat.add_mul_div_right _ _ (Nat.pow_pos (by decide))]
    omega
  · rw [if_neg (by omega)]
    obtain ⟨m, rfl⟩ : ∃ m, j = f + 1 + m := ⟨j - f - 1, by omega⟩
    rw [Nat.pow_add, Nat.pow_succ, ← Nat.div_div_eq_div_mul, ← Nat.div_div_eq_div_mul, ← Nat.div_div_eq_div_mul, ← Nat.div_div_eq_div_mul, Nat.add_mul_div_right _ _ (Nat.pow_pos (by decide))]
    rw [show (K / 3 ^ f + c) / 3 = K / 3 ^ f / 3 by omega]
theorem mDg_lt {K f n c : Nat} (h0 : mDg K f = 0) (hc : c < 3) (hf : f < n) (hK : K < 3 ^ n) : K + c * 3 ^ f < 3 ^ n := by
  unfold mDg at h0
  obtain ⟨m, rfl⟩ : ∃ m, n = f + 1 + m := ⟨n - f - 1, by omega⟩
  have hp : 0 < 3 ^ f := Nat.pow_pos (by decide)
  have e : 3 ^ (f + 1 + m) = 3 ^ f * (3 * 3 ^ m) := by rw [Nat.pow_add, Nat.pow_succ, Nat.mul_assoc]
  rw [e] at hK ⊢
  have h1 : K / 3 ^ f < 3 * 3 ^ m := Nat.div_lt_of_lt_mul hK
  have h2 := Nat.div_add_mod K (3 ^ f)
  have h3 := Nat.mod_lt K hp
  have h4 : K / 3 ^ f + c + 1 ≤ 3 * 3 ^ m := by omega
  have h5 : 3 ^ f * (K / 3 ^ f + c + 1) ≤ 3 ^ f * (3 * 3 ^ m) := Nat.mul_le_mul_left _ h4
  have h6 : 3 ^ f * (K / 3 ^ f + c + 1) = 3 ^ f * (K / 3 ^ f) + c * 3 ^ f + 3 ^ f := by
    rw [Nat.mul_add, Nat.mul_add, Nat.mul_one, Nat.mul_comm (3 ^ f) c]
  omega
/-- the set of those whose digit is v, below n -/
def mSetN (K v : Nat) : Nat → Nat
  | 0 => 0
  | f + 1 => mSetN K v f ||| (if mDg K f = v then 2 ^ f else 0)
theorem mSetN_bit (K v : Nat) : ∀ n j : Nat, (mSetN K v n).testBit j = decide (j < n ∧ mDg K j = v) := by
  intro n
  induction n with
  | zero => intro j; simp [mSetN]
  | succ n ih =>
    intro j
    rw [mSetN, Nat.testBit_or, ih]
    by_cases e : mDg K n = v
    · rw [if_pos e, Nat.testBit_two_pow]
      by_cases q : n = j
      · subst q
        simp [e]
      · simp only [q, decide_false, Bool.or_false]
        congr 1
        apply propext
        constructor
        · intro h; exact ⟨by omega, h.2⟩
        · intro h; exact ⟨by omega, h.2⟩
    · rw [if_neg e, Nat.zero_testBit, Bool.or_false]
      congr 1
      apply propext
      constructor
      · intro h; exact ⟨by omega, h.2⟩
      · intro h
        refine ⟨?_, h.2⟩
        rcases Nat.lt_or_ge j n with q | q
        · exact q
        · exfalso
          have : j = n := by omega
          subst this
          exact e h.2
theorem mSetN_lt (K v : Nat) : ∀ n, mSetN K v n < 2 ^ n := by
  intro n
  induction n with
  | zero => simp [mSetN]
  | succ n ih =>
    rw [mSetN]
    refine Nat.or_lt_two_pow (Nat.lt_trans ih (Nat.pow_lt_pow_right (by decide) (by omega))) ?_
    split
    · exact Nat.pow_lt_pow_right (by decide) (by omega)
    · exact Nat.two_pow_pos _
def mMvN (K : Nat) : Nat → Nat
  | 0 => 0
  | f + 1 => mMvN K f + (if mDg K f = 0 then 0 else 1)
theorem mMvN_add {K f c : Nat} (h0 : mDg K f = 0) (hc : c < 3) (hc0 : c ≠ 0) : ∀ n, mMvN (K + c * 3 ^ f) n = mMvN K n + (if f < n then 1 else 0) := by
  intro n
  induction n with
  | zero => simp [mMvN]
  | succ n ih =>
    rw [mMvN, mMvN, ih, mDg_add h0 hc]
    by_cases e : n = f
    · subst e
      rw [if_pos rfl, if_neg hc0, if_neg (by omega), if_pos h0, if_pos (by omega)]
    · rw [if_neg e]
      (repeat' split) <;> omega
def mWnN (K : Nat) : Nat := mSetN K 1 8
def mBrN (K : Nat) : Nat := mSetN K 2 8
def mMv (K : Nat) : Nat := mMvN K 8
abbrev mWn (K : Nat) : Int := (mWnN K : Int)
abbrev mBr (K : Nat) : Int := (mBrN K : Int)
theorem mWnN_lt (K : Nat) : mWnN K < 256 := mSetN_lt K 1 8
theorem mBrN_lt (K : Nat) : mBrN K < 256 := mSetN_lt K 2 8
theorem mSetN_add {K f c v : Nat} (h0 : mDg K f = 0) (hc : c < 3) (hf : f < 8) (hv : v ≠ 0) : mSetN (K + c * 3 ^ f) v 8 = if c = v then mSetN K v 8 ||| 2 ^ f else mSetN K v 8 := by
  apply Nat.eq_of_testBit_eq
  intro j
  rw [mSetN_bit, mDg_add h0 hc]
  by_cases e : c = v
  · subst e
    rw [if_pos rfl, Nat.testBit_or, mSetN_bit, Nat.testBit_two_pow]
    by_cases q : j = f
    · subst q
      simp [hf]
    · rw [if_neg q]
      simp [Ne.symm q]
  · rw [if_neg e, mSetN_bit]
    by_cases q : j = f
    · subst q
      simp [e, h0, Ne.symm hv]
    · rw [if_neg q]
theorem mWn_add1 {K f : Nat} (h0 : mDg K f = 0) (hf : f < 8) : fwOr (mWn K) (fwShl 1 (f : Int)) = mWn (K + 1 * 3 ^ f) ∧ mBr K = mBr (K + 1 * 3 ^ f) ∧ mMv K + 1 = mMv (K + 1 * 3 ^ f) := by
  refine ⟨?_, ?_, ?_⟩
  · rw [fwShl1_nat (by omega), fwOr_nat (Nat.lt_trans (mWnN_lt K) (by decide)) (Nat.pow_lt_pow_right (by decide) (by omega))]
    unfold mWn mWnN
    rw [mSetN_add h0 (by decide) hf (by decide), if_pos rfl]
  · unfold mBr mBrN
    rw [mSetN_add h0 (by decide) hf (by decide), if_neg (by decide)]
  · unfold mMv
    rw [mMvN_add h0 (by decide) (by decide), if_pos hf]
theorem mWn_add2 {K f : Nat} (h0 : mDg K f = 0) (hf : f < 8) : mWn K = mWn (K + 2 * 3 ^ f) ∧ fwOr (mBr K) (fwShl 1 (f : Int)) = mBr (K + 2 * 3 ^ f) ∧ mMv K + 1 = mMv (K + 2 * 3 ^ f) := by
  refine ⟨?_, ?_, ?_⟩
  · unfold mWn mWnN
    rw [mSetN_add h0 (by decide) hf (by decide), if_neg (by decide)]
  · rw [fwShl1_nat (by omega), fwOr_nat (Nat.lt_trans (mBrN_lt K) (by decide)) (Nat.pow_lt_pow_right (by decide) (by omega))]
    unfold mBr mBrN
    rw [mSetN_add h0 (by decide) hf (by decide), if_pos rfl]
  · unfold mMv
    rw [mMvN_add h0 (by decide) (by decide), if_pos hf]
theorem mDg_3 (K f : Nat) : mDg K f = 0 ∨ mDg K f = 1 ∨ mDg K f = 2 := by unfold mDg; omega
theorem mWB_lt (K : Nat) : mWnN K ||| mBrN K < 2 ^ 31 := Nat.lt_trans (Nat.or_lt_two_pow (mWnN_lt K) (mBrN_lt K) : _ < 2 ^ 8) (by decide)
theorem mWB_bit (K j : Nat) : (mWnN K ||| mBrN K).testBit j = decide (j < 8 ∧ mDg K j ≠ 0) := by
  unfold mWnN mBrN
  rw [Nat.testBit_or, mSetN_bit, mSetN_bit]
  rcases mDg_3 K j with e | e | e <;> simp [e]
theorem mFree {K f : Nat} (hf : f < 8) : fwAnd (fwShr (fwOr (mWn K) (mBr K)) (f : Int)) 1 = 0 ↔ mDg K f = 0 := by
  rw [fwOr_nat (Nat.lt_trans (mWnN_lt K) (by decide)) (Nat.lt_trans (mBrN_lt K) (by decide)), fwBit_nat (mWB_lt K) f (by omega), mWB_bit]
  by_cases e : mDg K f = 0 <;> simp [e, hf]
def mFull (nf K : Nat) : Bool := mAll (fun f => decide (mDg K f ≠ 0)) nf
theorem mDg_ge {K n j : Nat} (hK : K < 3 ^ n) (hj : n ≤ j) : mDg K j = 0 := by
  unfold mDg
  rw [Nat.div_eq_of_lt (Nat.lt_of_lt_of_le hK (Nat.pow_le_pow_right (by decide) hj))]
theorem mFull_iff {K n : Nat} (hn : n ≤ 8) (hK : K < 3 ^ n) : fwOr (mWn K) (mBr K) = fwShl 1 (n : Int) - 1 ↔ mFull n K = true := by
  rw [fwOr_nat (Nat.lt_trans (mWnN_lt K) (by decide)) (Nat.lt_trans (mBrN_lt K) (by decide)), fwShl1_nat (by omega)]
  have e : (((mWnN K ||| mBrN K : Nat) : Int) = ((2 ^ n : Nat) : Int) - 1) ↔ mWnN K ||| mBrN K = 2 ^ n - 1 := by
    have := Nat.two_pow_pos n
    omega
  rw [e]
  unfold mFull
  rw [mAll_iff]
  constructor
  · intro h j hj
    have h2 : (mWnN K ||| mBrN K).testBit j = (2 ^ n - 1).testBit j := by rw [h]
    rw [mWB_bit, Nat.testBit_two_pow_sub_one] at h2
    simp only [hj, decide_true] at h2
    exact decide_eq_true (of_decide_eq_true h2).2
  · intro h
    apply Nat.eq_of_testBit_eq
    intro j
    rw [mWB_bit, Nat.testBit_two_pow_sub_one]
    by_cases q : j < n
    · have := of_decide_eq_true (h j q)
      simp only [q, decide_true]
      exact decide_eq_true ⟨by omega, this⟩
    · have h9 := mDg_ge hK (show n ≤ j by omega)
      simp [q, h9]
end
section
/-! the play: a state of it is one number, of base 3 -/
def mTn (st : Int) (m : Nat) : Bool := decide (fwAnd ((m : Int) + st) 1 = 0)
def mChild (w : Bool) (K f : Nat) : Nat := if w = true then K + 1 * 3 ^ f else K + 2 * 3 ^ f
def mPlB (E : Nat → Bool) (V : Nat → Bool) (w : Bool) (K f : Nat) : Bool := decide (¬ (mDg K f = 0 ∧ V (mChild w K f) = w))
/-- how a play comes out, with g turns left -/
def mPl (E : Nat → Bool) (nf : Nat) (st : Int) : Nat → Nat → Bool
  | 0, K => E K
  | g + 1, K => if mFull nf K = true then E K else ((!mAll (mPlB E (mPl E nf st g) (mTn st (mMv K)) K) nf) == mTn st (mMv K))
def mE (h : fwH) (K : Nat) : Bool := decide (mEno (h 18 0) (h 5 0 3).toNat (h 3 0 4) (fwOr (h 6 0 2) (mWn K)) (mBr K))
abbrev mPlH (h : fwH) (g K : Nat) : Bool := mPl (mE h) (h 5 0 3).toNat (h 6 0 4) g K
def plH (h : fwH) : Prop := pOk h 0 ∧ (0 ≤ h 3 0 4 ∧ h 3 0 4 ≤ 999) ∧ (0 ≤ h 6 0 3 ∧ h 6 0 3 ≤ 8) ∧ (h 6 0 4 = 0 ∨ h 6 0 4 = 1)
def memo (h : fwH) (O : Nat → Int) : Prop := ∀ K, K < 6561 → O K = 0 ∨ O K = if mPlH h ((h 6 0 3).toNat - mMv K) K = true then 1 else 2
theorem memo_up {h : fwH} {O : Nat → Int} (hO : memo h O) {K : Nat} {v : Int} (hv : v = if mPlH h ((h 6 0 3).toNat - mMv K) K = true then 1 else 2) : memo h (fwFu O K v) := by
  intro J hJ
  unfold fwFu
  split
  · rename_i e
    subst e
    exact Or.inr hv
  · exact hO J hJ
theorem pl3 {n K : Nat} (hn : n ≤ 8) (hK : K < 3 ^ n) : K < 6561 := Nat.lt_of_lt_of_le hK (Nat.le_trans (Nat.pow_le_pow_right (by decide) hn) (by decide))
theorem mSetN_rng (K : Nat) : (0 ≤ mWn K ∧ mWn K < 256) ∧ 0 ≤ mBr K ∧ mBr K < 256 := by
  have h1 := mWnN_lt K
  have h2 := mBrN_lt K
  unfold mWn mBr
  omega
theorem mMv_le (K : Nat) : mMv K ≤ 8 := by
  have key : ∀ n, mMvN K n ≤ n := by
    intro n
    induction n with
    | zero => exact Nat.le_refl _
    | succ n ih => rw [mMvN]; split <;> omega
  exact key 8
/-- what comesOut does with g turns left -/
def plI (d g : Nat) : Prop := ∀ (h : fwH) (Q : Option fwV → fwH → Prop) (K : Nat) (a b c e : Int), a = mWn K → b = mBr K → c = (mMv K : Int) → e = (K : Int) → plH h → (h 6 0 3).toNat = g + mMv K → K < 3 ^ (h 5 0 3).toNat → memo h (h 24 0) → (∀ O, memo h O → Q (some (aI (fwB (mPlH h g K = true)))) (fwUc h 24 0 O)) → fwCt mX4_comesOut d [aR 6 0, aI a, aI b, aI c, aI e] h Q
set_option maxRecDepth 100000 in
set_option maxHeartbeats 4000000 in
theorem c_X4_begin {d : Nat} {h : fwH} {Q : Option fwV → fwH → Prop} (x y : Int) (hP : pOk h 0) (hG : gOk h 0) (hn : 1 ≤ h 4 0 1) (hM : ∀ c : Nat, c < 10 → h 17 0 c ≤ 999) (k : ∀ A B, Q none (fwUc (fwUc (fwUc (fwUc h 6 0 (fwFu (fwFu (fwFu (h 6 0) 2 (mWil h 0)) 3 (2 * x)) 4 y)) 19 0 A) 20 0 B) 24 0 (fun _ => 0))) : fwCt mX4_begin (d + 4) [aR 6 0, aI x, aI y] h Q := by
  refine fwCt_of [some (aR 6 0), some (aI x), some (aI y), none] rfl rfl rfl ?_
  refine w_aload_n dX4_begin_0 rfl ?_
  refine w_aload_n dX4_begin_1 rfl ?_
  refine w_getr 3 0 dX4_begin_2 fl_X4_15 rfl (by decide) ?_
  refine w_getr 5 0 dX4_begin_5 fl_X4_19 rfl (by decide) ?_
  refine w_aload_n dX4_begin_8 rfl ?_
  refine w_getr 3 0 dX4_begin_9 fl_X4_15 rfl (by decide) ?_
  refine w_getr 4 0 dX4_begin_12 fl_X4_25 rfl (by decide) ?_
  refine w_iconst dX4_begin_15 ?_
  refine w_callV (d := d + 3) (S := [aR 6 0]) [aR 4 0, aI (-1)] dX4_begin_16 ml_X4_29 ok_X3_gainersBy vi_X3_gainersBy rfl rfl (by decide) rfl (Nat.le_of_ble_eq_true rfl) ?_
  refine c_willing0 (d := d) (by first | assumption | omega | decide) (by first | assumption | omega | decide) (show 1 ≤ (h 4 0 1) by first | assumption | omega | decide) (by first | assumption | omega | decide) ?_
  intro A1 B2
  show fwWP mX4_begin (d + 4) 19 [some (aR 6 0), some (aI x), some (aI y), none] [aI (mWil h 0), aR 6 0] (fwUc (fwUc h 19 0 A1) 20 0 B2) Q
  refine w_puti dX4_begin_19 fl_X4_68 fp_6_2 rfl (by decide) ?_
  rw [show (fwUp (fwUc (fwUc h 19 0 A1) 20 0 B2) 6 0 2 (mWil h 0)) = (fwUc (fwUc (fwUc h 19 0 A1) 20 0 B2) 6 0 (fwFu (h 6 0) 2 (mWil h 0))) from fwUp_fu _ _ _ _ _]
  rw [show (fwUc (fwUc (fwUc h 19 0 A1) 20 0 B2) 6 0 (fwFu (h 6 0) 2 (mWil h 0))) = (fwUc (fwUc (fwUc h 6 0 (fwFu (h 6 0) 2 (mWil h 0))) 19 0 A1) 20 0 B2) from by funext a b; simp only [fwUc]; (repeat' split); all_goals first | rfl | (exfalso; omega)]
  refine w_aload_n dX4_begin_22 rfl ?_
  refine w_iconst dX4_begin_23 ?_
  refine w_iload_n dX4_begin_24 rfl ?_
  refine w_imul dX4_begin_25 ?_
  refine w_puti dX4_begin_26 fl_X4_71 fp_6_3 rfl (by decide) ?_
  rw [show (fwUp (fwUc (fwUc (fwUc h 6 0 (fwFu (h 6 0) 2 (mWil h 0))) 19 0 A1) 20 0 B2) 6 0 3 (2 * x)) = (fwUc (fwUc (fwUc (fwUc h 6 0 (fwFu (h 6 0) 2 (mWil h 0))) 19 0 A1) 20 0 B2) 6 0 (fwFu ((fwFu (h 6 0) 2 (mWil h 0))) 3 (2 * x))) from fwUp_fu _ _ _ _ _]
  rw [show (fwUc (fwUc (fwUc (fwUc h 6 0 (fwFu (h 6 0) 2 (mWil h 0))) 19 0 A1) 20 0 B2) 6 0 (fwFu ((fwFu (h 6 0) 2 (mWil h 0))) 3 (2 * x))) = (fwUc (fwUc (fwUc h 6 0 (fwFu ((fwFu (h 6 0) 2 (mWil h 0))) 3 (2 * x))) 19 0 A1) 20 0 B2) from by funext a b; simp only [fwUc]; (repeat' split); all_goals first | rfl | (exfalso; omega)]
  refine w_aload_n dX4_begin_29 rfl ?_
  refine w_iload_n dX4_begin_30 rfl ?_
  refine w_puti dX4_begin_31 fl_X4_74 fp_6_4 rfl (by decide) ?_
  rw [show (fwUp (fwUc (fwUc (fwUc h 6 0 (fwFu ((fwFu (h 6 0) 2 (mWil h 0))) 3 (2 * x))) 19 0 A1) 20 0 B2) 6 0 4 y) = (fwUc (fwUc (fwUc (fwUc h 6 0 (fwFu ((fwFu (h 6 0) 2 (mWil h 0))) 3 (2 * x))) 19 0 A1) 20 0 B2) 6 0 (fwFu ((fwFu ((fwFu (h 6 0) 2 (mWil h 0))) 3 (2 * x))) 4 y)) from fwUp_fu _ _ _ _ _]
  rw [show (fwUc (fwUc (fwUc (fwUc h 6 0 (fwFu ((fwFu (h 6 0) 2 (mWil h 0))) 3 (2 * x))) 19 0 A1) 20 0 B2) 6 0 (fwFu ((fwFu ((fwFu (h 6 0) 2 (mWil h 0))) 3 (2 * x))) 4 y)) = (fwUc (fwUc (fwUc h 6 0 (fwFu ((fwFu ((fwFu (h 6 0) 2 (mWil h 0))) 3 (2 * x))) 4 y)) 19 0 A1) 20 0 B2) from by funext a b; simp only [fwUc]; (repeat' split); all_goals first | rfl | (exfalso; omega)]
  refine w_iconst dX4_begin_34 ?_
  refine w_istore_n [some (aR 6 0), some (aI x), some (aI y), some (aI 0)] dX4_begin_35 rfl (by decide) ?_
  have lp36 : ∀ c : Nat, c ≤ 6561 → ∀ (y36  : Int) (hh36 : fwH), y36 = (c : Int) → hh36 = (fwUc (fwUc (fwUc (fwUc h 6 0 (fwFu (fwFu (fwFu (h 6 0) 2 (mWil h 0)) 3 (2 * x)) 4 y)) 19 0 A1) 20 0 B2) 24 0 (fwFl (fun _ => 0) (h 24 0) c)) → fwWP mX4_begin (d + 4) 36 [some (aR 6 0), some (aI x), some (aI y), some (aI y36)] [] hh36 Q := by
    refine fw_up (fun c hc36 ih36 => ?_)
    intro y36  hh36 ey36 eh36
    subst ey36
    subst eh36
    show fwWP mX4_begin (d + 4) 36 [some (aR 6 0), some (aI x), some (aI y), some (aI (c : Int))] [] (fwUc (fwUc (fwUc (fwUc h 6 0 (fwFu (fwFu (fwFu (h 6 0) 2 (mWil h 0)) 3 (2 * x)) 4 y)) 19 0 A1) 20 0 B2) 24 0 (fwFl (fun _ => 0) (h 24 0) c)) Q
    refine w_iload_n dX4_begin_36 rfl ?_
    refine w_aload_n dX4_begin_37 rfl ?_
    refine w_getr 24 0 dX4_begin_38 fl_X4_9 rfl (by decide) ?_
    refine w_alen dX4_begin_41 rfl (by decide) (by decide) ?_
    refine w_icmp_ge 58 dX4_begin_42 (by decide) (by omega) (by omega) (fun c42 => ?_) (fun c42 => ?_)
    · have ec36 : 6561 = c := by omega
      subst ec36
      refine w_heq _ (fwFl_all (by decide)) ?_
      exact w_vret dX4_begin_58 rfl (k _ _)
    · refine w_aload_n dX4_begin_45 rfl ?_
      refine w_getr 24 0 dX4_begin_46 fl_X4_9 rfl (by decide) ?_
      refine w_iload_n dX4_begin_49 rfl ?_
      refine w_iconst dX4_begin_50 ?_
      refine w_bast dX4_begin_51 rfl (by decide) (by omega) (by omega) (by first | omega | exact fwB_01 _) ?_
      refine w_iinc [some (aR 6 0), some (aI x), some (aI y), some (aI ((c : Int) + 1))] dX4_begin_52 rfl rfl (by decide) ?_
      refine w_goto 36 dX4_begin_55 (by decide) ?_
      refine ih36 (by omega) _ _ ?_ ?_
      · exact (by omega)
      · exact (by rw [fwUp_uc, Int.toNat_natCast]; exact congrArg _ (fwFl_succ (fun _ => 0) (h 24 0) c))
  refine lp36 0 (Nat.zero_le _) _ _ ?_ ?_
  · exact (by omega)
  · exact (by rw [fwFl_0]; exact (fwUc_self (fwUc (fwUc (fwUc h 6 0 (fwFu (fwFu (fwFu (h 6 0) 2 (mWil h 0)) 3 (2 * x)) 4 y)) 19 0 A1) 20 0 B2) 24 0).symm)
set_option maxRecDepth 100000 in
set_option maxHeartbeats 4000000 in
theorem c_X4_winsNow {d : Nat} {h : fwH} {Q : Option fwV → fwH → Prop} (m : Nat)  (k : Q (some (aI (fwB (mTn (h 6 0 4) m = true)))) h) : fwCt mX4_winsNow (d + 0) [aR 6 0, aI (m : Int)] h Q := by
  refine fwCt_of [some (aR 6 0), some (aI (m : Int))] rfl rfl rfl ?_
  refine w_iload_n dX4_winsNow_0 rfl ?_
  refine w_aload_n dX4_winsNow_1 rfl ?_
  refine w_geti dX4_winsNow_2 fl_X4_74 rfl (by decide) ?_
  refine w_iadd dX4_winsNow_5 ?_
  refine w_iconst dX4_winsNow_6 ?_
  refine w_iand dX4_winsNow_7 ?_
  have hb := fwAnd_rng1 ((m : Int) + h 6 0 4)
  refine w_if_ne 15 dX4_winsNow_8 (by decide) (by omega) (fun c8 => ?_) (fun c8 => ?_)
  · refine w_iconst dX4_winsNow_15 ?_
    exact w_zretE (P := mTn (h 6 0 4) m = true) dX4_winsNow_16 rfl (by unfold mTn; first | (rw [fwB_t (by simp only [decide_eq_true_eq]; omega)]) | (rw [fwB_f (by simp only [decide_eq_true_eq]; omega)])) k
  · refine w_iconst dX4_winsNow_11 ?_
    refine w_goto 16 dX4_winsNow_12 (by decide) ?_
    exact w_zretE (P := mTn (h 6 0 4) m = true) dX4_winsNow_16 rfl (by unfold mTn; first | (rw [fwB_t (by simp only [decide_eq_true_eq]; omega)]) | (rw [fwB_f (by simp only [decide_eq_true_eq]; omega)])) k
theorem fwTh3 : ∀ f : Nat, f < 8 → fwTh.getD f 0 = ((3 ^ f : Nat) : Int) := by decide
set_option maxRecDepth 100000 in
set_option maxHeartbeats 4000000 in
theorem c_X4_comesOutBy {d : Nat} {h : fwH} {Q : Option fwV → fwH → Prop} (g K f : Nat) (ih : plI (d + 4) g) (hL : plH h) (hg : (h 6 0 3).toNat = g + 1 + mMv K) (hK : K < 3 ^ (h 5 0 3).toNat) (hO : memo h (h 24 0)) (hf : (f : Int) < h 5 0 3) (h0 : mDg K f = 0) (k : ∀ O, memo h O → Q (some (aI (fwB (mPlH h g (mChild (mTn (h 6 0 4) (mMv K)) K f) = true)))) (fwUc h 24 0 O)) : fwCt mX4_comesOutBy (d + 5) [aR 6 0, aI (f : Int), aI (mWn K), aI (mBr K), aI (mMv K : Int), aI (K : Int)] h Q := by
  refine fwCt_of [some (aR 6 0), some (aI (f : Int)), some (aI (mWn K)), some (aI (mBr K)), some (aI (mMv K : Int)), some (aI (K : Int)), none] rfl rfl rfl ?_
  have hp1 := hL.1.1
  have hf8 : f < 8 := by omega
  refine w_iload_n dX4_comesOutBy_0 rfl ?_
  refine w_if_lt 20 dX4_comesOutBy_1 (by decide) (by omega) (fun c1 => ?_) (fun c1 => ?_)
  · (exfalso; omega)
  · refine w_iload_n dX4_comesOutBy_4 rfl ?_
    refine w_threes dX4_comesOutBy_5 fj_X4_85 ?_
    refine w_thrLen dX4_comesOutBy_8 ?_
    refine w_icmp_ge 20 dX4_comesOutBy_9 (by decide) (by omega) (by omega) (fun c9 => ?_) (fun c9 => ?_)
    · (exfalso; omega)
    · refine w_threes dX4_comesOutBy_12 fj_X4_85 ?_
      refine w_iload_n dX4_comesOutBy_15 rfl ?_
      refine w_thrAt dX4_comesOutBy_16 (by omega) (by omega) ?_
      refine w_goto 21 dX4_comesOutBy_17 (by decide) ?_
      refine w_istore [some (aR 6 0), some (aI (f : Int)), some (aI (mWn K)), some (aI (mBr K)), some (aI (mMv K : Int)), some (aI (K : Int)), some (aI (fwTh.getD ((f : Int)).toNat 0))] dX4_comesOutBy_21 rfl (by decide) ?_
      refine w_aload_n dX4_comesOutBy_23 rfl ?_
      refine w_iload dX4_comesOutBy_24 rfl ?_
      refine w_callV (d := d + 4) (S := []) [aI (mMv K : Int)] dX4_comesOutBy_26 ml_X4_77 ok_X4_winsNow vi_X4_winsNow rfl rfl (by decide) rfl (Nat.le_of_ble_eq_true rfl) ?_
      refine c_X4_winsNow (d := (d + 4)) (mMv K) ?_
      show fwWP mX4_comesOutBy (d + 5) 29 [some (aR 6 0), some (aI (f : Int)), some (aI (mWn K)), some (aI (mBr K)), some (aI (mMv K : Int)), some (aI (K : Int)), some (aI (fwTh.getD ((f : Int)).toNat 0))] [aI (fwB (mTn (h 6 0 4) (mMv K) = true))] h Q
      refine w_ifB_eq 52 dX4_comesOutBy_29 (by decide) (fun cw => ?_) (fun cw => ?_)
      · refine w_aload_n dX4_comesOutBy_52 rfl ?_
        refine w_iload_n dX4_comesOutBy_53 rfl ?_
        refine w_iload_n dX4_comesOutBy_54 rfl ?_
        refine w_iconst dX4_comesOutBy_55 ?_
        refine w_iload_n dX4_comesOutBy_56 rfl ?_
        refine w_ishl dX4_comesOutBy_57 ?_
        refine w_ior dX4_comesOutBy_58 ?_
        refine w_iload dX4_comesOutBy_59 rfl ?_
        refine w_iconst dX4_comesOutBy_61 ?_
        refine w_iadd dX4_comesOutBy_62 ?_
        refine w_iload dX4_comesOutBy_63 rfl ?_
        refine w_iconst dX4_comesOutBy_65 ?_
        refine w_iload dX4_comesOutBy_66 rfl ?_
        refine w_imul dX4_comesOutBy_68 ?_
        refine w_iadd dX4_comesOutBy_69 ?_
        refine w_callV (d := d + 4) (S := []) [aI (mWn K), aI (fwOr (mBr K) (fwShl 1 (f : Int))), aI ((mMv K : Int) + 1), aI ((K : Int) + (2 * (fwTh.getD ((f : Int)).toNat 0)))] dX4_comesOutBy_70 ml_X4_60 ok_X4_comesOut vi_X4_comesOut rfl rfl (by decide) rfl (Nat.le_of_ble_eq_true rfl) ?_
        refine ih h _ (K + 2 * 3 ^ f) (mWn K) (fwOr (mBr K) (fwShl 1 (f : Int))) ((mMv K : Int) + 1) ((K : Int) + (2 * (fwTh.getD ((f : Int)).toNat 0))) (by have := (mWn_add2 h0 hf8).1; omega) (by have := (mWn_add2 h0 hf8).2.1; omega) (by have := (mWn_add2 h0 hf8).2.2; omega) (by rw [Int.toNat_natCast, fwTh3 f hf8]; simp only [Int.natCast_add, Int.natCast_mul, Int.natCast_pow]; omega) hL (by have := (mWn_add2 h0 hf8).2.2; omega) (mDg_lt h0 (by decide) (by omega) hK) hO ?_
        intro O1 hO1
        show fwWP mX4_comesOutBy (d + 5) 73 [some (aR 6 0), some (aI (f : Int)), some (aI (mWn K)), some (aI (mBr K)), some (aI (mMv K : Int)), some (aI (K : Int)), some (aI (fwTh.getD ((f : Int)).toNat 0))] [aI (fwB (mPlH h g (K + 2 * 3 ^ f) = true))] (fwUc h 24 0 O1) Q
        exact w_zretE (P := mPlH h g (mChild (mTn (h 6 0 4) (mMv K)) K f) = true) dX4_comesOutBy_73 rfl (by unfold mChild; rw [if_neg cw]) (k _ hO1)
      · refine w_aload_n dX4_comesOutBy_32 rfl ?_
        refine w_iload_n dX4_comesOutBy_33 rfl ?_
        refine w_iconst dX4_comesOutBy_34 ?_
        refine w_iload_n dX4_comesOutBy_35 rfl ?_
        refine w_ishl dX4_comesOutBy_36 ?_
        refine w_ior dX4_comesOutBy_37 ?_
        refine w_iload_n dX4_comesOutBy_38 rfl ?_
        refine w_iload dX4_comesOutBy_39 rfl ?_
        refine w_iconst dX4_comesOutBy_41 ?_
        refine w_iadd dX4_comesOutBy_42 ?_
        refine w_iload dX4_comesOutBy_43 rfl ?_
        refine w_iload dX4_comesOutBy_45 rfl ?_
        refine w_iadd dX4_comesOutBy_47 ?_
        refine w_callV (d := d + 4) (S := []) [aI (fwOr (mWn K) (fwShl 1 (f : Int))), aI (mBr K), aI ((mMv K : Int) + 1), aI ((K : Int) + (fwTh.getD ((f : Int)).toNat 0))] dX4_comesOutBy_48 ml_X4_60 ok_X4_comesOut vi_X4_comesOut rfl rfl (by decide) rfl (Nat.le_of_ble_eq_true rfl) ?_
        refine ih h _ (K + 1 * 3 ^ f) (fwOr (mWn K) (fwShl 1 (f : Int))) (mBr K) ((mMv K : Int) + 1) ((K : Int) + (fwTh.getD ((f : Int)).toNat 0)) (by have := (mWn_add1 h0 hf8).1; omega) (by have := (mWn_add1 h0 hf8).2.1; omega) (by have := (mWn_add1 h0 hf8).2.2; omega) (by rw [Int.toNat_natCast, fwTh3 f hf8]; simp only [Int.natCast_add, Int.natCast_mul, Int.natCast_pow]; omega) hL (by have := (mWn_add1 h0 hf8).2.2; omega) (mDg_lt h0 (by decide) (by omega) hK) hO ?_
        intro O1 hO1
        show fwWP mX4_comesOutBy (d + 5) 51 [some (aR 6 0), some (aI (f : Int)), some (aI (mWn K)), some (aI (mBr K)), some (aI (mMv K : Int)), some (aI (K : Int)), some (aI (fwTh.getD ((f : Int)).toNat 0))] [aI (fwB (mPlH h g (K + 1 * 3 ^ f) = true))] (fwUc h 24 0 O1) Q
        exact w_zretE (P := mPlH h g (mChild (mTn (h 6 0 4) (mMv K)) K f) = true) dX4_comesOutBy_51 rfl (by unfold mChild; rw [if_pos cw]) (k _ hO1)
set_option maxRecDepth 100000 in
set_option maxHeartbeats 4000000 in
theorem c_X4_canReach {d : Nat} {h : fwH} {Q : Option fwV → fwH → Prop} (g K : Nat) (ih : plI (d + 4) g) (hL : plH h) (hg : (h 6 0 3).toNat = g + 1 + mMv K) (hK : K < 3 ^ (h 5 0 3).toNat) (hO : memo h (h 24 0)) (k : ∀ O, memo h O → Q (some (aI (fwB ((!mAll (mPlB (mE h) (mPlH h g) (mTn (h 6 0 4) (mMv K)) K) (h 5 0 3).toNat) = true)))) (fwUc h 24 0 O)) : fwCt mX4_canReach (d + 6) [aR 6 0, aI (fwB (mTn (h 6 0 4) (mMv K) = true)), aI (mWn K), aI (mBr K), aI (mMv K : Int), aI (K : Int)] h Q := by
  refine fwCt_of [some (aR 6 0), some (aI (fwB (mTn (h 6 0 4) (mMv K) = true))), some (aI (mWn K)), some (aI (mBr K)), some (aI (mMv K : Int)), some (aI (K : Int)), none] rfl rfl rfl ?_
  have hp1 := hL.1.1
  refine w_iconst dX4_canReach_0 ?_
  refine w_istore [some (aR 6 0), some (aI (fwB (mTn (h 6 0 4) (mMv K) = true))), some (aI (mWn K)), some (aI (mBr K)), some (aI (mMv K : Int)), some (aI (K : Int)), some (aI 0)] dX4_canReach_1 rfl (by decide) ?_
  have lp3 : ∀ f : Nat, f ≤ (h 5 0 3).toNat → ∀ (y3  : Int) (hh3 : fwH), y3 = (f : Int) → (∃ O : Nat → Int, hh3 = (fwUc h 24 0 O) ∧ memo h O) → (mAll (mPlB (mE h) (mPlH h g) (mTn (h 6 0 4) (mMv K)) K) f = true) → fwWP mX4_canReach (d + 6) 3 [some (aR 6 0), some (aI (fwB (mTn (h 6 0 4) (mMv K) = true))), some (aI (mWn K)), some (aI (mBr K)), some (aI (mMv K : Int)), some (aI (K : Int)), some (aI y3)] [] hh3 Q := by
    refine fw_up (fun f hc3 ih3 => ?_)
    intro y3  hh3 ey3 eh3 iv3_0
    subst ey3
    obtain ⟨O_3, eh3, hp3⟩ := eh3
    subst eh3
    show fwWP mX4_canReach (d + 6) 3 [some (aR 6 0), some (aI (fwB (mTn (h 6 0 4) (mMv K) = true))), some (aI (mWn K)), some (aI (mBr K)), some (aI (mMv K : Int)), some (aI (K : Int)), some (aI (f : Int))] [] (fwUc h 24 0 O_3) Q
    refine w_iload dX4_canReach_3 rfl ?_
    refine w_aload_n dX4_canReach_5 rfl ?_
    refine w_getr 3 0 dX4_canReach_6 fl_X4_15 rfl (by decide) ?_
    refine w_getr 5 0 dX4_canReach_9 fl_X4_19 rfl (by decide) ?_
    refine w_getiE (v := h 5 0 3) dX4_canReach_12 fl_X4_39 rfl (by decide) (by first | rfl | simp [fwUp, fwUc]) ?_
    refine w_icmp_ge 53 dX4_canReach_15 (by decide) (by omega) (by omega) (fun c15 => ?_) (fun c15 => ?_)
    · have ec3 : (h 5 0 3).toNat = f := by omega
      subst ec3
      refine w_iconst dX4_canReach_53 ?_
      exact w_zretE (P := (!mAll (mPlB (mE h) (mPlH h g) (mTn (h 6 0 4) (mMv K)) K) (h 5 0 3).toNat) = true) dX4_canReach_54 rfl (by rw [fwB_f (by rw [iv3_0]; decide)]) (k _ hp3)
    · refine w_iload_n dX4_canReach_18 rfl ?_
      refine w_iload_n dX4_canReach_19 rfl ?_
      refine w_ior dX4_canReach_20 ?_
      refine w_iload dX4_canReach_21 rfl ?_
      refine w_ishr dX4_canReach_23 ?_
      refine w_iconst dX4_canReach_24 ?_
      refine w_iand dX4_canReach_25 ?_
      have hb := fwAnd_rng1 (fwShr (fwOr (mWn K) (mBr K)) (f : Int))
      have hfr := mFree (K := K) (f := f) (by omega)
      refine w_if_ne 47 dX4_canReach_26 (by decide) (by omega) (fun c26 => ?_) (fun c26 => ?_)
      · refine w_iinc [some (aR 6 0), some (aI (fwB (mTn (h 6 0 4) (mMv K) = true))), some (aI (mWn K)), some (aI (mBr K)), some (aI (mMv K : Int)), some (aI (K : Int)), some (aI ((f : Int) + 1))] dX4_canReach_47 rfl rfl (by decide) ?_
        refine w_goto 3 dX4_canReach_50 (by decide) ?_
        refine ih3 (by omega) _ _ ?_ ?_ ?_
        · exact (by omega)
        · exact ⟨_, rfl, hp3⟩
        · exact (by rw [mAll, iv3_0, Bool.true_and]; exact decide_eq_true (fun q => c26 (hfr.mpr q.1)))
      · have h0 : mDg K f = 0 := hfr.mp c26
        refine w_aload_n dX4_canReach_29 rfl ?_
        refine w_iload dX4_canReach_30 rfl ?_
        refine w_iload_n dX4_canReach_32 rfl ?_
        refine w_iload_n dX4_canReach_33 rfl ?_
        refine w_iload dX4_canReach_34 rfl ?_
        refine w_iload dX4_canReach_36 rfl ?_
        refine w_callV (d := d + 5) (S := []) [aI (f : Int), aI (mWn K), aI (mBr K), aI (mMv K : Int), aI (K : Int)] dX4_canReach_38 ml_X4_64 ok_X4_comesOutBy vi_X4_comesOutBy rfl rfl (by decide) rfl (Nat.le_of_ble_eq_true rfl) ?_
        refine c_X4_comesOutBy (d := d) g K f ih hL hg hK hp3 (show (f : Int) < h 5 0 3 by omega) h0 ?_
        intro O2 hO2
        show fwWP mX4_canReach (d + 6) 41 [some (aR 6 0), some (aI (fwB (mTn (h 6 0 4) (mMv K) = true))), some (aI (mWn K)), some (aI (mBr K)), some (aI (mMv K : Int)), some (aI (K : Int)), some (aI (f : Int))] [aI (fwB (mPlH h g (mChild (mTn (h 6 0 4) (mMv K)) K f) = true))] (fwUc (fwUc h 24 0 O_3) 24 0 O2) Q
        rw [show fwUc (fwUc h 24 0 O_3) 24 0 O2 = (fwUc h 24 0 O2) from by funext a b; simp only [fwUc]; (repeat' split); all_goals first | rfl | (exfalso; omega)]
        have hf1 := fwB_rng (mPlH h g (mChild (mTn (h 6 0 4) (mMv K)) K f) = true)
        have hf2 := fwB_rng (mTn (h 6 0 4) (mMv K) = true)
        refine w_iload_n dX4_canReach_41 rfl ?_
        refine w_icmp_ne 47 dX4_canReach_42 (by decide) (by omega) (by omega) (fun c42 => ?_) (fun c42 => ?_)
        · refine w_iinc [some (aR 6 0), some (aI (fwB (mTn (h 6 0 4) (mMv K) = true))), some (aI (mWn K)), some (aI (mBr K)), some (aI (mMv K : Int)), some (aI (K : Int)), some (aI ((f : Int) + 1))] dX4_canReach_47 rfl rfl (by decide) ?_
          refine w_goto 3 dX4_canReach_50 (by decide) ?_
          refine ih3 (by omega) _ _ ?_ ?_ ?_
          · exact (by omega)
          · exact ⟨_, rfl, hO2⟩
          · exact (by rw [mAll, iv3_0, Bool.true_and]; exact decide_eq_true (fun q => c42 (fwB_iff.mpr (Bool.eq_iff_iff.mp q.2))))
        · refine w_iconst dX4_canReach_45 ?_
          exact w_zretE (P := (!mAll (mPlB (mE h) (mPlH h g) (mTn (h 6 0 4) (mMv K)) K) (h 5 0 3).toNat) = true) dX4_canReach_46 rfl (by rw [fwB_t (by cases q : mAll (mPlB (mE h) (mPlH h g) (mTn (h 6 0 4) (mMv K)) K) (h 5 0 3).toNat with | false => rfl | true => exact absurd ⟨h0, Bool.eq_iff_iff.mpr (fwB_iff.mp c42)⟩ (of_decide_eq_true ((mAll_iff _ _).mp q f (by omega))))]) (k _ hO2)
  refine lp3 0 (Nat.zero_le _) _ _ ?_ ?_ ?_
  · exact (by omega)
  · exact ⟨h 24 0, (fwUc_self h 24 0).symm, hO⟩
  · exact rfl
set_option maxRecDepth 100000 in
set_option maxHeartbeats 4000000 in
theorem c_comesOut0 {d : Nat} {h : fwH} {Q : Option fwV → fwH → Prop} (K : Nat) (hL : plH h) (hg : (h 6 0 3).toNat = 0 + mMv K) (hK : K < 3 ^ (h 5 0 3).toNat) (hO : memo h (h 24 0)) (k : ∀ O, memo h O → Q (some (aI (fwB (mPlH h 0 K = true)))) (fwUc h 24 0 O)) : fwCt mX4_comesOut (d + 4) [aR 6 0, aI (mWn K), aI (mBr K), aI (mMv K : Int), aI (K : Int)] h Q := by
  refine fwCt_of [some (aR 6 0), some (aI (mWn K)), some (aI (mBr K)), some (aI (mMv K : Int)), some (aI (K : Int)), none, none, none] rfl rfl rfl ?_
  have hp1 := hL.1.1
  have hlw := hL.2.1
  have htu := hL.2.2.1
  have hP := hL.1
  have hwr := mSetN_rng K
  have hmv := mMv_le K
  have hfu := mFull_iff (K := K) (n := (h 5 0 3).toNat) (by omega) hK
  rw [show (((h 5 0 3).toNat : Nat) : Int) = h 5 0 3 by omega] at hfu
  have hor := fwOr_rng (mWn K) (mBr K)
  have hsh := fwShl1_rng (x := h 5 0 3) (by omega)
  have hK9 := pl3 (n := (h 5 0 3).toNat) (by omega) hK
  have J25 : ∀ v : Int, v = fwB (mFull (h 5 0 3).toNat K = true) → fwWP mX4_comesOut (d + 4) 25 [some (aR 6 0), some (aI (mWn K)), some (aI (mBr K)), some (aI (mMv K : Int)), some (aI (K : Int)), none, none, none] [aI v] h Q := by
    intro v ev
    subst ev
    refine w_istore [some (aR 6 0), some (aI (mWn K)), some (aI (mBr K)), some (aI (mMv K : Int)), some (aI (K : Int)), some (aI (fwB (mFull (h 5 0 3).toNat K = true))), none, none] dX4_comesOut_25 rfl (by decide) ?_
    refine w_iload dX4_comesOut_27 rfl ?_
    refine w_ifB_ne 55 dX4_comesOut_29 (by decide) (fun cf => ?_) (fun cf => ?_)
    · refine w_aload_n dX4_comesOut_55 rfl ?_
      refine w_getr 3 0 dX4_comesOut_56 fl_X4_15 rfl (by decide) ?_
      refine w_aload_n dX4_comesOut_59 rfl ?_
      refine w_geti dX4_comesOut_60 fl_X4_68 rfl (by decide) ?_
      refine w_iload_n dX4_comesOut_63 rfl ?_
      refine w_ior dX4_comesOut_64 ?_
      refine w_iload_n dX4_comesOut_65 rfl ?_
      refine w_callV (d := d + 3) (S := []) [aI (fwOr (h 6 0 2) (mWn K)), aI (mBr K)] dX4_comesOut_66 ml_X4_49 ok_X2_isEnough vi_X2_isEnough rfl rfl (by decide) rfl (Nat.le_of_ble_eq_true rfl) ?_
      refine c_X2_isEnough (d := (d + 1)) (fwOr (h 6 0 2) (mWn K)) (mBr K) (by first | assumption | omega | decide) (by first | assumption | omega | decide) ?_
      show fwWP mX4_comesOut (d + 4) 69 [some (aR 6 0), some (aI (mWn K)), some (aI (mBr K)), some (aI (mMv K : Int)), some (aI (K : Int)), some (aI (fwB (mFull (h 5 0 3).toNat K = true))), none, none] [aI (fwB (mEno (h 18 0) (h 5 0 3).toNat (h 3 0 4) (fwOr (h 6 0 2) (mWn K)) (mBr K)))] h Q
      have hpl0 : mPlH h 0 K = mE h K := rfl
      have k9 := k (h 24 0) hO
      rw [fwUc_self] at k9
      exact w_zretE (P := mPlH h 0 K = true) dX4_comesOut_69 rfl (fwB_eq (by rw [hpl0]; exact decide_eq_true_iff.symm)) k9
    · refine w_iload_n dX4_comesOut_32 rfl ?_
      refine w_aload_n dX4_comesOut_33 rfl ?_
      refine w_geti dX4_comesOut_34 fl_X4_71 rfl (by decide) ?_
      refine w_icmp_ge 55 dX4_comesOut_37 (by decide) (by omega) (by omega) (fun c37 => ?_) (fun c37 => ?_)
      · refine w_aload_n dX4_comesOut_55 rfl ?_
        refine w_getr 3 0 dX4_comesOut_56 fl_X4_15 rfl (by decide) ?_
        refine w_aload_n dX4_comesOut_59 rfl ?_
        refine w_geti dX4_comesOut_60 fl_X4_68 rfl (by decide) ?_
        refine w_iload_n dX4_comesOut_63 rfl ?_
        refine w_ior dX4_comesOut_64 ?_
        refine w_iload_n dX4_comesOut_65 rfl ?_
        refine w_callV (d := d + 3) (S := []) [aI (fwOr (h 6 0 2) (mWn K)), aI (mBr K)] dX4_comesOut_66 ml_X4_49 ok_X2_isEnough vi_X2_isEnough rfl rfl (by decide) rfl (Nat.le_of_ble_eq_true rfl) ?_
        refine c_X2_isEnough (d := (d + 1)) (fwOr (h 6 0 2) (mWn K)) (mBr K) (by first | assumption | omega | decide) (by first | assumption | omega | decide) ?_
        show fwWP mX4_comesOut (d + 4) 69 [some (aR 6 0), some (aI (mWn K)), some (aI (mBr K)), some (aI (mMv K : Int)), some (aI (K : Int)), some (aI (fwB (mFull (h 5 0 3).toNat K = true))), none, none] [aI (fwB (mEno (h 18 0) (h 5 0 3).toNat (h 3 0 4) (fwOr (h 6 0 2) (mWn K)) (mBr K)))] h Q
        have hpl0 : mPlH h 0 K = mE h K := rfl
        have k9 := k (h 24 0) hO
        rw [fwUc_self] at k9
        exact w_zretE (P := mPlH h 0 K = true) dX4_comesOut_69 rfl (fwB_eq (by rw [hpl0]; exact decide_eq_true_iff.symm)) k9
      · (exfalso; omega)
  refine w_iload_n dX4_comesOut_0 rfl ?_
  refine w_iload_n dX4_comesOut_1 rfl ?_
  refine w_ior dX4_comesOut_2 ?_
  refine w_iconst dX4_comesOut_3 ?_
  refine w_aload_n dX4_comesOut_4 rfl ?_
  refine w_getr 3 0 dX4_comesOut_5 fl_X4_15 rfl (by decide) ?_
  refine w_getr 5 0 dX4_comesOut_8 fl_X4_19 rfl (by decide) ?_
  refine w_geti dX4_comesOut_11 fl_X4_39 rfl (by decide) ?_
  refine w_ishl dX4_comesOut_14 ?_
  refine w_iconst dX4_comesOut_15 ?_
  refine w_isub dX4_comesOut_16 ?_
  refine w_icmp_ne 24 dX4_comesOut_17 (by decide) (by omega) (by omega) (fun c17 => ?_) (fun c17 => ?_)
  · refine w_iconst dX4_comesOut_24 ?_
    exact J25 _ (by first | (rw [fwB_t (hfu.mp (by omega))]) | (rw [fwB_f (fun q => by have := hfu.mpr q; omega)]))
  · refine w_iconst dX4_comesOut_20 ?_
    refine w_goto 25 dX4_comesOut_21 (by decide) ?_
    exact J25 _ (by first | (rw [fwB_t (hfu.mp (by omega))]) | (rw [fwB_f (fun q => by have := hfu.mpr q; omega)]))
set_option maxRecDepth 100000 in
set_option maxHeartbeats 4000000 in
theorem c_comesOutS {d : Nat} {h : fwH} {Q : Option fwV → fwH → Prop} (g K : Nat) (ih : plI (d + 4) g) (hL : plH h) (hg : (h 6 0 3).toNat = g + 1 + mMv K) (hK : K < 3 ^ (h 5 0 3).toNat) (hO : memo h (h 24 0)) (k : ∀ O, memo h O → Q (some (aI (fwB (mPlH h (g + 1) K = true)))) (fwUc h 24 0 O)) : fwCt mX4_comesOut (d + 7) [aR 6 0, aI (mWn K), aI (mBr K), aI (mMv K : Int), aI (K : Int)] h Q := by
  refine fwCt_of [some (aR 6 0), some (aI (mWn K)), some (aI (mBr K)), some (aI (mMv K : Int)), some (aI (K : Int)), none, none, none] rfl rfl rfl ?_
  have hp1 := hL.1.1
  have hlw := hL.2.1
  have htu := hL.2.2.1
  have hP := hL.1
  have hwr := mSetN_rng K
  have hmv := mMv_le K
  have hgm : (h 6 0 3).toNat - mMv K = g + 1 := by omega
  have hfu := mFull_iff (K := K) (n := (h 5 0 3).toNat) (by omega) hK
  rw [show (((h 5 0 3).toNat : Nat) : Int) = h 5 0 3 by omega] at hfu
  have hor := fwOr_rng (mWn K) (mBr K)
  have hsh := fwShl1_rng (x := h 5 0 3) (by omega)
  have hK9 := pl3 (n := (h 5 0 3).toNat) (by omega) hK
  have J25 : ∀ v : Int, v = fwB (mFull (h 5 0 3).toNat K = true) → fwWP mX4_comesOut (d + 7) 25 [some (aR 6 0), some (aI (mWn K)), some (aI (mBr K)), some (aI (mMv K : Int)), some (aI (K : Int)), none, none, none] [aI v] h Q := by
    intro v ev
    subst ev
    refine w_istore [some (aR 6 0), some (aI (mWn K)), some (aI (mBr K)), some (aI (mMv K : Int)), some (aI (K : Int)), some (aI (fwB (mFull (h 5 0 3).toNat K = true))), none, none] dX4_comesOut_25 rfl (by decide) ?_
    refine w_iload dX4_comesOut_27 rfl ?_
    refine w_ifB_ne 55 dX4_comesOut_29 (by decide) (fun cf => ?_) (fun cf => ?_)
    · refine w_aload_n dX4_comesOut_55 rfl ?_
      refine w_getr 3 0 dX4_comesOut_56 fl_X4_15 rfl (by decide) ?_
      refine w_aload_n dX4_comesOut_59 rfl ?_
      refine w_geti dX4_comesOut_60 fl_X4_68 rfl (by decide) ?_
      refine w_iload_n dX4_comesOut_63 rfl ?_
      refine w_ior dX4_comesOut_64 ?_
      refine w_iload_n dX4_comesOut_65 rfl ?_
      refine w_callV (d := d + 6) (S := []) [aI (fwOr (h 6 0 2) (mWn K)), aI (mBr K)] dX4_comesOut_66 ml_X4_49 ok_X2_isEnough vi_X2_isEnough rfl rfl (by decide) rfl (Nat.le_of_ble_eq_true rfl) ?_
      refine c_X2_isEnough (d := (d + 4)) (fwOr (h 6 0 2) (mWn K)) (mBr K) (by first | assumption | omega | decide) (by first | assumption | omega | decide) ?_
      show fwWP mX4_comesOut (d + 7) 69 [some (aR 6 0), some (aI (mWn K)), some (aI (mBr K)), some (aI (mMv K : Int)), some (aI (K : Int)), some (aI (fwB (mFull (h 5 0 3).toNat K = true))), none, none] [aI (fwB (mEno (h 18 0) (h 5 0 3).toNat (h 3 0 4) (fwOr (h 6 0 2) (mWn K)) (mBr K)))] h Q
      have hpl0 : mPlH h (g + 1) K = mE h K := (if_pos cf)
      have k9 := k (h 24 0) hO
      rw [fwUc_self] at k9
      exact w_zretE (P := mPlH h (g + 1) K = true) dX4_comesOut_69 rfl (fwB_eq (by rw [hpl0]; exact decide_eq_true_iff.symm)) k9
    · refine w_iload_n dX4_comesOut_32 rfl ?_
      refine w_aload_n dX4_comesOut_33 rfl ?_
      refine w_geti dX4_comesOut_34 fl_X4_71 rfl (by decide) ?_
      refine w_icmp_ge 55 dX4_comesOut_37 (by decide) (by omega) (by omega) (fun c37 => ?_) (fun c37 => ?_)
      · (exfalso; omega)
      · refine w_iload dX4_comesOut_40 rfl ?_
        refine w_if_lt 55 dX4_comesOut_42 (by decide) (by omega) (fun c42 => ?_) (fun c42 => ?_)
        · (exfalso; omega)
        · refine w_iload dX4_comesOut_45 rfl ?_
          refine w_aload_n dX4_comesOut_47 rfl ?_
          refine w_getr 24 0 dX4_comesOut_48 fl_X4_9 rfl (by decide) ?_
          refine w_alen dX4_comesOut_51 rfl (by decide) (by decide) ?_
          refine w_icmp_lt 70 dX4_comesOut_52 (by decide) (by omega) (by omega) (fun c52 => ?_) (fun c52 => ?_)
          · have hmo := hO K hK9
            rw [hgm] at hmo
            have hmr : 0 ≤ h 24 0 K ∧ h 24 0 K ≤ 2 := by split at hmo <;> omega
            refine w_aload_n dX4_comesOut_70 rfl ?_
            refine w_getr 24 0 dX4_comesOut_71 fl_X4_9 rfl (by decide) ?_
            refine w_iload dX4_comesOut_74 rfl ?_
            refine w_baldE (v := h 24 0 K) dX4_comesOut_76 rfl (by decide) (by omega) (by omega) (by rw [Int.toNat_natCast]) ?_
            refine w_if_ne 128 dX4_comesOut_77 (by decide) (by omega) (fun c77 => ?_) (fun c77 => ?_)
            · refine w_aload_n dX4_comesOut_128 rfl ?_
              refine w_getr 24 0 dX4_comesOut_129 fl_X4_9 rfl (by decide) ?_
              refine w_iload dX4_comesOut_132 rfl ?_
              refine w_baldE (v := h 24 0 K) dX4_comesOut_134 rfl (by decide) (by omega) (by omega) (by rw [Int.toNat_natCast]) ?_
              refine w_iconst dX4_comesOut_135 ?_
              refine w_icmp_ne 143 dX4_comesOut_136 (by decide) (by omega) (by omega) (fun c136 => ?_) (fun c136 => ?_)
              · refine w_iconst dX4_comesOut_143 ?_
                have k9 := k (h 24 0) hO
                rw [fwUc_self] at k9
                exact w_zretE (P := mPlH h (g + 1) K = true) dX4_comesOut_144 rfl (by rcases Decidable.em (mPlH h (g + 1) K = true) with q | q <;> first | (rw [if_pos q] at hmo; first | (rw [fwB_t q]; done) | (exfalso; omega)) | (rw [if_neg q] at hmo; first | (rw [fwB_f q]; done) | (exfalso; omega))) k9
              · refine w_iconst dX4_comesOut_139 ?_
                refine w_goto 144 dX4_comesOut_140 (by decide) ?_
                have k9 := k (h 24 0) hO
                rw [fwUc_self] at k9
                exact w_zretE (P := mPlH h (g + 1) K = true) dX4_comesOut_144 rfl (by rcases Decidable.em (mPlH h (g + 1) K = true) with q | q <;> first | (rw [if_pos q] at hmo; first | (rw [fwB_t q]; done) | (exfalso; omega)) | (rw [if_neg q] at hmo; first | (rw [fwB_f q]; done) | (exfalso; omega))) k9
            · refine w_aload_n dX4_comesOut_80 rfl ?_
              refine w_iload_n dX4_comesOut_81 rfl ?_
              refine w_callV (d := d + 6) (S := []) [aI (mMv K : Int)] dX4_comesOut_82 ml_X4_77 ok_X4_winsNow vi_X4_winsNow rfl rfl (by decide) rfl (Nat.le_of_ble_eq_true rfl) ?_
              refine c_X4_winsNow (d := (d + 6)) (mMv K) ?_
              show fwWP mX4_comesOut (d + 7) 85 [some (aR 6 0), some (aI (mWn K)), some (aI (mBr K)), some (aI (mMv K : Int)), some (aI (K : Int)), some (aI (fwB (mFull (h 5 0 3).toNat K = true))), none, none] [aI (fwB (mTn (h 6 0 4) (mMv K) = true))] h Q
              refine w_istore [some (aR 6 0), some (aI (mWn K)), some (aI (mBr K)), some (aI (mMv K : Int)), some (aI (K : Int)), some (aI (fwB (mFull (h 5 0 3).toNat K = true))), some (aI (fwB (mTn (h 6 0 4) (mMv K) = true))), none] dX4_comesOut_85 rfl (by decide) ?_
              refine w_aload_n dX4_comesOut_87 rfl ?_
              refine w_iload dX4_comesOut_88 rfl ?_
              refine w_iload_n dX4_comesOut_90 rfl ?_
              refine w_iload_n dX4_comesOut_91 rfl ?_
              refine w_iload_n dX4_comesOut_92 rfl ?_
              refine w_iload dX4_comesOut_93 rfl ?_
              refine w_callV (d := d + 6) (S := []) [aI (fwB (mTn (h 6 0 4) (mMv K) = true)), aI (mWn K), aI (mBr K), aI (mMv K : Int), aI (K : Int)] dX4_comesOut_95 ml_X4_81 ok_X4_canReach vi_X4_canReach rfl rfl (by decide) rfl (Nat.le_of_ble_eq_true rfl) ?_
              refine c_X4_canReach (d := d) g K ih hL hg hK hO ?_
              intro O1 hO1
              show fwWP mX4_comesOut (d + 7) 98 [some (aR 6 0), some (aI (mWn K)), some (aI (mBr K)), some (aI (mMv K : Int)), some (aI (K : Int)), some (aI (fwB (mFull (h 5 0 3).toNat K = true))), some (aI (fwB (mTn (h 6 0 4) (mMv K) = true))), none] [aI (fwB ((!mAll (mPlB (mE h) (mPlH h g) (mTn (h 6 0 4) (mMv K)) K) (h 5 0 3).toNat) = true))] (fwUc h 24 0 O1) Q
              have hf1 := fwB_rng (((!mAll (mPlB (mE h) (mPlH h g) (mTn (h 6 0 4) (mMv K)) K) (h 5 0 3).toNat) = true))
              have hf2 := fwB_rng (mTn (h 6 0 4) (mMv K) = true)
              have hpl : mPlH h (g + 1) K = ((!mAll (mPlB (mE h) (mPlH h g) (mTn (h 6 0 4) (mMv K)) K) (h 5 0 3).toNat) == mTn (h 6 0 4) (mMv K)) := if_neg cf
              refine w_iload dX4_comesOut_98 rfl ?_
              refine w_icmp_ne 107 dX4_comesOut_100 (by decide) (by omega) (by omega) (fun c100 => ?_) (fun c100 => ?_)
              · refine w_iconst dX4_comesOut_107 ?_
                refine w_istore [some (aR 6 0), some (aI (mWn K)), some (aI (mBr K)), some (aI (mMv K : Int)), some (aI (K : Int)), some (aI (fwB (mFull (h 5 0 3).toNat K = true))), some (aI (fwB (mTn (h 6 0 4) (mMv K) = true))), some (aI 0)] dX4_comesOut_108 rfl (by decide) ?_
                have hv : ¬ mPlH h (g + 1) K = true := by rw [hpl, beq_iff_eq]; exact fun q => c100 (fwB_iff.mpr (Bool.eq_iff_iff.mp q))
                refine w_aload_n dX4_comesOut_110 rfl ?_
                refine w_getr 24 0 dX4_comesOut_111 fl_X4_9 rfl (by decide) ?_
                refine w_iload dX4_comesOut_114 rfl ?_
                refine w_iload dX4_comesOut_116 rfl ?_
                refine w_if_eq 125 dX4_comesOut_118 (by decide) (by omega) (fun c118 => ?_) (fun c118 => ?_)
                · refine w_iconst dX4_comesOut_125 ?_
                  refine w_i2b dX4_comesOut_126 ?_
                  rw [show fwB8 2 = 2 from by decide]
                  refine w_bast dX4_comesOut_127 rfl (by decide) (by omega) (by omega) (by first | omega | exact fwB_01 _) ?_
                  rw [show (fwUp (fwUc h 24 0 O1) 24 0 ((K : Int)).toNat 2) = (fwUc (fwUc h 24 0 O1) 24 0 (fwFu (O1) ((K : Int)).toNat 2)) from fwUp_fu _ _ _ _ _]
                  rw [show (fwUc (fwUc h 24 0 O1) 24 0 (fwFu (O1) ((K : Int)).toNat 2)) = (fwUc h 24 0 (fwFu (O1) ((K : Int)).toNat 2)) from by funext a b; simp only [fwUc]; (repeat' split); all_goals first | rfl | (exfalso; omega)]
                  refine w_aload_n dX4_comesOut_128 rfl ?_
                  refine w_getr 24 0 dX4_comesOut_129 fl_X4_9 rfl (by decide) ?_
                  refine w_iload dX4_comesOut_132 rfl ?_
                  refine w_baldE (v := 2) dX4_comesOut_134 rfl (by decide) (by omega) (by omega) (by rw [Int.toNat_natCast]; exact if_pos rfl) ?_
                  refine w_iconst dX4_comesOut_135 ?_
                  refine w_icmp_ne 143 dX4_comesOut_136 (by decide) (by omega) (by omega) (fun c136 => ?_) (fun c136 => ?_)
                  · refine w_iconst dX4_comesOut_143 ?_
                    exact w_zretE (P := mPlH h (g + 1) K = true) dX4_comesOut_144 rfl (by first | (exfalso; omega) | (rw [fwB_t hv]; done) | (rw [fwB_f hv]; done)) (k _ (memo_up hO1 (by rw [Int.toNat_natCast, hgm]; first | rw [if_pos hv] | rw [if_neg hv])))
                  · refine w_iconst dX4_comesOut_139 ?_
                    refine w_goto 144 dX4_comesOut_140 (by decide) ?_
                    exact w_zretE (P := mPlH h (g + 1) K = true) dX4_comesOut_144 rfl (by first | (exfalso; omega) | (rw [fwB_t hv]; done) | (rw [fwB_f hv]; done)) (k _ (memo_up hO1 (by rw [Int.toNat_natCast, hgm]; first | rw [if_pos hv] | rw [if_neg hv])))
                · (exfalso; omega)
              · refine w_iconst dX4_comesOut_103 ?_
                refine w_goto 108 dX4_comesOut_104 (by decide) ?_
                refine w_istore [some (aR 6 0), some (aI (mWn K)), some (aI (mBr K)), some (aI (mMv K : Int)), some (aI (K : Int)), some (aI (fwB (mFull (h 5 0 3).toNat K = true))), some (aI (fwB (mTn (h 6 0 4) (mMv K) = true))), some (aI 1)] dX4_comesOut_108 rfl (by decide) ?_
                have hv : mPlH h (g + 1) K = true := by rw [hpl, beq_iff_eq]; exact Bool.eq_iff_iff.mpr (fwB_iff.mp c100)
                refine w_aload_n dX4_comesOut_110 rfl ?_
                refine w_getr 24 0 dX4_comesOut_111 fl_X4_9 rfl (by decide) ?_
                refine w_iload dX4_comesOut_114 rfl ?_
                refine w_iload dX4_comesOut_116 rfl ?_
                refine w_if_eq 125 dX4_comesOut_118 (by decide) (by omega) (fun c118 => ?_) (fun c118 => ?_)
                · (exfalso; omega)
                · refine w_iconst dX4_comesOut_121 ?_
                  refine w_goto 126 dX4_comesOut_122 (by decide) ?_
                  refine w_i2b dX4_comesOut_126 ?_
                  rw [show fwB8 1 = 1 from by decide]
                  refine w_bast dX4_comesOut_127 rfl (by decide) (by omega) (by omega) (by first | omega | exact fwB_01 _) ?_
                  rw [show (fwUp (fwUc h 24 0 O1) 24 0 ((K : Int)).toNat 1) = (fwUc (fwUc h 24 0 O1) 24 0 (fwFu (O1) ((K : Int)).toNat 1)) from fwUp_fu _ _ _ _ _]
                  rw [show (fwUc (fwUc h 24 0 O1) 24 0 (fwFu (O1) ((K : Int)).toNat 1)) = (fwUc h 24 0 (fwFu (O1) ((K : Int)).toNat 1)) from by funext a b; simp only [fwUc]; (repeat' split); all_goals first | rfl | (exfalso; omega)]
                  refine w_aload_n dX4_comesOut_128 rfl ?_
                  refine w_getr 24 0 dX4_comesOut_129 fl_X4_9 rfl (by decide) ?_
                  refine w_iload dX4_comesOut_132 rfl ?_
                  refine w_baldE (v := 1) dX4_comesOut_134 rfl (by decide) (by omega) (by omega) (by rw [Int.toNat_natCast]; exact if_pos rfl) ?_
                  refine w_iconst dX4_comesOut_135 ?_
                  refine w_icmp_ne 143 dX4_comesOut_136 (by decide) (by omega) (by omega) (fun c136 => ?_) (fun c136 => ?_)
                  · refine w_iconst dX4_comesOut_143 ?_
                    exact w_zretE (P := mPlH h (g + 1) K = true) dX4_comesOut_144 rfl (by first | (exfalso; omega) | (rw [fwB_t hv]; done) | (rw [fwB_f hv]; done)) (k _ (memo_up hO1 (by rw [Int.toNat_natCast, hgm]; first | rw [if_pos hv] | rw [if_neg hv])))
                  · refine w_iconst dX4_comesOut_139 ?_
                    refine w_goto 144 dX4_comesOut_140 (by decide) ?_
                    exact w_zretE (P := mPlH h (g + 1) K = true) dX4_comesOut_144 rfl (by first | (exfalso; omega) | (rw [fwB_t hv]; done) | (rw [fwB_f hv]; done)) (k _ (memo_up hO1 (by rw [Int.toNat_natCast, hgm]; first | rw [if_pos hv] | rw [if_neg hv])))
          · (exfalso; omega)
  refine w_iload_n dX4_comesOut_0 rfl ?_
  refine w_iload_n dX4_comesOut_1 rfl ?_
  refine w_ior dX4_comesOut_2 ?_
  refine w_iconst dX4_comesOut_3 ?_
  refine w_aload_n dX4_comesOut_4 rfl ?_
  refine w_getr 3 0 dX4_comesOut_5 fl_X4_15 rfl (by decide) ?_
  refine w_getr 5 0 dX4_comesOut_8 fl_X4_19 rfl (by decide) ?_
  refine w_geti dX4_comesOut_11 fl_X4_39 rfl (by decide) ?_
  refine w_ishl dX4_comesOut_14 ?_
  refine w_iconst dX4_comesOut_15 ?_
  refine w_isub dX4_comesOut_16 ?_
  refine w_icmp_ne 24 dX4_comesOut_17 (by decide) (by omega) (by omega) (fun c17 => ?_) (fun c17 => ?_)
  · refine w_iconst dX4_comesOut_24 ?_
    exact J25 _ (by first | (rw [fwB_t (hfu.mp (by omega))]) | (rw [fwB_f (fun q => by have := hfu.mpr q; omega)]))
  · refine w_iconst dX4_comesOut_20 ?_
    refine w_goto 25 dX4_comesOut_21 (by decide) ?_
    exact J25 _ (by first | (rw [fwB_t (hfu.mp (by omega))]) | (rw [fwB_f (fun q => by have := hfu.mpr q; omega)]))
theorem plI_all : ∀ (g d : Nat), plI (d + (4 + 3 * g)) g := by
  intro g
  induction g with
  | zero =>
    intro d h Q K a b c e ea eb ec ee hL hg hK hO k
    subst ea eb ec ee
    exact c_comesOut0 K hL hg hK hO k
  | succ g ih =>
    intro d h Q K a b c e ea eb ec ee hL hg hK hO k
    subst ea eb ec ee
    have h1 := ih d
    rw [show d + (4 + 3 * g) = (d + 3 * g) + 4 by omega] at h1
    rw [show d + (4 + 3 * (g + 1)) = (d + 3 * g) + 7 by omega]
    exact c_comesOutS g K h1 hL hg hK hO k
theorem plI_at (d : Nat) {g : Nat} (hg : g ≤ 8) : plI (d + 28) g := by
  have := plI_all g (d + 3 * (8 - g))
  rw [show d + 3 * (8 - g) + (4 + 3 * g) = d + 28 by omega] at this
  exact this
theorem memo_0 (h : fwH) : memo h (fun _ => 0) := fun _ _ => Or.inl rfl
/-- the heap of a play that begins -/
def beH (h : fwH) (x y : Int) (A B O : Nat → Int) : fwH := fwUc (fwUc (fwUc (fwUc h 6 0 (fwFu (fwFu (fwFu (h 6 0) 2 (mWil h 0)) 3 (2 * x)) 4 y)) 19 0 A) 20 0 B) 24 0 O
def mEw (h : fwH) (K : Nat) : Bool := decide (mEno (h 18 0) (h 5 0 3).toNat (h 3 0 4) (fwOr (mWil h 0) (mWn K)) (mBr K))
/-- how a play of n each comes out, who begins -/
def mPlay (h : fwH) (n : Nat) (y : Int) : Bool := mPl (mEw h) (h 5 0 3).toNat y (2 * n) 0
theorem mSet_0 (v : Nat) (hv : v ≠ 0) : ∀ n, mSetN 0 v n = 0 := by
  intro n
  induction n with
  | zero => rfl
  | succ n ih => rw [mSetN, ih, if_neg (by unfold mDg; simp; omega)]; rfl
theorem mMv_0 : mMv 0 = 0 := by decide
set_option maxRecDepth 100000 in
set_option maxHeartbeats 4000000 in
theorem c_X4_playOut {d : Nat} {h : fwH} {Q : Option fwV → fwH → Prop} (n : Nat) (y : Int) (hP : pOk h 0) (hG : gOk h 0) (hn : 1 ≤ h 4 0 1) (hM : ∀ c : Nat, c < 10 → h 17 0 c ≤ 999) (hlw : 0 ≤ h 3 0 4 ∧ h 3 0 4 ≤ 999) (hnn : n ≤ 4) (hy : y = 0 ∨ y = 1) (k : ∀ A B O, Q (some (aI (fwB (mPlay h n y = true)))) (beH h (n : Int) y A B O)) : fwCt mX4_playOut (d + 29) [aR 6 0, aI (n : Int), aI y] h Q := by
  refine fwCt_of [some (aR 6 0), some (aI (n : Int)), some (aI y)] rfl rfl rfl ?_
  refine w_aload_n dX4_playOut_0 rfl ?_
  refine w_iload_n dX4_playOut_1 rfl ?_
  refine w_iload_n dX4_playOut_2 rfl ?_
  refine w_callV (d := d + 28) (S := []) [aI (n : Int), aI y] dX4_playOut_3 ml_X4_56 ok_X4_begin vi_X4_begin rfl rfl (by decide) rfl (Nat.le_of_ble_eq_true rfl) ?_
  refine c_X4_begin (d := (d + 24)) (n : Int) y (by first | assumption | omega | decide) (by first | assumption | omega | decide) (by first | assumption | omega | decide) (by first | assumption | omega | decide) ?_
  intro A1 B1
  show fwWP mX4_playOut (d + 29) 6 [some (aR 6 0), some (aI (n : Int)), some (aI y)] [] (fwUc (fwUc (fwUc (fwUc h 6 0 (fwFu (fwFu (fwFu (h 6 0) 2 (mWil h 0)) 3 (2 * (n : Int))) 4 y)) 19 0 A1) 20 0 B1) 24 0 (fun _ => 0)) Q
  have hL : plH (fwUc (fwUc (fwUc (fwUc h 6 0 (fwFu (fwFu (fwFu (h 6 0) 2 (mWil h 0)) 3 (2 * (n : Int))) 4 y)) 19 0 A1) 20 0 B1) 24 0 (fun _ => 0)) := ⟨hP, hlw, (show 0 ≤ 2 * (n : Int) ∧ 2 * (n : Int) ≤ 8 by omega), hy⟩
  refine w_aload_n dX4_playOut_6 rfl ?_
  refine w_iconst dX4_playOut_7 ?_
  refine w_iconst dX4_playOut_8 ?_
  refine w_iconst dX4_playOut_9 ?_
  refine w_iconst dX4_playOut_10 ?_
  refine w_callV (d := d + 28) (S := []) [aI 0, aI 0, aI 0, aI 0] dX4_playOut_11 ml_X4_60 ok_X4_comesOut vi_X4_comesOut rfl rfl (by decide) rfl (Nat.le_of_ble_eq_true rfl) ?_
  refine plI_at d (g := 2 * n) (by omega) _ _ 0 0 0 0 0 (by decide) (by decide) (by decide) (by decide) hL (by show (2 * (n : Int)).toNat = 2 * n + mMv 0; rw [mMv_0]; omega) (Nat.pow_pos (by decide)) (memo_0 _) ?_
  intro O1 hO1
  show fwWP mX4_playOut (d + 29) 14 [some (aR 6 0), some (aI (n : Int)), some (aI y)] [aI (fwB (mPlay h n y = true))] (fwUc (fwUc (fwUc (fwUc (fwUc h 6 0 (fwFu (fwFu (fwFu (h 6 0) 2 (mWil h 0)) 3 (2 * (n : Int))) 4 y)) 19 0 A1) 20 0 B1) 24 0 (fun _ => 0)) 24 0 O1) Q
  rw [show fwUc (fwUc (fwUc (fwUc (fwUc h 6 0 (fwFu (fwFu (fwFu (h 6 0) 2 (mWil h 0)) 3 (2 * (n : Int))) 4 y)) 19 0 A1) 20 0 B1) 24 0 (fun _ => 0)) 24 0 O1 = (fwUc (fwUc (fwUc (fwUc h 6 0 (fwFu (fwFu (fwFu (h 6 0) 2 (mWil h 0)) 3 (2 * (n : Int))) 4 y)) 19 0 A1) 20 0 B1) 24 0 O1) from by funext a b; simp only [fwUc]; (repeat' split); all_goals first | rfl | (exfalso; omega)]
  exact w_zretE (P := mPlay h n y = true) dX4_playOut_14 rfl rfl (k _ _ _)
def mMovB (h : fwH) (n : Nat) (y : Int) (f : Nat) : Bool := decide (¬ (mPl (mEw h) (h 5 0 3).toNat y (2 * n - 1) (mChild (mTn y 0) 0 f) = mTn y 0))
/-- the least FOLK by which the one who begins has what he wants, or else the least of all -/
def mMov (h : fwH) (n : Nat) (y : Int) : Int := if n = 0 ∨ h 5 0 3 = 0 then -1 else if mFst (mMovB h n y) (h 5 0 3).toNat = (h 5 0 3).toNat then 0 else (mFst (mMovB h n y) (h 5 0 3).toNat : Int)
theorem mTn_01 {y : Int} (hy : y = 0 ∨ y = 1) : mTn y 0 = true ↔ y = 0 := by
  rcases hy with rfl | rfl
  · decide
  · decide
theorem c_byX {d : Nat} {h : fwH} {Q : Option fwV → fwH → Prop} (g K f : Nat) (x a b c e : Int) (ex : x = (f : Int)) (ea : a = mWn K) (eb : b = mBr K) (ec : c = (mMv K : Int)) (ee : e = (K : Int)) (ih : plI (d + 4) g) (hL : plH h) (hg : (h 6 0 3).toNat = g + 1 + mMv K) (hK : K < 3 ^ (h 5 0 3).toNat) (hO : memo h (h 24 0)) (hf : (f : Int) < h 5 0 3) (h0 : mDg K f = 0) (k : ∀ O, memo h O → Q (some (aI (fwB (mPlH h g (mChild (mTn (h 6 0 4) (mMv K)) K f) = true)))) (fwUc h 24 0 O)) : fwCt mX4_comesOutBy (d + 5) [aR 6 0, aI x, aI a, aI b, aI c, aI e] h Q := by
  subst ex ea eb ec ee
  exact c_X4_comesOutBy g K f ih hL hg hK hO hf h0 k
set_option maxRecDepth 100000 in
set_option maxHeartbeats 4000000 in
theorem c_X4_firstMove {d : Nat} {h : fwH} {Q : Option fwV → fwH → Prop} (n : Nat) (y : Int) (hP : pOk h 0) (hG : gOk h 0) (hn : 1 ≤ h 4 0 1) (hM : ∀ c : Nat, c < 10 → h 17 0 c ≤ 999) (hlw : 0 ≤ h 3 0 4 ∧ h 3 0 4 ≤ 999) (hnn : n ≤ 4) (hy : y = 0 ∨ y = 1) (k : ((n = 0 ∨ h 5 0 3 = 0) → Q (some (aI (mMov h n y))) h) ∧ ∀ A B O, Q (some (aI (mMov h n y))) (beH h (n : Int) y A B O)) : fwCt mX4_firstMove (d + 30) [aR 6 0, aI (n : Int), aI y] h Q := by
  refine fwCt_of [some (aR 6 0), some (aI (n : Int)), some (aI y), none, none] rfl rfl rfl ?_
  have hp1 := hP.1
  refine w_iload_n dX4_firstMove_0 rfl ?_
  refine w_if_eq 17 dX4_firstMove_1 (by decide) (by omega) (fun c1 => ?_) (fun c1 => ?_)
  · refine w_iconst dX4_firstMove_17 ?_
    have k9 := k.1 (by omega)
    exact w_iretE dX4_firstMove_18 rfl (by rw [mMov, if_pos (by omega)]) k9
  · refine w_aload_n dX4_firstMove_4 rfl ?_
    refine w_getr 3 0 dX4_firstMove_5 fl_X4_15 rfl (by decide) ?_
    refine w_getr 5 0 dX4_firstMove_8 fl_X4_19 rfl (by decide) ?_
    refine w_geti dX4_firstMove_11 fl_X4_39 rfl (by decide) ?_
    refine w_if_ne 19 dX4_firstMove_14 (by decide) (by omega) (fun c14 => ?_) (fun c14 => ?_)
    · refine w_aload_n dX4_firstMove_19 rfl ?_
      refine w_iload_n dX4_firstMove_20 rfl ?_
      refine w_iload_n dX4_firstMove_21 rfl ?_
      refine w_callV (d := d + 29) (S := []) [aI (n : Int), aI y] dX4_firstMove_22 ml_X4_56 ok_X4_begin vi_X4_begin rfl rfl (by decide) rfl (Nat.le_of_ble_eq_true rfl) ?_
      refine c_X4_begin (d := (d + 25)) (n : Int) y (by first | assumption | omega | decide) (by first | assumption | omega | decide) (by first | assumption | omega | decide) (by first | assumption | omega | decide) ?_
      intro A1 B1
      show fwWP mX4_firstMove (d + 30) 25 [some (aR 6 0), some (aI (n : Int)), some (aI y), none, none] [] (fwUc (fwUc (fwUc (fwUc h 6 0 (fwFu (fwFu (fwFu (h 6 0) 2 (mWil h 0)) 3 (2 * (n : Int))) 4 y)) 19 0 A1) 20 0 B1) 24 0 (fun _ => 0)) Q
      have J34 : ∀ v : Int, v = fwB (mTn y 0 = true) → fwWP mX4_firstMove (d + 30) 34 [some (aR 6 0), some (aI (n : Int)), some (aI y), none, none] [aI v] (fwUc (fwUc (fwUc (fwUc h 6 0 (fwFu (fwFu (fwFu (h 6 0) 2 (mWil h 0)) 3 (2 * (n : Int))) 4 y)) 19 0 A1) 20 0 B1) 24 0 (fun _ => 0)) Q := by
        intro v ev
        subst ev
        refine w_istore_n [some (aR 6 0), some (aI (n : Int)), some (aI y), some (aI (fwB (mTn y 0 = true))), none] dX4_firstMove_34 rfl (by decide) ?_
        refine w_iconst dX4_firstMove_35 ?_
        refine w_istore [some (aR 6 0), some (aI (n : Int)), some (aI y), some (aI (fwB (mTn y 0 = true))), some (aI 0)] dX4_firstMove_36 rfl (by decide) ?_
        have lp38 : ∀ f : Nat, f ≤ (h 5 0 3).toNat → ∀ (y38  : Int) (hh38 : fwH), y38 = (f : Int) → (∃ O : Nat → Int, hh38 = (fwUc (fwUc (fwUc (fwUc h 6 0 (fwFu (fwFu (fwFu (h 6 0) 2 (mWil h 0)) 3 (2 * (n : Int))) 4 y)) 19 0 A1) 20 0 B1) 24 0 O) ∧ memo (fwUc (fwUc (fwUc (fwUc h 6 0 (fwFu (fwFu (fwFu (h 6 0) 2 (mWil h 0)) 3 (2 * (n : Int))) 4 y)) 19 0 A1) 20 0 B1) 24 0 (fun _ => 0)) O) → (mFst (mMovB h n y) f = f) → fwWP mX4_firstMove (d + 30) 38 [some (aR 6 0), some (aI (n : Int)), some (aI y), some (aI (fwB (mTn y 0 = true))), some (aI y38)] [] hh38 Q := by
          refine fw_up (fun f hc38 ih38 => ?_)
          intro y38  hh38 ey38 eh38 iv38_0
          subst ey38
          obtain ⟨O_38, eh38, hp38⟩ := eh38
          subst eh38
          show fwWP mX4_firstMove (d + 30) 38 [some (aR 6 0), some (aI (n : Int)), some (aI y), some (aI (fwB (mTn y 0 = true))), some (aI (f : Int))] [] (fwUc (fwUc (fwUc (fwUc h 6 0 (fwFu (fwFu (fwFu (h 6 0) 2 (mWil h 0)) 3 (2 * (n : Int))) 4 y)) 19 0 A1) 20 0 B1) 24 0 O_38) Q
          refine w_iload dX4_firstMove_38 rfl ?_
          refine w_aload_n dX4_firstMove_40 rfl ?_
          refine w_getr 3 0 dX4_firstMove_41 fl_X4_15 rfl (by decide) ?_
          refine w_getr 5 0 dX4_firstMove_44 fl_X4_19 rfl (by decide) ?_
          refine w_getiE (v := h 5 0 3) dX4_firstMove_47 fl_X4_39 rfl (by decide) (by first | rfl | simp [fwUp, fwUc]) ?_
          refine w_icmp_ge 76 dX4_firstMove_50 (by decide) (by omega) (by omega) (fun c50 => ?_) (fun c50 => ?_)
          · have ec38 : (h 5 0 3).toNat = f := by omega
            subst ec38
            refine w_iconst dX4_firstMove_76 ?_
            exact w_iretE dX4_firstMove_77 rfl (by rw [mMov, if_neg (by omega), if_pos iv38_0]) (k.2 _ _ _)
          · have hL : plH (fwUc (fwUc (fwUc (fwUc h 6 0 (fwFu (fwFu (fwFu (h 6 0) 2 (mWil h 0)) 3 (2 * (n : Int))) 4 y)) 19 0 A1) 20 0 B1) 24 0 O_38) := ⟨hP, hlw, (show 0 ≤ 2 * (n : Int) ∧ 2 * (n : Int) ≤ 8 by omega), hy⟩
            refine w_aload_n dX4_firstMove_53 rfl ?_
            refine w_iload dX4_firstMove_54 rfl ?_
            refine w_iconst dX4_firstMove_56 ?_
            refine w_iconst dX4_firstMove_57 ?_
            refine w_iconst dX4_firstMove_58 ?_
            refine w_iconst dX4_firstMove_59 ?_
            refine w_callV (d := d + 29) (S := []) [aI (f : Int), aI 0, aI 0, aI 0, aI 0] dX4_firstMove_60 ml_X4_64 ok_X4_comesOutBy vi_X4_comesOutBy rfl rfl (by decide) rfl (Nat.le_of_ble_eq_true rfl) ?_
            refine c_byX (d := d + 24) (2 * n - 1) 0 f (f : Int) 0 0 0 0 (by omega) (by decide) (by decide) (by decide) (by decide) (plI_at d (by omega)) hL (by show (2 * (n : Int)).toNat = 2 * n - 1 + 1 + mMv 0; rw [mMv_0]; omega) (Nat.pow_pos (by decide)) hp38 (show (f : Int) < h 5 0 3 by omega) (by unfold mDg; simp) ?_
            intro O2 hO2
            show fwWP mX4_firstMove (d + 30) 63 [some (aR 6 0), some (aI (n : Int)), some (aI y), some (aI (fwB (mTn y 0 = true))), some (aI (f : Int))] [aI (fwB (mPl (mEw h) (h 5 0 3).toNat y (2 * n - 1) (mChild (mTn y 0) 0 f) = true))] (fwUc (fwUc (fwUc (fwUc (fwUc h 6 0 (fwFu (fwFu (fwFu (h 6 0) 2 (mWil h 0)) 3 (2 * (n : Int))) 4 y)) 19 0 A1) 20 0 B1) 24 0 O_38) 24 0 O2) Q
            rw [show fwUc (fwUc (fwUc (fwUc (fwUc h 6 0 (fwFu (fwFu (fwFu (h 6 0) 2 (mWil h 0)) 3 (2 * (n : Int))) 4 y)) 19 0 A1) 20 0 B1) 24 0 O_38) 24 0 O2 = (fwUc (fwUc (fwUc (fwUc h 6 0 (fwFu (fwFu (fwFu (h 6 0) 2 (mWil h 0)) 3 (2 * (n : Int))) 4 y)) 19 0 A1) 20 0 B1) 24 0 O2) from by funext a b; simp only [fwUc]; (repeat' split); all_goals first | rfl | (exfalso; omega)]
            have hf1 := fwB_rng (mPl (mEw h) (h 5 0 3).toNat y (2 * n - 1) (mChild (mTn y 0) 0 f) = true)
            have hf2 := fwB_rng (mTn y 0 = true)
            have hvw : fwB (mPl (mEw h) (h 5 0 3).toNat y (2 * n - 1) (mChild (mTn y 0) 0 f) = true) = fwB (mTn y 0 = true) ↔ mPl (mEw h) (h 5 0 3).toNat y (2 * n - 1) (mChild (mTn y 0) 0 f) = mTn y 0 := fwB_iff.trans Bool.eq_iff_iff.symm
            refine w_iload_n dX4_firstMove_63 rfl ?_
            refine w_icmp_ne 70 dX4_firstMove_64 (by decide) (by omega) (by omega) (fun c64 => ?_) (fun c64 => ?_)
            · refine w_iinc [some (aR 6 0), some (aI (n : Int)), some (aI y), some (aI (fwB (mTn y 0 = true))), some (aI ((f : Int) + 1))] dX4_firstMove_70 rfl rfl (by decide) ?_
              refine w_goto 38 dX4_firstMove_73 (by decide) ?_
              refine ih38 (by omega) _ _ ?_ ?_ ?_
              · exact (by omega)
              · exact ⟨_, rfl, hO2⟩
              · exact (mFst_go iv38_0 (decide_eq_true (fun q => c64 (hvw.mpr q))))
            · refine w_iload dX4_firstMove_67 rfl ?_
              have est := mFst_stop iv38_0 (show ¬ mMovB h n y f = true from fun q => (of_decide_eq_true q) (hvw.mp c64)) ((h 5 0 3).toNat - f)
              rw [show f + ((h 5 0 3).toNat - f) = (h 5 0 3).toNat by omega] at est
              exact w_iretE dX4_firstMove_69 rfl (by rw [mMov, if_neg (by omega), if_neg (by omega), est]) (k.2 _ _ _)
        refine lp38 0 (Nat.zero_le _) _ _ ?_ ?_ ?_
        · exact (by omega)
        · exact ⟨_, rfl, memo_0 _⟩
        · exact rfl
      refine w_iload_n dX4_firstMove_25 rfl ?_
      refine w_if_ne 33 dX4_firstMove_26 (by decide) (by omega) (fun c26 => ?_) (fun c26 => ?_)
      · refine w_iconst dX4_firstMove_33 ?_
        exact J34 _ (by first | (rw [fwB_t ((mTn_01 hy).mpr (by omega))]; done) | (rw [fwB_f (fun q => by have := (mTn_01 hy).mp q; omega)]; done))
      · refine w_iconst dX4_firstMove_29 ?_
        refine w_goto 34 dX4_firstMove_30 (by decide) ?_
        exact J34 _ (by first | (rw [fwB_t ((mTn_01 hy).mpr (by omega))]; done) | (rw [fwB_f (fun q => by have := (mTn_01 hy).mp q; omega)]; done))
    · refine w_iconst dX4_firstMove_17 ?_
      have k9 := k.1 (by omega)
      exact w_iretE dX4_firstMove_18 rfl (by rw [mMov, if_pos (by omega)]) k9
end

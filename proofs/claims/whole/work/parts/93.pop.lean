theorem fwUsh_nat {a : Nat} (ha : a < 2 ^ 31) (k : Nat) (hk : k < 32) : fwUsh (a : Int) (k : Int) = ((a / 2 ^ k : Nat) : Int) := by
  unfold fwUsh
  have key : ∀ k : Nat, k < 32 → (((Int32.ofInt (k : Int)).toUInt32 &&& Int32.toUInt32 31).toBitVec % 32).toNat = k := by decide +kernel
  rw [show Int32.ofInt (a : Int) = nI a from rfl, pk_ushrN (by omega) _ k (key k hk), nI_toInt (Nat.lt_of_le_of_lt (Nat.div_le_self _ _) ha)]
theorem and_sp {lo hi m M : Nat} (hl : lo < 256) (hm : m < 256) : (256 * hi + lo) &&& (256 * M + m) = 256 * (hi &&& M) + (lo &&& m) := by
  apply Nat.eq_of_testBit_eq
  intro j
  have h1 := Nat.testBit_two_pow_mul_add hi (show lo < 2 ^ 8 from hl) j
  have h2 := Nat.testBit_two_pow_mul_add M (show m < 2 ^ 8 from hm) j
  have h3 := Nat.testBit_two_pow_mul_add (hi &&& M) (Nat.and_lt_two_pow lo (show m < 2 ^ 8 from hm)) j
  rw [show (2 : Nat) ^ 8 = 256 from rfl] at h1 h2 h3
  rw [Nat.testBit_and, h1, h2, h3]
  split <;> rw [Nat.testBit_and]
theorem sp_85 : ∀ t, t < 2 → ∀ l, l < 128 → (128 * t + l) &&& 85 = l &&& 85 := by decide +kernel
theorem sp_51 : ∀ t, t < 4 → ∀ l, l < 64 → (64 * t + l) &&& 51 = l &&& 51 := by decide +kernel
theorem st_1 {h l M : Nat} (hl : l < 256) : (256 * h + l) - ((256 * h + l) / 2 &&& (256 * M + 85)) = 256 * (h - (h / 2 &&& M)) + (l - (l / 2 &&& 85)) := by
  have e : (256 * h + l) / 2 = 256 * (h / 2) + (128 * (h % 2) + l / 2) := by omega
  rw [e, and_sp (by omega) (by decide), sp_85 (h % 2) (by omega) (l / 2) (by omega)]
  have a1 : h / 2 &&& M ≤ h / 2 := Nat.and_le_left
  have a2 : l / 2 &&& 85 ≤ l / 2 := Nat.and_le_left
  omega
theorem st_2 {h l M : Nat} (hl : l < 256) : ((256 * h + l) &&& (256 * M + 51)) + ((256 * h + l) / 4 &&& (256 * M + 51)) = 256 * ((h &&& M) + (h / 4 &&& M)) + ((l &&& 51) + (l / 4 &&& 51)) := by
  have e : (256 * h + l) / 4 = 256 * (h / 4) + (64 * (h % 4) + l / 4) := by omega
  rw [e, and_sp (by omega) (by decide), and_sp (by omega) (by decide), sp_51 (h % 4) (by omega) (l / 4) (by omega)]
  omega
theorem and_15 (x : Nat) : x &&& 15 = x % 16 := Nat.and_two_pow_sub_one_eq_mod x 4
theorem st_3 {h l M : Nat} (hl : l ≤ 68) (hh : h % 16 ≤ 4) : ((256 * h + l) + (256 * h + l) / 16) &&& (256 * M + 15) = 256 * ((h + h / 16) &&& M) + ((l + l / 16) &&& 15) := by
  have e : (256 * h + l) + (256 * h + l) / 16 = 256 * (h + h / 16) + (16 * (h % 16) + (l + l / 16)) := by omega
  rw [e, and_sp (by omega) (by decide), and_15, and_15]
  omega
def py (b : Nat) : Nat := b - (b / 2 &&& 85)
def pz (y : Nat) : Nat := (y &&& 51) + (y / 4 &&& 51)
def pw (z : Nat) : Nat := (z + z / 16) &&& 15
theorem pq_f : ∀ b, b < 256 → py b < 256 ∧ pz (py b) ≤ 68 ∧ pz (py b) % 16 ≤ 4 ∧ pw (pz (py b)) ≤ 8 := by decide +kernel
theorem pq_c1 : ∀ c, c < 32 → c - (c / 2 &&& 21845) = py c := by decide +kernel
theorem pq_c2 : ∀ c, c < 32 → (py c &&& 13107) + (py c / 4 &&& 13107) = pz (py c) := by decide +kernel
theorem pq_c3 : ∀ c, c < 32 → (pz (py c) + pz (py c) / 16) &&& 3855 = pw (pz (py c)) := by decide +kernel
theorem pop_1 {X Y : Nat} (hX : X < 2 ^ 31) (e : X - (X / 2 &&& 1431655765) = Y) : (X : Int) - fwAnd (fwUsh (X : Int) 1) 1431655765 = (Y : Int) := by
  rw [show (1 : Int) = ((1 : Nat) : Int) from rfl, fwUsh_nat hX 1 (by decide), show (1431655765 : Int) = ((1431655765 : Nat) : Int) from rfl, fwAnd_nat (Nat.lt_of_le_of_lt (Nat.div_le_self _ _) hX) (by decide), ← e]
  have a1 : X / 2 ^ 1 &&& 1431655765 ≤ X / 2 ^ 1 := Nat.and_le_left
  have a2 : X / 2 ^ 1 ≤ X := Nat.div_le_self _ _
  rw [show X / 2 = X / 2 ^ 1 from rfl]
  omega
theorem pop_2 {X Y : Nat} (hX : X < 2 ^ 31) (e : (X &&& 858993459) + (X / 4 &&& 858993459) = Y) : fwAnd (X : Int) 858993459 + fwAnd (fwUsh (X : Int) 2) 858993459 = (Y : Int) := by
  rw [show (2 : Int) = ((2 : Nat) : Int) from rfl, fwUsh_nat hX 2 (by decide), show (858993459 : Int) = ((858993459 : Nat) : Int) from rfl, fwAnd_nat hX (by decide), fwAnd_nat (Nat.lt_of_le_of_lt (Nat.div_le_self _ _) hX) (by decide), ← e]
  rfl
theorem pop_3 {X Y : Nat} (hX : X < 2 ^ 30) (e : (X + X / 16) &&& 252645135 = Y) : fwAnd ((X : Int) + fwUsh (X : Int) 4) 252645135 = (Y : Int) := by
  rw [show (4 : Int) = ((4 : Nat) : Int) from rfl, fwUsh_nat (by omega) 4 (by decide), show (252645135 : Int) = ((252645135 : Nat) : Int) from rfl, show (X : Int) + ((X / 2 ^ 4 : Nat) : Int) = ((X + X / 2 ^ 4 : Nat) : Int) from rfl, fwAnd_nat (by omega) (by decide), ← e]
theorem pop_nat {a b c : Nat} (ha : a < 256) (hb : b < 256) (hc : c < 32) : fwPop ((256 * (256 * c + b) + a : Nat) : Int) = ((pw (pz (py a)) + pw (pz (py b)) + pw (pz (py c)) : Nat) : Int) := by
  obtain ⟨a1, a2, a3, a4⟩ := pq_f a ha
  obtain ⟨b1, b2, b3, b4⟩ := pq_f b hb
  obtain ⟨c1, c2, c3, c4⟩ := pq_f c (by omega)
  have e1 : (256 * (256 * c + b) + a) - ((256 * (256 * c + b) + a) / 2 &&& 1431655765) = 256 * (256 * py c + py b) + py a := by
    have z := st_1 (h := 256 * c + b) (l := a) (M := 5592405) ha
    rw [st_1 (h := c) (l := b) (M := 21845) hb, pq_c1 c hc] at z
    exact z
  have e2 : ((256 * (256 * py c + py b) + py a) &&& 858993459) + ((256 * (256 * py c + py b) + py a) / 4 &&& 858993459) = 256 * (256 * pz (py c) + pz (py b)) + pz (py a) := by
    have z := st_2 (h := 256 * py c + py b) (l := py a) (M := 3355443) a1
    rw [st_2 (h := py c) (l := py b) (M := 13107) b1, pq_c2 c hc] at z
    exact z
  have e3 : ((256 * (256 * pz (py c) + pz (py b)) + pz (py a)) + (256 * (256 * pz (py c) + pz (py b)) + pz (py a)) / 16) &&& 252645135 = 256 * (256 * pw (pz (py c)) + pw (pz (py b))) + pw (pz (py a)) := by
    have z := st_3 (h := 256 * pz (py c) + pz (py b)) (l := pz (py a)) (M := 986895) a2 (by omega)
    rw [st_3 (h := pz (py c)) (l := pz (py b)) (M := 3855) b2 c3, pq_c3 c hc] at z
    exact z
  unfold fwPop
  dsimp only
  rw [pop_1 (by omega) e1, pop_2 (by omega) e2, pop_3 (by omega) e3]
  clear e1 e2 e3
  generalize pw (pz (py a)) = p at *
  generalize pw (pz (py b)) = q at *
  generalize pw (pz (py c)) = r at *
  have d1 : (256 * (256 * r + q) + p) / 2 ^ 8 = 256 * r + q := by omega
  have d2 : (256 * (256 * r + q) + p + (256 * r + q)) / 2 ^ 16 = r := by omega
  rw [show (8 : Int) = ((8 : Nat) : Int) from rfl, show (16 : Int) = ((16 : Nat) : Int) from rfl, fwUsh_nat (by omega) 8 (by decide), d1]
  rw [show ((256 * (256 * r + q) + p : Nat) : Int) + ((256 * r + q : Nat) : Int) = ((256 * (256 * r + q) + p + (256 * r + q) : Nat) : Int) from rfl]
  rw [fwUsh_nat (by omega) 16 (by decide), d2]
  rw [show ((256 * (256 * r + q) + p + (256 * r + q) : Nat) : Int) + ((r : Nat) : Int) = ((256 * (256 * r + q) + p + (256 * r + q) + r : Nat) : Int) from rfl]
  rw [show (63 : Int) = ((63 : Nat) : Int) from rfl, fwAnd_nat (by omega) (by decide), show (63 : Nat) = 2 ^ 6 - 1 from rfl, Nat.and_two_pow_sub_one_eq_mod]
  omega
/-- how many bits of a number are 1, of the first n -/
def cb (x : Nat) : Nat → Nat
  | 0 => 0
  | k + 1 => cb x k + (if x.testBit k = true then 1 else 0)
theorem mBt_cb {x : Nat} (hx : x < 2 ^ 31) : ∀ n : Nat, n ≤ 31 → mBt (x : Int) n = (cb x n : Int) := by
  intro n
  induction n with
  | zero => intro _; rfl
  | succ n ih =>
    intro hn
    rw [mBt, ih (by omega), fwBit_nat hx n (by omega), cb]
    split <;> omega
theorem cb_lo {h l : Nat} (hl : l < 256) : ∀ n : Nat, n ≤ 8 → cb (256 * h + l) n = cb l n := by
  intro n
  induction n with
  | zero => intro _; rfl
  | succ n ih =>
    intro hn
    have z := Nat.testBit_two_pow_mul_add h (show l < 2 ^ 8 from hl) n
    rw [show (2 : Nat) ^ 8 = 256 from rfl, if_pos (by omega)] at z
    rw [cb, cb, ih (by omega), z]
theorem cb_sp {h l : Nat} (hl : l < 256) : ∀ n : Nat, cb (256 * h + l) (8 + n) = cb l 8 + cb h n := by
  intro n
  induction n with
  | zero => exact cb_lo hl 8 (Nat.le_refl _)
  | succ n ih =>
    have z := Nat.testBit_two_pow_mul_add h (show l < 2 ^ 8 from hl) (8 + n)
    rw [show (2 : Nat) ^ 8 = 256 from rfl, if_neg (by omega), Nat.add_sub_cancel_left] at z
    have e1 : cb (256 * h + l) (8 + (n + 1)) = cb (256 * h + l) (8 + n) + (if (256 * h + l).testBit (8 + n) = true then 1 else 0) := rfl
    have e2 : cb h (n + 1) = cb h n + (if h.testBit n = true then 1 else 0) := rfl
    rw [e1, e2, ih, z]
    omega
theorem cb_8 : ∀ b, b < 256 → cb b 8 = pw (pz (py b)) := by decide +kernel
theorem cb_5 : ∀ c, c < 32 → cb c 5 = pw (pz (py c)) := by decide +kernel
theorem mBt_pop21 {x : Int} (hx : 0 ≤ x ∧ x < 2097152) : mBt x 21 = fwPop x := by
  obtain ⟨n, rfl⟩ : ∃ n : Nat, x = (n : Int) := ⟨x.toNat, by omega⟩
  obtain ⟨a, b, c, ha, hb, hc, rfl⟩ : ∃ a b c : Nat, a < 256 ∧ b < 256 ∧ c < 32 ∧ n = 256 * (256 * c + b) + a := ⟨n % 256, n / 256 % 256, n / 65536, by omega, by omega, by omega, by omega⟩
  rw [pop_nat ha hb hc, mBt_cb (by omega) 21 (by decide)]
  have z := cb_sp (h := 256 * c + b) ha (8 + 5)
  rw [cb_sp (h := c) hb 5, cb_8 a ha, cb_8 b hb, cb_5 c hc] at z
  rw [show cb (256 * (256 * c + b) + a) 21 = cb (256 * (256 * c + b) + a) (8 + (8 + 5)) from rfl, z]
  omega
theorem mBits_m {p : Nat → Bool} : ∀ n : Nat, n ≤ 21 → ∃ a : Nat, mBits p n = (a : Int) ∧ a < 2 ^ n ∧ (a = 0 ↔ ∀ k, k < n → ¬ p k = true) := by
  intro n
  induction n with
  | zero => intro _; exact ⟨0, rfl, by decide, fun _ k hk => absurd hk (Nat.not_lt_zero _), fun _ => rfl⟩
  | succ n ih =>
    intro hn
    obtain ⟨a, e, ha, hz⟩ := ih (by omega)
    have h1 : 2 ^ n < 2 ^ (n + 1) := Nat.pow_lt_pow_right (by omega) (by omega)
    have h2 : 2 ^ (n + 1) ≤ 2 ^ 21 := Nat.pow_le_pow_right (by omega) (by omega)
    rw [mBits]
    by_cases c : p n = true
    · rw [if_pos c, e, fwShl1_nat (by omega), fwOr_nat (by omega) (by omega)]
      refine ⟨_, rfl, Nat.or_lt_two_pow (by omega) h1, fun q => ?_, fun q => absurd c (q n (Nat.lt_succ_self _))⟩
      have q1 : 2 ^ n ≤ a ||| 2 ^ n := Nat.right_le_or
      have q2 : 0 < 2 ^ n := Nat.pow_pos (by decide)
      omega
    · rw [if_neg c]
      refine ⟨a, e, by omega, fun q k hk => ?_, fun q => hz.mpr (fun k hk => q k (Nat.lt_succ_of_lt hk))⟩
      rcases Nat.lt_succ_iff_lt_or_eq.mp hk with z | z
      · exact hz.mp q k z
      · rw [z]; exact c
theorem mBits_21 (p : Nat → Bool) : 0 ≤ mBits p 21 ∧ mBits p 21 < 2097152 := by
  obtain ⟨a, e, ha, -⟩ := mBits_m (p := p) 21 (Nat.le_refl _)
  rw [e]
  omega
theorem mBits_ne {p : Nat → Bool} {n : Nat} (hn : n ≤ 21) : mBits p n ≠ 0 ↔ ∃ k, k < n ∧ p k = true := by
  obtain ⟨a, e, ha, hz⟩ := mBits_m (p := p) n hn
  rw [e]
  constructor
  · intro q
    rcases Nat.eq_zero_or_pos a with z | z
    · omega
    · apply Classical.byContradiction
      intro w
      have := hz.mpr (fun k hk c => w ⟨k, hk, c⟩)
      omega
  · intro ⟨k, hk, c⟩ q
    exact hz.mp (by omega) k hk c

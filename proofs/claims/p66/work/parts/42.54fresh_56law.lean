section
/-! the fresh world -/
def kX (n0 : Nat) (tc : Nat → ClassId) : List va_E := [.inr (11, [.ref (n0 + 1), .ref (n0 + 6), .ref (n0 + 15), .ref (n0 + 23), .ref (n0 + 48), .ref (n0 + 49), .ref (n0 + 57), .ref (n0 + 59), .ref (n0 + 61), .ref (n0 + 63), .ref (n0 + 67), .ref (n0 + 68)]), .inr (9, [.ref (n0 + 2), .int 0, .ref (n0 + 3), .ref (n0 + 4), .ref (n0 + 5), .int 0]), .inl (tc 1, 900, .inl (fun _ => 0)), .inl (tc 0, 901, .inl (fun _ => 0)), .inl (tc 0, 901, .inl (fun _ => 0)), .inl (tc 0, 901, .inl (fun _ => 0)), .inr (5, [.ref (n0 + 1), .ref (n0 + 7), .int 0, .int 0, .int 0, .int 0, .int 0, .int (Int32.ofInt (-1))]), .inr (2, [.ref (n0 + 8), .ref (n0 + 10), .ref (n0 + 14), .int 0, .int 0, .int 0, .int 0]), .inr (1, [.ref (n0 + 9), .int 0, .int 0, .int 0, .int 0]), .inl (tc 0, 10, .inl (fun _ => 0)), .inr (3, [.ref (n0 + 11), .ref (n0 + 12), .ref (n0 + 13), .int 0]), .inl (tc 0, 56, .inl (fun _ => 0)), .inl (tc 0, 8, .inl (fun _ => 0)), .inl (tc 0, 8, .inl (fun _ => 0)), .inl (tc 0, 60, .inl (fun _ => 0)), .inr (2, [.ref (n0 + 16), .ref (n0 + 18), .ref (n0 + 22), .int 0, .int 0, .int 0, .int 0]), .inr (1, [.ref (n0 + 17), .int 0, .int 0, .int 0, .int 0]), .inl (tc 0, 10, .inl (fun _ => 0)), .inr (3, [.ref (n0 + 19), .ref (n0 + 20), .ref (n0 + 21), .int 0]), .inl (tc 0, 56, .inl (fun _ => 0)), .inl (tc 0, 8, .inl (fun _ => 0)), .inl (tc 0, 8, .inl (fun _ => 0)), .inl (tc 0, 60, .inl (fun _ => 0)), .inl (tc 4, 3, .inr (.inr (.inr (.inr (va_up (va_up (va_up (fun _ => none) 0 (some (n0 + 24))) 1 (some (n0 + 32))) 2 (some (n0 + 40))))))), .inr (2, [.ref (n0 + 25), .ref (n0 + 27), .ref (n0 + 31), .int 0, .int 0, .int 0, .int 0]), .inr (1, [.ref (n0 + 26), .int 0, .int 0, .int 0, .int 0]), .inl (tc 0, 10, .inl (fun _ => 0)), .inr (3, [.ref (n0 + 28), .ref (n0 + 29), .ref (n0 + 30), .int 0]), .inl (tc 0, 56, .inl (fun _ => 0)), .inl (tc 0, 8, .inl (fun _ => 0)), .inl (tc 0, 8, .inl (fun _ => 0)), .inl (tc 0, 60, .inl (fun _ => 0)), .inr (2, [.ref (n0 + 33), .ref (n0 + 35), .ref (n0 + 39), .int 0, .int 0, .int 0, .int 0]), .inr (1, [.ref (n0 + 34), .int 0, .int 0, .int 0, .int 0]), .inl (tc 0, 10, .inl (fun _ => 0)), .inr (3, [.ref (n0 + 36), .ref (n0 + 37), .ref (n0 + 38), .int 0]), .inl (tc 0, 56, .inl (fun _ => 0)), .inl (tc 0, 8, .inl (fun _ => 0)), .inl (tc 0, 8, .inl (fun _ => 0)), .inl (tc 0, 60, .inl (fun _ => 0)), .inr (2, [.ref (n0 + 41), .ref (n0 + 43), .ref (n0 + 47), .int 0, .int 0, .int 0, .int 0]), .inr (1, [.ref (n0 + 42), .int 0, .int 0, .int 0, .int 0]), .inl (tc 0, 10, .inl (fun _ => 0)), .inr (3, [.ref (n0 + 44), .ref (n0 + 45), .ref (n0 + 46), .int 0]), .inl (tc 0, 56, .inl (fun _ => 0)), .inl (tc 0, 8, .inl (fun _ => 0)), .inl (tc 0, 8, .inl (fun _ => 0)), .inl (tc 0, 60, .inl (fun _ => 0)), .inl (tc 2, 3, .inl (fun _ => 0)), .inr (8, [.ref (n0 + 50), .ref (n0 + 55), .ref (n0 + 56)]), .inl (tc 5, 4, .inr (.inr (.inr (.inr (fun j => if j < 4 then some (n0 + (50 + 1 + j)) else none))))), .inl (tc 3, 60, .inr (.inl (fun _ => 0))), .inl (tc 3, 60, .inr (.inl (fun _ => 0))), .inl (tc 3, 60, .inr (.inl (fun _ => 0))), .inl (tc 3, 60, .inr (.inl (fun _ => 0))), .inl (tc 0, 4, .inl (fun _ => 0)), .inl (tc 0, 4, .inl (upd (upd (upd (upd (fun _ => 0) 0 (Int32.ofInt (-1))) 1 (Int32.ofInt (-1))) 2 (Int32.ofInt (-1))) 3 (Int32.ofInt (-1)))), .inr (1, [.ref (n0 + 58), .int 0, .int 0, .int 0, .int 0]), .inl (tc 0, 10, .inl (fun _ => 0)), .inr (4, [.ref (n0 + 15), .ref (n0 + 60), .int 0, .int 0, .int 0]), .inl (tc 1, 6561, .inl (fun _ => 0)), .inr (10, [.ref (n0 + 15), .ref (n0 + 62), .int 0, .int 0]), .inl (tc 0, 11, .inl (fun _ => 0)), .inr (7, [.ref (n0 + 15), .ref (n0 + 57), .ref (n0 + 64), .ref (n0 + 65), .ref (n0 + 66), .int 0, .int 0]), .inl (tc 0, 80, .inl (fun _ => 0)), .inl (tc 0, 3, .inl (fun _ => 0)), .inl (tc 0, 3, .inl (fun _ => 0)), .inr (0, [.ref (n0 + 15), .ref (n0 + 57)]), .inr (6, [.ref (n0 + 15), .ref (n0 + 49), .ref (n0 + 57), .ref (n0 + 69), .ref (n0 + 70), .ref (n0 + 71), .int 0, .int 0, .int 0]), .inl (tc 0, 21, .inl (fun _ => 0)), .inl (tc 0, 21, .inl (fun _ => 0)), .inl (tc 0, 19, .inl (fun _ => 0))]
def kY (n0 : Nat) (tc : Nat → ClassId) : List va_E := [.inr (12, [.int 0, .ref (n0 + (72 + 1)), .ref (n0 + (72 + 2)), .ref (n0 + (72 + 3)), .ref (n0 + (72 + 4)), .int 0, .ref (n0 + (72 + 5)), .int 0, .int 0, .int 0, .int 0, .int 0, .int 0, .int (Int32.ofInt (-1)), .ref (n0 + (72 + 6)), .ref (n0 + (72 + 7)), .ref (n0 + (72 + 8)), .int 0, .int 0, .ref (n0 + (72 + 9)), .ref (n0 + (72 + 10)), .int 0, .ref (n0 + (72 + 11)), .ref (n0 + (72 + 12)), .ref (n0 + (72 + 13)), .ref (n0 + (72 + 14))]), .inl (tc 0, 135, .inl (fun _ => 0)), .inl (tc 0, 405, .inl (fun _ => 0)), .inl (tc 2, 3, .inl (fun _ => 0)), .inl (tc 1, 900, .inl (fun _ => 0)), .inl (tc 0, 5, .inl (fun _ => 0)), .inl (tc 0, 135, .inl (fun _ => 0)), .inl (tc 0, 10, .inl (fun _ => 0)), .inl (tc 2, 65536, .inl (fun _ => 0)), .inl (tc 0, 3, .inl (fun _ => 0)), .inl (tc 0, 3, .inl (fun _ => 0)), .inl (tc 0, 4, .inl (upd (upd (upd (upd (fun _ => 0) 0 (Int32.ofInt (-1))) 1 (Int32.ofInt (-1))) 2 (Int32.ofInt (-1))) 3 (Int32.ofInt (-1)))), .inl (tc 0, 4, .inl (fun _ => 0)), .inl (tc 3, 240, .inr (.inl (fun _ => 0))), .inl (tc 3, 60, .inr (.inl (fun _ => 0)))]
def h00 : fwH := fun k _ j => if (k = 2 ∧ j = 7) ∨ (k = 12 ∧ j = 13) ∨ ((k = 35 ∨ k = 46) ∧ j < 4) then -1 else 0
section SW
variable {n0 a52 b : Nat} {tc : Nat → ClassId} {a5 : Nat → Nat × Nat}
theorem s_0_0 : (kX n0 tc ++ kY n0 tc)[sOff 0 0]? = some (fwCel (sAd n0 a5 a52 b) tc (h00 0 0) 0 0) := rfl
theorem s_1_0 : (kX n0 tc ++ kY n0 tc)[sOff 1 0]? = some (fwCel (sAd n0 a5 a52 b) tc (h00 1 0) 1 0) := rfl
theorem s_2_0 : (kX n0 tc ++ kY n0 tc)[sOff 2 0]? = some (fwCel (sAd n0 a5 a52 b) tc (h00 2 0) 2 0) := rfl
theorem s_3_0 : (kX n0 tc ++ kY n0 tc)[sOff 3 0]? = some (fwCel (sAd n0 a5 a52 b) tc (h00 3 0) 3 0) := rfl
theorem s_3_1 : (kX n0 tc ++ kY n0 tc)[sOff 3 1]? = some (fwCel (sAd n0 a5 a52 b) tc (h00 3 1) 3 1) := rfl
theorem s_3_2 : (kX n0 tc ++ kY n0 tc)[sOff 3 2]? = some (fwCel (sAd n0 a5 a52 b) tc (h00 3 2) 3 2) := rfl
theorem s_3_3 : (kX n0 tc ++ kY n0 tc)[sOff 3 3]? = some (fwCel (sAd n0 a5 a52 b) tc (h00 3 3) 3 3) := rfl
theorem s_3_4 : (kX n0 tc ++ kY n0 tc)[sOff 3 4]? = some (fwCel (sAd n0 a5 a52 b) tc (h00 3 4) 3 4) := rfl
theorem s_4_0 : (kX n0 tc ++ kY n0 tc)[sOff 4 0]? = some (fwCel (sAd n0 a5 a52 b) tc (h00 4 0) 4 0) := rfl
theorem s_4_1 : (kX n0 tc ++ kY n0 tc)[sOff 4 1]? = some (fwCel (sAd n0 a5 a52 b) tc (h00 4 1) 4 1) := rfl
theorem s_4_2 : (kX n0 tc ++ kY n0 tc)[sOff 4 2]? = some (fwCel (sAd n0 a5 a52 b) tc (h00 4 2) 4 2) := rfl
theorem s_4_3 : (kX n0 tc ++ kY n0 tc)[sOff 4 3]? = some (fwCel (sAd n0 a5 a52 b) tc (h00 4 3) 4 3) := rfl
theorem s_4_4 : (kX n0 tc ++ kY n0 tc)[sOff 4 4]? = some (fwCel (sAd n0 a5 a52 b) tc (h00 4 4) 4 4) := rfl
theorem s_4_5 : (kX n0 tc ++ kY n0 tc)[sOff 4 5]? = some (fwCel (sAd n0 a5 a52 b) tc (h00 4 5) 4 5) := rfl
theorem s_5_0 : (kX n0 tc ++ kY n0 tc)[sOff 5 0]? = some (fwCel (sAd n0 a5 a52 b) tc (h00 5 0) 5 0) := rfl
theorem s_5_1 : (kX n0 tc ++ kY n0 tc)[sOff 5 1]? = some (fwCel (sAd n0 a5 a52 b) tc (h00 5 1) 5 1) := rfl
theorem s_5_2 : (kX n0 tc ++ kY n0 tc)[sOff 5 2]? = some (fwCel (sAd n0 a5 a52 b) tc (h00 5 2) 5 2) := rfl
theorem s_5_3 : (kX n0 tc ++ kY n0 tc)[sOff 5 3]? = some (fwCel (sAd n0 a5 a52 b) tc (h00 5 3) 5 3) := rfl
theorem s_5_4 : (kX n0 tc ++ kY n0 tc)[sOff 5 4]? = some (fwCel (sAd n0 a5 a52 b) tc (h00 5 4) 5 4) := rfl
theorem s_6_0 : (kX n0 tc ++ kY n0 tc)[sOff 6 0]? = some (fwCel (sAd n0 a5 a52 b) tc (h00 6 0) 6 0) := rfl
theorem s_7_0 : (kX n0 tc ++ kY n0 tc)[sOff 7 0]? = some (fwCel (sAd n0 a5 a52 b) tc (h00 7 0) 7 0) := rfl
theorem s_8_0 : (kX n0 tc ++ kY n0 tc)[sOff 8 0]? = some (fwCel (sAd n0 a5 a52 b) tc (h00 8 0) 8 0) := rfl
theorem s_9_0 : (kX n0 tc ++ kY n0 tc)[sOff 9 0]? = some (fwCel (sAd n0 a5 a52 b) tc (h00 9 0) 9 0) := rfl
theorem s_10_0 : (kX n0 tc ++ kY n0 tc)[sOff 10 0]? = some (fwCel (sAd n0 a5 a52 b) tc (h00 10 0) 10 0) := rfl
theorem s_11_0 : (kX n0 tc ++ kY n0 tc)[sOff 11 0]? = some (fwCel (sAd n0 a5 a52 b) tc (h00 11 0) 11 0) := rfl
theorem s_12_0 : (kX n0 tc ++ kY n0 tc)[sOff 12 0]? = some (fwCel (sAd n0 a5 a52 b) tc (h00 12 0) 12 0) := rfl
theorem s_13_0 : (kX n0 tc ++ kY n0 tc)[sOff 13 0]? = some (fwCel (sAd n0 a5 a52 b) tc (h00 13 0) 13 0) := rfl
theorem s_14_0 : (kX n0 tc ++ kY n0 tc)[sOff 14 0]? = some (fwCel (sAd n0 a5 a52 b) tc (h00 14 0) 14 0) := rfl
theorem s_15_0 : (kX n0 tc ++ kY n0 tc)[sOff 15 0]? = some (fwCel (sAd n0 a5 a52 b) tc (h00 15 0) 15 0) := rfl
theorem s_16_0 : (kX n0 tc ++ kY n0 tc)[sOff 16 0]? = some (fwCel (sAd n0 a5 a52 b) tc (h00 16 0) 16 0) := rfl
theorem s_17_0 : (kX n0 tc ++ kY n0 tc)[sOff 17 0]? = some (fwCel (sAd n0 a5 a52 b) tc (h00 17 0) 17 0) := rfl
theorem s_17_1 : (kX n0 tc ++ kY n0 tc)[sOff 17 1]? = some (fwCel (sAd n0 a5 a52 b) tc (h00 17 1) 17 1) := rfl
theorem s_17_2 : (kX n0 tc ++ kY n0 tc)[sOff 17 2]? = some (fwCel (sAd n0 a5 a52 b) tc (h00 17 2) 17 2) := rfl
theorem s_17_3 : (kX n0 tc ++ kY n0 tc)[sOff 17 3]? = some (fwCel (sAd n0 a5 a52 b) tc (h00 17 3) 17 3) := rfl
theorem s_17_4 : (kX n0 tc ++ kY n0 tc)[sOff 17 4]? = some (fwCel (sAd n0 a5 a52 b) tc (h00 17 4) 17 4) := rfl
theorem s_17_5 : (kX n0 tc ++ kY n0 tc)[sOff 17 5]? = some (fwCel (sAd n0 a5 a52 b) tc (h00 17 5) 17 5) := rfl
theorem s_18_0 : (kX n0 tc ++ kY n0 tc)[sOff 18 0]? = some (fwCel (sAd n0 a5 a52 b) tc (h00 18 0) 18 0) := rfl
theorem s_18_1 : (kX n0 tc ++ kY n0 tc)[sOff 18 1]? = some (fwCel (sAd n0 a5 a52 b) tc (h00 18 1) 18 1) := rfl
theorem s_18_2 : (kX n0 tc ++ kY n0 tc)[sOff 18 2]? = some (fwCel (sAd n0 a5 a52 b) tc (h00 18 2) 18 2) := rfl
theorem s_18_3 : (kX n0 tc ++ kY n0 tc)[sOff 18 3]? = some (fwCel (sAd n0 a5 a52 b) tc (h00 18 3) 18 3) := rfl
theorem s_18_4 : (kX n0 tc ++ kY n0 tc)[sOff 18 4]? = some (fwCel (sAd n0 a5 a52 b) tc (h00 18 4) 18 4) := rfl
theorem s_19_0 : (kX n0 tc ++ kY n0 tc)[sOff 19 0]? = some (fwCel (sAd n0 a5 a52 b) tc (h00 19 0) 19 0) := rfl
theorem s_19_1 : (kX n0 tc ++ kY n0 tc)[sOff 19 1]? = some (fwCel (sAd n0 a5 a52 b) tc (h00 19 1) 19 1) := rfl
theorem s_19_2 : (kX n0 tc ++ kY n0 tc)[sOff 19 2]? = some (fwCel (sAd n0 a5 a52 b) tc (h00 19 2) 19 2) := rfl
theorem s_19_3 : (kX n0 tc ++ kY n0 tc)[sOff 19 3]? = some (fwCel (sAd n0 a5 a52 b) tc (h00 19 3) 19 3) := rfl
theorem s_19_4 : (kX n0 tc ++ kY n0 tc)[sOff 19 4]? = some (fwCel (sAd n0 a5 a52 b) tc (h00 19 4) 19 4) := rfl
theorem s_20_0 : (kX n0 tc ++ kY n0 tc)[sOff 20 0]? = some (fwCel (sAd n0 a5 a52 b) tc (h00 20 0) 20 0) := rfl
theorem s_20_1 : (kX n0 tc ++ kY n0 tc)[sOff 20 1]? = some (fwCel (sAd n0 a5 a52 b) tc (h00 20 1) 20 1) := rfl
theorem s_20_2 : (kX n0 tc ++ kY n0 tc)[sOff 20 2]? = some (fwCel (sAd n0 a5 a52 b) tc (h00 20 2) 20 2) := rfl
theorem s_20_3 : (kX n0 tc ++ kY n0 tc)[sOff 20 3]? = some (fwCel (sAd n0 a5 a52 b) tc (h00 20 3) 20 3) := rfl
theorem s_20_4 : (kX n0 tc ++ kY n0 tc)[sOff 20 4]? = some (fwCel (sAd n0 a5 a52 b) tc (h00 20 4) 20 4) := rfl
theorem s_21_0 : (kX n0 tc ++ kY n0 tc)[sOff 21 0]? = some (fwCel (sAd n0 a5 a52 b) tc (h00 21 0) 21 0) := rfl
theorem s_21_1 : (kX n0 tc ++ kY n0 tc)[sOff 21 1]? = some (fwCel (sAd n0 a5 a52 b) tc (h00 21 1) 21 1) := rfl
theorem s_21_2 : (kX n0 tc ++ kY n0 tc)[sOff 21 2]? = some (fwCel (sAd n0 a5 a52 b) tc (h00 21 2) 21 2) := rfl
theorem s_21_3 : (kX n0 tc ++ kY n0 tc)[sOff 21 3]? = some (fwCel (sAd n0 a5 a52 b) tc (h00 21 3) 21 3) := rfl
theorem s_21_4 : (kX n0 tc ++ kY n0 tc)[sOff 21 4]? = some (fwCel (sAd n0 a5 a52 b) tc (h00 21 4) 21 4) := rfl
theorem s_22_0 : (kX n0 tc ++ kY n0 tc)[sOff 22 0]? = some (fwCel (sAd n0 a5 a52 b) tc (h00 22 0) 22 0) := by
  refine congrArg (fun f : Nat → Option Nat => (some (Sum.inl (tc 4, 3, Sum.inr (Sum.inr (Sum.inr (Sum.inr f))))) : Option va_E)) (funext fun j => ?_)
  match j with
  | 0 => rfl
  | 1 => rfl
  | 2 => rfl
  | n + 3 =>
    first | (simp [va_up]; done) | (rw [if_neg (by omega), if_neg (show ¬ n + 3 < 3 by omega)])
theorem s_23_0 : (kX n0 tc ++ kY n0 tc)[sOff 23 0]? = some (fwCel (sAd n0 a5 a52 b) tc (h00 23 0) 23 0) := rfl
theorem s_24_0 : (kX n0 tc ++ kY n0 tc)[sOff 24 0]? = some (fwCel (sAd n0 a5 a52 b) tc (h00 24 0) 24 0) := rfl
theorem s_25_0 : (kX n0 tc ++ kY n0 tc)[sOff 25 0]? = some (fwCel (sAd n0 a5 a52 b) tc (h00 25 0) 25 0) := rfl
theorem s_26_0 : (kX n0 tc ++ kY n0 tc)[sOff 26 0]? = some (fwCel (sAd n0 a5 a52 b) tc (h00 26 0) 26 0) := rfl
theorem s_27_0 : (kX n0 tc ++ kY n0 tc)[sOff 27 0]? = some (fwCel (sAd n0 a5 a52 b) tc (h00 27 0) 27 0) := rfl
theorem s_28_0 : (kX n0 tc ++ kY n0 tc)[sOff 28 0]? = some (fwCel (sAd n0 a5 a52 b) tc (h00 28 0) 28 0) := rfl
theorem s_29_0 : (kX n0 tc ++ kY n0 tc)[sOff 29 0]? = some (fwCel (sAd n0 a5 a52 b) tc (h00 29 0) 29 0) := rfl
theorem s_30_0 : (kX n0 tc ++ kY n0 tc)[sOff 30 0]? = some (fwCel (sAd n0 a5 a52 b) tc (h00 30 0) 30 0) := rfl
theorem s_31_0 : (kX n0 tc ++ kY n0 tc)[sOff 31 0]? = some (fwCel (sAd n0 a5 a52 b) tc (h00 31 0) 31 0) := rfl
theorem s_32_0 : (kX n0 tc ++ kY n0 tc)[sOff 32 0]? = some (fwCel (sAd n0 a5 a52 b) tc (h00 32 0) 32 0) := by
  refine congrArg (fun f : Nat → Option Nat => (some (Sum.inl (tc 5, 4, Sum.inr (Sum.inr (Sum.inr (Sum.inr f))))) : Option va_E)) (funext fun j => ?_)
  match j with
  | 0 => rfl
  | 1 => rfl
  | 2 => rfl
  | 3 => rfl
  | n + 4 =>
    first | (simp [va_up]; done) | (rw [if_neg (by omega), if_neg (show ¬ n + 4 < 4 by omega)])
theorem s_33_0 : (kX n0 tc ++ kY n0 tc)[sOff 33 0]? = some (fwCel (sAd n0 a5 a52 b) tc (h00 33 0) 33 0) := rfl
theorem s_33_1 : (kX n0 tc ++ kY n0 tc)[sOff 33 1]? = some (fwCel (sAd n0 a5 a52 b) tc (h00 33 1) 33 1) := rfl
theorem s_33_2 : (kX n0 tc ++ kY n0 tc)[sOff 33 2]? = some (fwCel (sAd n0 a5 a52 b) tc (h00 33 2) 33 2) := rfl
theorem s_33_3 : (kX n0 tc ++ kY n0 tc)[sOff 33 3]? = some (fwCel (sAd n0 a5 a52 b) tc (h00 33 3) 33 3) := rfl
theorem s_34_0 : (kX n0 tc ++ kY n0 tc)[sOff 34 0]? = some (fwCel (sAd n0 a5 a52 b) tc (h00 34 0) 34 0) := rfl
theorem s_35_0 : (kX n0 tc ++ kY n0 tc)[sOff 35 0]? = some (fwCel (sAd n0 a5 a52 b) tc (h00 35 0) 35 0) := by
  refine congrArg (fun f : Nat → Int32 => (some (Sum.inl (tc 0, 4, Sum.inl f)) : Option va_E)) (funext fun j => ?_)
  match j with
  | 0 => rfl
  | 1 => rfl
  | 2 => rfl
  | 3 => rfl
  | n + 4 =>
    show upd (upd (upd (upd (fun _ => 0) 0 _) 1 _) 2 _) 3 _ (n + 4) = Int32.ofInt (h00 35 0 (n + 4))
    have e1 : h00 35 0 (n + 4) = 0 := by simp [h00]
    rw [e1]
    simp [upd]
    try rfl
theorem s_36_0 : (kX n0 tc ++ kY n0 tc)[sOff 36 0]? = some (fwCel (sAd n0 a5 a52 b) tc (h00 36 0) 36 0) := rfl
theorem s_37_0 : (kX n0 tc ++ kY n0 tc)[sOff 37 0]? = some (fwCel (sAd n0 a5 a52 b) tc (h00 37 0) 37 0) := rfl
theorem s_38_0 : (kX n0 tc ++ kY n0 tc)[sOff 38 0]? = some (fwCel (sAd n0 a5 a52 b) tc (h00 38 0) 38 0) := rfl
theorem s_39_0 : (kX n0 tc ++ kY n0 tc)[sOff 39 0]? = some (fwCel (sAd n0 a5 a52 b) tc (h00 39 0) 39 0) := rfl
theorem s_40_0 : (kX n0 tc ++ kY n0 tc)[sOff 40 0]? = some (fwCel (sAd n0 a5 a52 b) tc (h00 40 0) 40 0) := rfl
theorem s_41_0 : (kX n0 tc ++ kY n0 tc)[sOff 41 0]? = some (fwCel (sAd n0 a5 a52 b) tc (h00 41 0) 41 0) := rfl
theorem s_42_0 : (kX n0 tc ++ kY n0 tc)[sOff 42 0]? = some (fwCel (sAd n0 a5 a52 b) tc (h00 42 0) 42 0) := rfl
theorem s_43_0 : (kX n0 tc ++ kY n0 tc)[sOff 43 0]? = some (fwCel (sAd n0 a5 a52 b) tc (h00 43 0) 43 0) := rfl
theorem s_44_0 : (kX n0 tc ++ kY n0 tc)[sOff 44 0]? = some (fwCel (sAd n0 a5 a52 b) tc (h00 44 0) 44 0) := rfl
theorem s_45_0 : (kX n0 tc ++ kY n0 tc)[sOff 45 0]? = some (fwCel (sAd n0 a5 a52 b) tc (h00 45 0) 45 0) := rfl
theorem s_46_0 : (kX n0 tc ++ kY n0 tc)[sOff 46 0]? = some (fwCel (sAd n0 a5 a52 b) tc (h00 46 0) 46 0) := by
  refine congrArg (fun f : Nat → Int32 => (some (Sum.inl (tc 0, 4, Sum.inl f)) : Option va_E)) (funext fun j => ?_)
  match j with
  | 0 => rfl
  | 1 => rfl
  | 2 => rfl
  | 3 => rfl
  | n + 4 =>
    show upd (upd (upd (upd (fun _ => 0) 0 _) 1 _) 2 _) 3 _ (n + 4) = Int32.ofInt (h00 46 0 (n + 4))
    have e1 : h00 46 0 (n + 4) = 0 := by simp [h00]
    rw [e1]
    simp [upd]
    try rfl
theorem s_47_0 : (kX n0 tc ++ kY n0 tc)[sOff 47 0]? = some (fwCel (sAd n0 a5 a52 b) tc (h00 47 0) 47 0) := rfl
theorem s_48_0 : (kX n0 tc ++ kY n0 tc)[sOff 48 0]? = some (fwCel (sAd n0 a5 a52 b) tc (h00 48 0) 48 0) := rfl
theorem s_49_0 : (kX n0 tc ++ kY n0 tc)[sOff 49 0]? = some (fwCel (sAd n0 a5 a52 b) tc (h00 49 0) 49 0) := rfl
theorem s_pr : fwPr = [(0, 0), (1, 0), (2, 0), (3, 0), (3, 1), (3, 2), (3, 3), (3, 4), (4, 0), (4, 1), (4, 2), (4, 3), (4, 4), (4, 5), (5, 0), (5, 1), (5, 2), (5, 3), (5, 4), (6, 0), (7, 0), (8, 0), (9, 0), (10, 0), (11, 0), (12, 0), (13, 0), (14, 0), (15, 0), (16, 0), (17, 0), (17, 1), (17, 2), (17, 3), (17, 4), (17, 5), (18, 0), (18, 1), (18, 2), (18, 3), (18, 4), (19, 0), (19, 1), (19, 2), (19, 3), (19, 4), (20, 0), (20, 1), (20, 2), (20, 3), (20, 4), (21, 0), (21, 1), (21, 2), (21, 3), (21, 4), (22, 0), (23, 0), (24, 0), (25, 0), (26, 0), (27, 0), (28, 0), (29, 0), (30, 0), (31, 0), (32, 0), (33, 0), (33, 1), (33, 2), (33, 3), (34, 0), (35, 0), (36, 0), (37, 0), (38, 0), (39, 0), (40, 0), (41, 0), (42, 0), (43, 0), (44, 0), (45, 0), (46, 0), (47, 0), (48, 0), (49, 0)] := by decide +kernel
set_option maxRecDepth 100000 in
theorem s_all : ∀ q ∈ fwPr, (kX n0 tc ++ kY n0 tc)[sOff q.1 q.2]? = some (fwCel (sAd n0 a5 a52 b) tc (h00 q.1 q.2) q.1 q.2) := by
  rw [s_pr]
  exact List.forall_mem_cons.mpr ⟨s_0_0, List.forall_mem_cons.mpr ⟨s_1_0, List.forall_mem_cons.mpr ⟨s_2_0, List.forall_mem_cons.mpr ⟨s_3_0, List.forall_mem_cons.mpr ⟨s_3_1, List.forall_mem_cons.mpr ⟨s_3_2, List.forall_mem_cons.mpr ⟨s_3_3, List.forall_mem_cons.mpr ⟨s_3_4, List.forall_mem_cons.mpr ⟨s_4_0, List.forall_mem_cons.mpr ⟨s_4_1, List.forall_mem_cons.mpr ⟨s_4_2, List.forall_mem_cons.mpr ⟨s_4_3, List.forall_mem_cons.mpr ⟨s_4_4, List.forall_mem_cons.mpr ⟨s_4_5, List.forall_mem_cons.mpr ⟨s_5_0, List.forall_mem_cons.mpr ⟨s_5_1, List.forall_mem_cons.mpr ⟨s_5_2, List.forall_mem_cons.mpr ⟨s_5_3, List.forall_mem_cons.mpr ⟨s_5_4, List.forall_mem_cons.mpr ⟨s_6_0, List.forall_mem_cons.mpr ⟨s_7_0, List.forall_mem_cons.mpr ⟨s_8_0, List.forall_mem_cons.mpr ⟨s_9_0, List.forall_mem_cons.mpr ⟨s_10_0, List.forall_mem_cons.mpr ⟨s_11_0, List.forall_mem_cons.mpr ⟨s_12_0, List.forall_mem_cons.mpr ⟨s_13_0, List.forall_mem_cons.mpr ⟨s_14_0, List.forall_mem_cons.mpr ⟨s_15_0, List.forall_mem_cons.mpr ⟨s_16_0, List.forall_mem_cons.mpr ⟨s_17_0, List.forall_mem_cons.mpr ⟨s_17_1, List.forall_mem_cons.mpr ⟨s_17_2, List.forall_mem_cons.mpr ⟨s_17_3, List.forall_mem_cons.mpr ⟨s_17_4, List.forall_mem_cons.mpr ⟨s_17_5, List.forall_mem_cons.mpr ⟨s_18_0, List.forall_mem_cons.mpr ⟨s_18_1, List.forall_mem_cons.mpr ⟨s_18_2, List.forall_mem_cons.mpr ⟨s_18_3, List.forall_mem_cons.mpr ⟨s_18_4, List.forall_mem_cons.mpr ⟨s_19_0, List.forall_mem_cons.mpr ⟨s_19_1, List.forall_mem_cons.mpr ⟨s_19_2, List.forall_mem_cons.mpr ⟨s_19_3, List.forall_mem_cons.mpr ⟨s_19_4, List.forall_mem_cons.mpr ⟨s_20_0, List.forall_mem_cons.mpr ⟨s_20_1, List.forall_mem_cons.mpr ⟨s_20_2, List.forall_mem_cons.mpr ⟨s_20_3, List.forall_mem_cons.mpr ⟨s_20_4, List.forall_mem_cons.mpr ⟨s_21_0, List.forall_mem_cons.mpr ⟨s_21_1, List.forall_mem_cons.mpr ⟨s_21_2, List.forall_mem_cons.mpr ⟨s_21_3, List.forall_mem_cons.mpr ⟨s_21_4, List.forall_mem_cons.mpr ⟨s_22_0, List.forall_mem_cons.mpr ⟨s_23_0, List.forall_mem_cons.mpr ⟨s_24_0, List.forall_mem_cons.mpr ⟨s_25_0, List.forall_mem_cons.mpr ⟨s_26_0, List.forall_mem_cons.mpr ⟨s_27_0, List.forall_mem_cons.mpr ⟨s_28_0, List.forall_mem_cons.mpr ⟨s_29_0, List.forall_mem_cons.mpr ⟨s_30_0, List.forall_mem_cons.mpr ⟨s_31_0, List.forall_mem_cons.mpr ⟨s_32_0, List.forall_mem_cons.mpr ⟨s_33_0, List.forall_mem_cons.mpr ⟨s_33_1, List.forall_mem_cons.mpr ⟨s_33_2, List.forall_mem_cons.mpr ⟨s_33_3, List.forall_mem_cons.mpr ⟨s_34_0, List.forall_mem_cons.mpr ⟨s_35_0, List.forall_mem_cons.mpr ⟨s_36_0, List.forall_mem_cons.mpr ⟨s_37_0, List.forall_mem_cons.mpr ⟨s_38_0, List.forall_mem_cons.mpr ⟨s_39_0, List.forall_mem_cons.mpr ⟨s_40_0, List.forall_mem_cons.mpr ⟨s_41_0, List.forall_mem_cons.mpr ⟨s_42_0, List.forall_mem_cons.mpr ⟨s_43_0, List.forall_mem_cons.mpr ⟨s_44_0, List.forall_mem_cons.mpr ⟨s_45_0, List.forall_mem_cons.mpr ⟨s_46_0, List.forall_mem_cons.mpr ⟨s_47_0, List.forall_mem_cons.mpr ⟨s_48_0, List.forall_mem_cons.mpr ⟨s_49_0, fun _ h => absurd h List.not_mem_nil⟩⟩⟩⟩⟩⟩⟩⟩⟩⟩⟩⟩⟩⟩⟩⟩⟩⟩⟩⟩⟩⟩⟩⟩⟩⟩⟩⟩⟩⟩⟩⟩⟩⟩⟩⟩⟩⟩⟩⟩⟩⟩⟩⟩⟩⟩⟩⟩⟩⟩⟩⟩⟩⟩⟩⟩⟩⟩⟩⟩⟩⟩⟩⟩⟩⟩⟩⟩⟩⟩⟩⟩⟩⟩⟩⟩⟩⟩⟩⟩⟩⟩⟩⟩⟩⟩⟩
theorem s_world {D : va_G} {H : Heap} (hP : va_P D vwCl (kWd n0 (kX n0 tc ++ kY n0 tc)) H) : va_P D vwCl (fwWd (sAd n0 a5 a52 b) tc h00) H := by
  intro idx q hq
  unfold fwWd at hq
  rw [List.getElem?_map] at hq
  cases h1 : fwPr[idx]? with
  | none => rw [h1] at hq; cases hq
  | some a =>
    rw [h1] at hq
    cases hq
    have hm := List.mem_of_getElem? h1
    have := hP _ _ (kWd_at (s_all (n0 := n0) (tc := tc) (a5 := a5) (a52 := a52) (b := b) a hm))
    dsimp only
    rw [sAd_lt (fwNk_lt (fwPr_in a hm))]
    exact this
end SW
end
section
/-! THE CLAIM OUT OF ONE WALK OF THE LAW'S BODY. Your part is whole_start (and what it stands on); all else here is the same for every law, but numbers. -/
def R_law : String := "FootLowerLaw"
def lw_P (b : Addr) (xs : List Int32) (args : Array Value) (s : State) : Prop := args = #[.ref b] ∧ s.IntsAt b xs ∧ xs.length ≤ 3072 ∧ (Jvm.Cond.and given_1 narrow_1).before args s = true
def lw_Q (_ : Array Value) (s : State) (o : Outcome) (t : State) : Prop := o = .returned (some (.int 1)) ∧ Framed s o t [] 600000 7302250
def lw_Z (below : List Frame) (a : Array Value) (s : State) : State → Prop := fun t => ∃ o, t.status = .running ∧ Ended t below o ∧ lw_Q a s o t
/-- the law's own end, with 1 on the stack, nothing written that was there before, its room as the claim has it -/
theorem lw_ret {p : Program} {l : Launch} {e : Env} {s : State} {m : MethodId} {below : List Frame} {meth : Method} {c : Code} {b : Nat} (hx : p.tables.exec = Jvm.exec) (hb : c.code = code) (hr : meth.sig.returnType = ret) (hlocks : meth.locks = false) {pc : Nat} {H : Heap} {ls : Array Slot} (hdg : decode code pc = .ok (.ireturn, 1)) : W p l e room_1 s m #[Value.ref b] below meth c H [] 600000 7302250 (lw_Z below #[Value.ref b] s) (F0 m pc ls [.int 1]) := by
  intro T hT X
  obtain ⟨fs, hret, hrun, hended, hW, hframe⟩ := X.leave (v := some (.int 1)) (hlocks := hlocks) (fun h => by rw [hr] at h; cases h)
  have hmeth' : T.vm.method? m = some meth := X.method'
  refine ⟨T.setFrames fs, ?_, .returned (some (.int 1)), hrun, hended, rfl, ⟨_, rfl⟩, hW, hframe⟩
  jvm_step X.here [X.here.top, hx, hb, hdg, hmeth', hr, ret, narrow_b1]
  (try refine ⟨rfl, ?_⟩); (try refine ⟨rfl, ?_⟩)
  first | (intro acts; rw [hret _ acts rfl rfl rfl]) | rw [hret _ _ rfl rfl rfl]
  exact Steps.refl _
/-- what holds at the law's entry: the machine, the code, the tables' words (any of lw_tbl by 'hts w (by decide +kernel)'), the script of L ints xs at the cell b, what the Statement gives of the start (any of its parts by flat_of_before) -/
def lw_At (p : Program) (s : State) (m : MethodId) (meth : Method) (c : Code) (b L : Nat) (xs : Nat → Int32) : Prop :=
  p.tables.exec = Jvm.exec ∧ c.code = code ∧ meth.sig.returnType = ret ∧ c.maxLocals = 4 ∧ s.vm.findClass R_law = some m.cls ∧ (∀ w ∈ lw_tbl, w.before #[Value.ref b] s = true) ∧ va_X b L xs s s.heap ∧ b < s.heap.size ∧ meth.locks = false ∧ (Jvm.Cond.and given_1 narrow_1).before #[Value.ref b] s = true

/-! the law's own rows -/
abbrev mL : fwM := (yL_law, cL_law, 4, ret)
def lCx (p : Program) (s : State) (m : MethodId) (meth : Method) (c : Code) (ad : Nat → Nat → Nat) (D : va_G) (tc : Nat → ClassId) (b n : Nat) (xs : Nat → Int32) : Prop :=
  fwCx p s m #[Value.ref b] meth c mL ad D tc ∧ va_X b n xs s s.heap ∧ b < s.heap.size ∧ ad 53 0 = b ∧ ∀ q, fwA ad q → s.heap.size ≤ q
/-- from here the law ends, and answers 1 -/
def lWP (n : Nat) (xs : Nat → Int32) (pc : Nat) (L : List (Option fwV)) (S : List fwV) (h : fwH) : Prop :=
  ∀ (l : Launch) (p : Program) (e : Env) (s : State) (m : MethodId) (below : List Frame) (meth : Method) (c : Code) (ad : Nat → Nat → Nat) (D : va_G) (tc : Nat → ClassId) (H : Heap) (locs : List Loc) (ls : Array Slot) (b : Nat),
    lCx p s m meth c ad D tc b n xs → fwRl s H locs ls mL ad D tc h L →
    W p l e room_1 s m #[Value.ref b] below meth c H locs 600000 7302250 (lw_Z below #[Value.ref b] s) (F0 m pc ls (S.map (fwMv ad)))
/-- a number of the script -/
def sv (xs : Nat → Int32) (j : Nat) : Int := (xs j).toInt
theorem sv_rng (xs : Nat → Int32) (j : Nat) : -2147483648 ≤ sv xs j ∧ sv xs j < 2147483648 := ⟨Int32.le_toInt _, Int32.toInt_lt _⟩
section LR
variable {n : Nat} {xs : Nat → Int32} {pc : Nat} {L : List (Option fwV)} {S : List fwV} {h : fwH}
theorem l_iconst {z : Int} (hd : decode cL_law pc = .ok (.iconst z, 1)) (k : lWP n xs (pc + 1) L (aI z :: S) h) : lWP n xs pc L S h := by
  intro l p e s m below meth c ad D tc H locs ls b C X
  exact lv_iconst C.1.1 C.1.2.1 hd rfl (k l p e s m below meth c ad D tc H locs ls b C X)
theorem l_bipush {z : Int} (hd : decode cL_law pc = .ok (.bipush z, 2)) (hn : (Int8.ofInt z).toInt32 = Int32.ofInt z) (k : lWP n xs (pc + 2) L (aI z :: S) h) : lWP n xs pc L S h := by
  intro l p e s m below meth c ad D tc H locs ls b C X
  exact lv_bipush C.1.1 C.1.2.1 hd hn (k l p e s m below meth c ad D tc H locs ls b C X)
theorem l_ldc2 {i : Nat} {z : Int} (hd : decode cL_law pc = .ok (.ldc2_w i, 3)) (hc : Cond.constantLong RL i (Int64.ofInt z) ∈ fwTb) (k : lWP n xs (pc + 3) L (aJ z :: S) h) : lWP n xs pc L S h := by
  intro l p e s m below meth c ad D tc H locs ls b C X
  exact lv_ldc2 C.1.1 C.1.2.1 C.1.2.2.2.1 (C.1.2.2.2.2.1 _ hc) hd (k l p e s m below meth c ad D tc H locs ls b C X)
theorem l_iload {i : Fin 4} {x : Int} (hd : decode cL_law pc = .ok (.iload_n i, 1)) (hl : L[(i : Nat)]? = some (some (aI x))) (k : lWP n xs (pc + 1) L (aI x :: S) h) : lWP n xs pc L S h := by
  intro l p e s m below meth c ad D tc H locs ls b C X
  exact lv_iload_n C.1.1 C.1.2.1 hd rfl (X.2.2.2.2 i _ hl) (k l p e s m below meth c ad D tc H locs ls b C X)
theorem l_aload {i : Fin 4} {kd nr : Nat} (hd : decode cL_law pc = .ok (.aload_n i, 1)) (hl : L[(i : Nat)]? = some (some (aR kd nr))) (k : lWP n xs (pc + 1) L (aR kd nr :: S) h) : lWP n xs pc L S h := by
  intro l p e s m below meth c ad D tc H locs ls b C X
  exact lv_aload_n C.1.1 C.1.2.1 hd rfl (X.2.2.2.2 i _ hl) (k l p e s m below meth c ad D tc H locs ls b C X)
theorem l_iadd {x y : Int} (hd : decode cL_law pc = .ok (.iadd, 1)) (k : lWP n xs (pc + 1) L (aI (x + y) :: S) h) : lWP n xs pc L (aI y :: aI x :: S) h := by
  intro l p e s m below meth c ad D tc H locs ls b C X
  refine lv_iadd C.1.1 C.1.2.1 hd ?_
  rw [fwI_add]
  exact k l p e s m below meth c ad D tc H locs ls b C X
theorem l_isub {x y : Int} (hd : decode cL_law pc = .ok (.isub, 1)) (k : lWP n xs (pc + 1) L (aI (x - y) :: S) h) : lWP n xs pc L (aI y :: aI x :: S) h := by
  intro l p e s m below meth c ad D tc H locs ls b C X
  refine lv_isub C.1.1 C.1.2.1 hd ?_
  rw [fwI_sub]
  exact k l p e s m below meth c ad D tc H locs ls b C X
theorem l_iand {x y : Int} (hd : decode cL_law pc = .ok (.iand, 1)) (k : lWP n xs (pc + 1) L (aI (fwAnd x y) :: S) h) : lWP n xs pc L (aI y :: aI x :: S) h := by
  intro l p e s m below meth c ad D tc H locs ls b C X
  refine lv_iand C.1.1 C.1.2.1 hd ?_
  have := k l p e s m below meth c ad D tc H locs ls b C X
  simp only [List.map_cons, fwMv, fwAnd, Int32.ofInt_toInt] at this
  exact this
theorem l_land {x y : Int} (hd : decode cL_law pc = .ok (.land, 1)) (k : lWP n xs (pc + 1) L (aJ (fwLand x y) :: S) h) : lWP n xs pc L (aJ y :: aJ x :: S) h := by
  intro l p e s m below meth c ad D tc H locs ls b C X
  refine lv_land C.1.1 C.1.2.1 hd ?_
  have := k l p e s m below meth c ad D tc H locs ls b C X
  simp only [List.map_cons, fwMv, fwLand, Int64.ofInt_toInt] at this
  exact this
theorem l_lor {x y : Int} (hd : decode cL_law pc = .ok (.lor, 1)) (k : lWP n xs (pc + 1) L (aJ (fwLor x y) :: S) h) : lWP n xs pc L (aJ y :: aJ x :: S) h := by
  intro l p e s m below meth c ad D tc H locs ls b C X
  refine lv_lor C.1.1 C.1.2.1 hd ?_
  have := k l p e s m below meth c ad D tc H locs ls b C X
  simp only [List.map_cons, fwMv, fwLor, Int64.ofInt_toInt] at this
  exact this
theorem l_lshl {x y : Int} (hd : decode cL_law pc = .ok (.lshl, 1)) (k : lWP n xs (pc + 1) L (aJ (fwLshl x y) :: S) h) : lWP n xs pc L (aI y :: aJ x :: S) h := by
  intro l p e s m below meth c ad D tc H locs ls b C X
  refine lv_lshl C.1.1 C.1.2.1 hd rfl ?_
  have := k l p e s m below meth c ad D tc H locs ls b C X
  simp only [List.map_cons, fwMv, fwLshl, Int64.ofInt_toInt] at this
  exact this
theorem l_i2l {x : Int} (hd : decode cL_law pc = .ok (.i2l, 1)) (hx : -2147483648 ≤ x ∧ x < 2147483648) (k : lWP n xs (pc + 1) L (aJ x :: S) h) : lWP n xs pc L (aI x :: S) h := by
  intro l p e s m below meth c ad D tc H locs ls b C X
  exact lv_i2l C.1.1 C.1.2.1 hd (v := Int64.ofInt x) (by apply Int64.toInt_inj.mp; rw [Int32.toInt_toInt64, fwI_rt hx, fwL_rt ⟨by omega, by omega⟩]) (k l p e s m below meth c ad D tc H locs ls b C X)
theorem l_pop {v : fwV} (hd : decode cL_law pc = .ok (.pop, 1)) (hv : fwIsJ (some v) = false) (k : lWP n xs (pc + 1) L S h) : lWP n xs pc L (v :: S) h := by
  intro l p e s m below meth c ad D tc H locs ls b C X
  exact lv_pop C.1.1 C.1.2.1 hd (by have := fwMv_cat ad v; rw [hv] at this; rcases lv_cat (fwMv ad v) with q | q <;> simp_all) (k l p e s m below meth c ad D tc H locs ls b C X)
theorem l_goto {off : Int} (tgt : Nat) (hd : decode cL_law pc = .ok (.goto off, 3)) (ht : (pc : Int) + off = (tgt : Int)) (k : lWP n xs tgt L S h) : lWP n xs pc L S h := by
  intro l p e s m below meth c ad D tc H locs ls b C X
  exact lv_goto C.1.1 C.1.2.1 hd ht (k l p e s m below meth c ad D tc H locs ls b C X)
theorem l_gt {x y off : Int} (tgt : Nat) (hd : decode cL_law pc = .ok (.if_icmp .gt off, 3)) (ht : (pc : Int) + off = (tgt : Int)) (hx : -2147483648 ≤ x ∧ x < 2147483648) (hy : -2147483648 ≤ y ∧ y < 2147483648) (kt : y < x → lWP n xs tgt L S h) (kf : x ≤ y → lWP n xs (pc + 3) L S h) : lWP n xs pc L (aI y :: aI x :: S) h := by
  intro l p e s m below meth c ad D tc H locs ls b C X
  exact lv_icmp_gt C.1.1 C.1.2.1 hd ht (fun q => kt (by rw [fwI_lt hy hx] at q; exact q) l p e s m below meth c ad D tc H locs ls b C X) (fun q => kf (by rw [fwI_lt hy hx] at q; omega) l p e s m below meth c ad D tc H locs ls b C X)
/-- both answers alike -/
theorem l_eqs {x y off : Int} (tgt : Nat) (hd : decode cL_law pc = .ok (.if_icmp .eq off, 3)) (ht : (pc : Int) + off = (tgt : Int)) (hxy : x = y) (kt : lWP n xs tgt L S h) : lWP n xs pc L (aI y :: aI x :: S) h := by
  intro l p e s m below meth c ad D tc H locs ls b C X
  subst hxy
  exact lv_icmp_eq C.1.1 C.1.2.1 hd ht (fun q => kt l p e s m below meth c ad D tc H locs ls b C X) (fun q => absurd rfl q)
theorem l_iinc {i : Nat} {z x : Int} (L' : List (Option fwV)) (hd : decode cL_law pc = .ok (.iinc i z, 3)) (hl : L[i]? = some (some (aI x))) (hL : fwSt1 L i (aI (x + z)) = L') (hn : i < 4) (k : lWP n xs (pc + 3) L' S h) : lWP n xs pc L S h := by
  intro l p e s m below meth c ad D tc H locs ls b C X
  obtain ⟨q, hq⟩ := List.getElem?_of_mem (fwLvL_mem (ad := ad) hl)
  refine lv_iinc C.1.1 C.1.2.1 hd (fwLvL_has X.2.2) (k := q) hq (fwI_add x z) hn rfl (fun ls' h' => ?_)
  exact k l p e s m below meth c ad D tc H locs ls' b C ⟨X.1, X.2.1, hL ▸ fw_st1 h'⟩
theorem l_tabIn {x dflt lo hi off : Int} {offs : Array Int} {len : Nat} (tgt : Nat) (hd : decode cL_law pc = .ok (.tableswitch dflt lo hi offs, len)) (hx : -2147483648 ≤ x ∧ x < 2147483648) (h1 : lo ≤ x) (h2 : x ≤ hi) (ho : offs[(x - lo).toNat]? = some off) (ht : (pc : Int) + off = (tgt : Int)) (k : lWP n xs tgt L S h) : lWP n xs pc L (aI x :: S) h := by
  intro l p e s m below meth c ad D tc H locs ls b C X
  exact lv_tableIn C.1.1 C.1.2.1 hd (by rw [fwI_rt hx]; omega) (by rw [fwI_rt hx]; omega) (by rw [fwI_rt hx]; exact ho) ht (k l p e s m below meth c ad D tc H locs ls b C X)
theorem l_tabOut {x dflt lo hi : Int} {offs : Array Int} {len : Nat} (tgt : Nat) (hd : decode cL_law pc = .ok (.tableswitch dflt lo hi offs, len)) (hx : -2147483648 ≤ x ∧ x < 2147483648) (h1 : x < lo ∨ hi < x) (ht : (pc : Int) + dflt = (tgt : Int)) (k : lWP n xs tgt L S h) : lWP n xs pc L (aI x :: S) h := by
  intro l p e s m below meth c ad D tc H locs ls b C X
  exact lv_tableOut C.1.1 C.1.2.1 hd (by rw [fwI_rt hx]; exact h1) ht (k l p e s m below meth c ad D tc H locs ls b C X)
/-- a number of the script -/
theorem l_sld {x : Int} (j : Nat) (hd : decode cL_law pc = .ok (.iaload, 1)) (hx : x = (j : Int)) (hj : j < n) (hn : n ≤ 100000) (k : lWP n xs (pc + 1) L (aI (sv xs j) :: S) h) : lWP n xs pc L (aI x :: aR 53 0 :: S) h := by
  intro l p e s m below meth c ad D tc H locs ls b C X
  obtain ⟨hC, hX, hbl, had, hA⟩ := id C
  subst hx
  have hst : (aI (j : Int) :: aR 53 0 :: S).map (fwMv ad) = .int (Int32.ofInt (j : Int)) :: .ref b :: S.map (fwMv ad) := by
    show Value.int _ :: Value.ref (ad 53 0) :: _ = _
    rw [had]
  rw [hst]
  refine va_sld hC.1 hC.2.1 hX hbl (fun q => absurd (hA _ q) (Nat.not_le.mpr hbl)) X.2.1 (fwI_in (by omega) (by omega) (by omega) : vp_in (Int32.ofInt (j : Int)) n) hd ?_
  have := k l p e s m below meth c ad D tc H locs ls b C X
  rw [fwI_cl (by omega) (by omega), Int.toNat_natCast]
  have e9 : Int32.ofInt (sv xs j) = xs j := Int32.ofInt_toInt _
  simp only [List.map_cons, fwMv, e9] at this
  exact this
theorem l_slen (hd : decode cL_law pc = .ok (.arraylength, 1)) (hn : n ≤ 100000) (k : lWP n xs (pc + 1) L (aI (n : Int) :: S) h) : lWP n xs pc L (aR 53 0 :: S) h := by
  intro l p e s m below meth c ad D tc H locs ls b C X
  obtain ⟨hC, hX, hbl, had, hA⟩ := id C
  have hst : (aR 53 0 :: S).map (fwMv ad) = .ref b :: S.map (fwMv ad) := by
    show Value.ref (ad 53 0) :: _ = _
    rw [had]
  rw [hst]
  refine va_slen hC.1 hC.2.1 hX hbl (fun q => absurd (hA _ q) (Nat.not_le.mpr hbl)) X.2.1 hd ?_
  have e9 : Int32.ofNat n = Int32.ofInt (n : Int) := by
    apply Int32.toInt_inj.mp
    rw [fwI_rt ⟨by omega, by omega⟩]
    exact nI_toInt (by omega)
  rw [e9]
  exact k l p e s m below meth c ad D tc H locs ls b C X
theorem l_ret (hd : decode cL_law pc = .ok (.ireturn, 1)) : lWP n xs pc L [aI 1] h := by
  intro l p e s m below meth c ad D tc H locs ls b C X
  obtain ⟨hC, hX, hbl, had, hA⟩ := id C
  refine va_forget (fun q hq => hA _ (X.2.1.2.2 q hq)) ?_
  exact lw_ret hC.1 hC.2.1 hC.2.2.2.2.2.1 hC.2.2.2.2.2.2.1 hd
end LR
section LC
variable {p : Program} {l : Launch} {e : Env} {R : Room} {s : State} {m : MethodId} {args : Array Value} {below : List Frame} {meth : Method} {c : Code} {H : Heap} {locs : List Loc} {Qf : State → Prop} {cells slots : Nat}
variable {pc : Nat} {ls : Array Slot} {rest st0 : List Value} {a : Array Value} {ad : Nat → Nat → Nat} {D : va_G} {tc : Nat → ClassId} {Q' : Option fwV → fwH → Prop}
theorem l_run (hr : va_Run p l e R s m args below meth c H locs cells slots 0 0 (F0 m pc ls st0) rest (fwQ ad D tc Q' a) (fwA ad)) (hS : va_S (fwA ad) s.heap H locs)
    (kk : ∀ (r : Option fwV) (h' : fwH) (H1 : Heap) (locs1 : List Loc), Q' r h' → va_P D vwCl (fwWd ad tc h') H1 → va_S (fwA ad) s.heap H1 locs1 → W p l e R s m args below meth c H1 locs1 cells slots Qf (F0 m (pc + 3) ls ((r.map (fwMv ad)).toList ++ rest))) : W p l e R s m args below meth c H locs cells slots Qf (F0 m pc ls st0) := by
  intro T hT X
  obtain ⟨v, st₀, t, T', L, h0, X', hL, e1, e2, ⟨⟨r, h', hv, hq, hp⟩, hz, hk⟩, st⟩ := hr T hT X
  cases hv
  rw [h0] at hz hk
  obtain ⟨t2, a1, b1⟩ := kk r h' T'.heap (locs ++ L) hq (by rw [e1]; exact hp)
    ⟨Nat.le_trans hS.1 (by rw [e1]; exact hz), fun q h1 h2 => by rw [e1, hk q (Nat.lt_of_lt_of_le h1 hS.1) h2]; exact hS.2.1 q h1 h2, fun q hq => by
      rcases List.mem_append.mp hq with h | h
      · exact hS.2.2 q h
      · exact hL q h⟩ T' rfl X'
  exact ⟨t2, st t2 a1, b1⟩
end LC
theorem l_callV {n : Nat} {xs : Nat → Int32} {pc : Nat} {L : List (Option fwV)} {S : List fwV} {h : fwH} {M' : fwM} {idx k i n9 ci d : Nat} (as : List fwV) (hd : decode cL_law pc = .ok (.invokevirtual idx, 3)) (hl : Cond.methodLink RL idx M'.1 ∈ fwTb) (hm : fwMok M' n9) (hv : fwMvi M') (ho : fwOk k = some ci) (hcn : (vwCl[ci]?).map (fun q => q.1) = some M'.1.cls) (hi : i < fwNk k) (hn : as.length = n9) (hS : fwCat S ≤ 8) (hd9 : d ≤ 1000)
    (kk : fwCt M' d (aR k i :: as) h (fun r h' => lWP n xs (pc + 3) L (r.toList ++ S) h')) : lWP n xs pc L (as.reverse ++ aR k i :: S) h := by
  intro l p e s m below meth c ad D tc H locs ls b C X
  obtain ⟨hx, hb, hml, hown, hts, hre, hlocks, hK, hI, hC⟩ := id C.1
  obtain ⟨q0, hq, hw⟩ := fw_get hi
  have he := hw ad tc h
  rw [fwCel_o ho] at he
  obtain ⟨q, hc, hcn2⟩ : ∃ q, vwCl[ci]? = some q ∧ q.1 = M'.1.cls := by
    cases hc : vwCl[ci]? with
    | none => rw [hc] at hcn; cases hcn
    | some q => rw [hc] at hcn; exact ⟨q, rfl, Option.some.inj hcn⟩
  have hrec := va_recv hK X.1 hc he
  rw [hcn2] at hrec
  have hst : (as.reverse ++ aR k i :: S).map (fwMv ad) = (as.map (fwMv ad)).reverse ++ .ref (ad k i) :: S.map (fwMv ad) := by
    rw [List.map_append, List.map_reverse]
    rfl
  have hcb : CallB room_1 s #[Value.ref b] RL idx M'.1 M'.2.1 M'.2.2.1 M'.2.2.2 (fwWs M') (fwRm d) 0 0 n9 := by
    obtain ⟨h1, h2, h3, h4⟩ := hm
    refine callB_of (Ts := fwTb) n9 hts (k_good M' h1) rfl rfl rfl (hts _ h2) (hts _ hl) h3 ⟨?_, ?_⟩
    · show d + 1 ≤ 2048
      omega
    · show 8 + (M'.2.2.1 + 11) + 64 * d ≤ 84000
      omega
  have hr := va_runV (l := l) (e := e) (below := below) (meth := meth) (locs := locs) (cells := 600000) (slots := 7302250) (R := room_1) (As := as.map (fwMv ad)) (rest := S.map (fwMv ad)) (g := F0 m pc ls ((as.reverse ++ aR k i :: S).map (fwMv ad))) (index := idx) ⟨hx, hb, hml, hown, hts⟩ (kk l ad D tc) ⟨hcb, hts _ hv.1, hts _ hv.2⟩
    ⟨fwPc_blind, hrec, fun U hU hW => ⟨rfl, by rw [hU]; exact X.1, va_K.moved hW.alike hK, hI, hC.go X.2.1 hU hW⟩⟩ rfl (by rw [List.length_map]; exact hn) X.2.2.1 hst (lv_room (by rw [fwCat_eq]; exact hS)) hd ⟨Nat.le_refl _, Nat.le_refl _⟩
  refine l_run hr X.2.1 (fun r h' H1 locs1 hq9 hP1 hS1 => ?_)
  have := hq9 l p e s m below meth c ad D tc H1 locs1 ls b C ⟨hP1, hS1, X.2.2⟩
  rw [List.map_append] at this
  cases r <;> exact this
abbrev lLs (i : Nat) : List (Option fwV) := [some (aR 53 0), some (aR 0 0), some (aR 12 0), some (aI (i : Int))]
/-- the law's loop, by what holds at its head -/
theorem law_go {n : Nat} {xs : Nat → Int32} (hn : n ≤ 100000) (I : Nat → fwH → Prop) (step : ∀ (i : Nat) (h : fwH), I i h → i + 6 ≤ n → (∀ h', I (i + 6) h' → lWP n xs 1993 (lLs i) [] h') → lWP n xs 27 (lLs i) [] h) : ∀ (k i : Nat) (h : fwH), n < i + 6 * k → i ≤ n + 6 → I i h → lWP n xs 18 (lLs i) [] h := by
  have fin : ∀ (i : Nat) (h : fwH), lWP n xs 1999 (lLs i) [] h := fun i h => l_iconst dL_law_1999 (l_ret dL_law_2000)
  intro k
  induction k with
  | zero =>
    intro i h h1 h2 hI
    refine l_iload dL_law_18 rfl ?_
    refine l_aload dL_law_19 rfl ?_
    refine l_slen dL_law_20 hn ?_
    refine l_bipush dL_law_21 rfl ?_
    refine l_isub dL_law_23 ?_
    refine l_gt 1999 dL_law_24 (by decide) (by omega) (by omega) (fun q => fin i h) (fun q => ?_)
    omega
  | succ k ih =>
    intro i h h1 h2 hI
    refine l_iload dL_law_18 rfl ?_
    refine l_aload dL_law_19 rfl ?_
    refine l_slen dL_law_20 hn ?_
    refine l_bipush dL_law_21 rfl ?_
    refine l_isub dL_law_23 ?_
    refine l_gt 1999 dL_law_24 (by decide) (by omega) (by omega) (fun q => fin i h) (fun q => ?_)
    refine step i h hI (by omega) (fun h' hI' => ?_)
    refine l_iinc [some (aR 53 0), some (aR 0 0), some (aR 12 0), some (aI ((i : Int) + 6))] dL_law_1993 rfl rfl (by decide) ?_
    refine l_goto 18 dL_law_1996 (by decide) ?_
    exact ih (i + 6) h' (by omega) (by omega) hI'
end

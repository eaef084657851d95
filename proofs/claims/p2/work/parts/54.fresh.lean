/-! the fresh world -/
def kX (n0 : Nat) (tc : Nat → ClassId) : List va_E := [.inr (11, [.ref (n0 + 1), .ref (n0 + 6), .ref (n0 + 15), .ref (n0 + 23), .ref (n0 + 48), .ref (n0 + 49), .ref (n0 + 57), .ref (n0 + 59), .ref (n0 + 61), .ref (n0 + 63), .ref (n0 + 67), .ref (n0 + 68)]), .inr (9, [.ref (n0 + 2), .int 0, .ref (n0 + 3), .ref (n0 + 4), .ref (n0 + 5), .int 0]), .inl (tc 1, 900, .inl (fun _ => 0)), .inl (tc 0, 901, .inl (fun _ => 0)), .inl (tc 0, 901, .inl (fun _ => 0)), .inl (tc 0, 901, .inl (fun _ => 0)), .inr (5, [.ref (n0 + 1), .ref (n0 + 7), .int 0, .int 0, .int 0, .int 0, .int 0, .int (Int32.ofInt (-1))]), .inr (2, [.ref (n0 + 8), .ref (n0 + 10), .ref (n0 + 14), .int 0, .int 0, .int 0, .int 0]), .inr (1, [.ref (n0 + 9), .int 0, .int 0, .int 0, .int 0]), .inl (tc 0, 10, .inl (fun _ => 0)), .inr (3, [.ref (n0 + 11), .ref (n0 + 12), .ref (n0 + 13), .int 0]), .inl (tc 0, 56, .inl (fun _ => 0)), .inl (tc 0, 8, .inl (fun _ => 0)), .inl (tc 0, 8, .inl (fun _ => 0)), .inl (tc 0, 60, .inl (fun _ => 0)), .inr (2, [.ref (n0 + 16), .ref (n0 + 18), .ref (n0 + 22), .int 0, .int 0, .int 0, .int 0]), .inr (1, [.ref (n0 + 17), .int 0, .int 0, .int 0, .int 0]), .inl (tc 0, 10, .inl (fun _ => 0)), .inr (3, [.ref (n0 + 19), .ref (n0 + 20), .ref (n0 + 21), .int 0]), .inl (tc 0, 56, .inl (fun _ => 0)), .inl (tc 0, 8, .inl (fun _ => 0)), .inl (tc 0, 8, .inl (fun _ => 0)), .inl (tc 0, 60, .inl (fun _ => 0)), .inl (tc 4, 3, .inr (.inr (.inr (.inr (va_up (va_up (va_up (fun _ => none) 0 (some (n0 + 24))) 1 (some (n0 + 32))) 2 (some (n0 + 40))))))), .inr (2, [.ref (n0 + 25), .ref (n0 + 27), .ref (n0 + 31), .int 0, .int 0, .int 0, .int 0]), .inr (1, [.ref (n0 + 26), .int 0, .int 0, .int 0, .int 0]), .inl (tc 0, 10, .inl (fun _ => 0)), .inr (3, [.ref (n0 + 28), .ref (n0 + 29), .ref (n0 + 30), .int 0]), .inl (tc 0, 56, .inl (fun _ => 0)), .inl (tc 0, 8, .inl (fun _ => 0)), .inl (tc 0, 8, .inl (fun _ => 0)), .inl (tc 0, 60, .inl (fun _ => 0)), .inr (2, [.ref (n0 + 33), .ref (n0 + 35), .ref (n0 + 39), .int 0, .int 0, .int 0, .int 0]), .inr (1, [.ref (n0 + 34), .int 0, .int 0, .int 0, .int 0]), .inl (tc 0, 10, .inl (fun _ => 0)), .inr (3, [.ref (n0 + 36), .ref (n0 + 37), .ref (n0 + 38), .int 0]), .inl (tc 0, 56, .inl (fun _ => 0)), .inl (tc 0, 8, .inl (fun _ => 0)), .inl (tc 0, 8, .inl (fun _ => 0)), .inl (tc 0, 60, .inl (fun _ => 0)), .inr (2, [.ref (n0 + 41), .ref (n0 + 43), .ref (n0 + 47), .int 0, .int 0, .int 0, .int 0]), .inr (1, [.ref (n0 + 42), .int 0, .int 0, .int 0, .int 0]), .inl (tc 0, 10, .inl (fun _ => 0)), .inr (3, [.ref (n0 + 44), .ref (n0 + 45), .ref (n0 + 46), .int 0]), .inl (tc 0, 56, .inl (fun _ => 0)), .inl (tc 0, 8, .inl (fun _ => 0)), .inl (tc 0, 8, .inl (fun _ => 0)), .inl (tc 0, 60, .inl (fun _ => 0)), .inl (tc 2, 3, .inl (fun _ => 0)), .inr (8, [.ref (n0 + 50), .ref (n0 + 55), .ref (n0 + 56)]), .inl (tc 5, 4, .inr (.inr (.inr (.inr (fun j => if j < 4 then some (n0 + (50 + 1 + j)) else none))))), .inl (tc 3, 60, .inr (.inl (fun _ => 0))), .inl (tc 3, 60, .inr (.inl (fun _ => 0))), .inl (tc 3, 60, .inr (.inl (fun _ => 0))), .inl (tc 3, 60, .inr (.inl (fun _ => 0))), .inl (tc 0, 4, .inl (fun _ => 0)), .inl (tc 0, 4, .inl (upd (upd (upd (upd (fun _ => 0) 0 (Int32.ofInt (-1))) 1 (Int32.ofInt (-1))) 2 (Int32.ofInt (-1))) 3 (Int32.ofInt (-1)))), .inr (1, [.ref (n0 + 58), .int 0, .int 0, .int 0, .int 0]), .inl (tc 0, 10, .inl (fun _ => 0)), .inr (4, [.ref (n0 + 15), .ref (n0 + 60), .int 0, .int 0, .int 0]), .inl (tc 1, 6561, .inl (fun _ => 0)), .inr (10, [.ref (n0 + 15), .ref (n0 + 62), .int 0, .int 0]), .inl (tc 0, 11, .inl (fun _ => 0)), .inr (7, [.ref (n0 + 15), .ref (n0 + 57), .ref (n0 + 64), .ref (n0 + 65), .ref (n0 + 66), .int 0, .int 0]), .inl (tc 0, 80, .inl (fun _ => 0)), .inl (tc 0, 3, .inl (fun _ => 0)), .inl (tc 0, 3, .inl (fun _ => 0)), .inr (0, [.ref (n0 + 15), .ref (n0 + 57)]), .inr (6, [.ref (n0 + 15), .ref (n0 + 49), .ref (n0 + 57), .ref (n0 + 69), .ref (n0 + 70), .ref (n0 + 71), .int 0, .int 0, .int 0]), .inl (tc 0, 21, .inl (fun _ => 0)), .inl (tc 0, 21, .inl (fun _ => 0)), .inl (tc 0, 19, .inl (fun _ => 0))]
def kY (n0 : Nat) (tc : Nat → ClassId) : List va_E := [.inr (12, [.int 0, .ref (n0 + (72 + 1)), .ref (n0 + (72 + 2)), .ref (n0 + (72 + 3)), .ref (n0 + (72 + 4)), .int 0, .ref (n0 + (72 + 5)), .int 0, .int 0, .int 0, .int 0, .int 0, .int 0, .int (Int32.ofInt (-1)), .ref (n0 + (72 + 6)), .ref (n0 + (72 + 7)), .ref (n0 + (72 + 8)), .int 0, .int 0, .ref (n0 + (72 + 9)), .ref (n0 + (72 + 10)), .int 0, .ref (n0 + (72 + 11)), .ref (n0 + (72 + 12)), .ref (n0 + (72 + 13)), .ref (n0 + (72 + 14))]), .inl (tc 0, 135, .inl (fun _ => 0)), .inl (tc 0, 405, .inl (fun _ => 0)), .inl (tc 2, 3, .inl (fun _ => 0)), .inl (tc 1, 900, .inl (fun _ => 0)), .inl (tc 0, 5, .inl (fun _ => 0)), .inl (tc 0, 135, .inl (fun _ => 0)), .inl (tc 0, 10, .inl (fun _ => 0)), .inl (tc 2, 65536, .inl (fun _ => 0)), .inl (tc 0, 3, .inl (fun _ => 0)), .inl (tc 0, 3, .inl (fun _ => 0)), .inl (tc 0, 4, .inl (upd (upd (upd (upd (fun _ => 0) 0 (Int32.ofInt (-1))) 1 (Int32.ofInt (-1))) 2 (Int32.ofInt (-1))) 3 (Int32.ofInt (-1)))), .inl (tc 0, 4, .inl (fun _ => 0)), .inl (tc 3, 240, .inr (.inl (fun _ => 0))), .inl (tc 3, 60, .inr (.inl (fun _ => 0)))]
def h00 : fwH := fun k _ j => if (k = 2 ∧ j = 7) ∨ (k = 12 ∧ j = 13) ∨ ((k = 35 ∨ k = 46) ∧ j < 4) then -1 else 0
section SW
variable {n0 a52 b : Nat} {tc : Nat → ClassId} {a5 : Nat → Nat × Nat}
theorem s_0_0 : (kX n0 tc ++ kY n0 tc)[sOff 0 0]? = some (fwCel (sAd n0 a5 a52 b) tc (h00 0 0) 0 0) := rfl
theorem s_1_0 : (kX n0 tc ++ kY n0 tc)[sOff 1 0]? = some (fwCel (sAd n0 a5 a52 b) tc (h00 1 0) 1 0) := rfl
theorem s_2_0 : (kX n0 tc ++ kY n0 tc)[sOff 2 0]? = some (fwCel (sAd n0 a5 a52 b) tc (h00 2 0) 2 0) := rfl
theorem s_3_0 : (kX n0 tc ++ kY n0 tc)[sOff 3 0]? = some (fwCel (sAd n0 a5 a52 b) tc (h00 3 0) 3 0) := rfl
theorem s_3_1 : (kX n0 tc ++ kY n0 tc)[sOff 3 1]? = some (fwCel (sAd n0 a5 a52 b) tc (h00 3 1) 3 1) := rfl
theorem s_3_2 : (kX n0 tc ++ kY n0 tc)[sOff 3 2]? = some (fwCel (sAd n0 a5 a52 b) tc (h00 3 2) 3 2) := rfl
theorem s_3_3 : (kX n0 tc ++ kY n0 tc)[sOff 3 3]? = some (fwCel (sAd n0 a5 a52 b) tc (h00 3 3) 3 3) := rfl
theorem s_3_4 : (kX n0 tc ++ kY n0 tc)[sOff 3 4]? = some (fwCel (sAd n0 a5 a52 b) tc (h00 3 4) 3 4) := rfl
theorem s_4_0 : (kX n0 tc ++ kY n0 tc)[sOff 4 0]? = some (fwCel (sAd n0 a5 a52 b) tc (h00 4 0) 4 0) := rfl
theorem s_4_1 : (kX n0 tc ++ kY n0 tc)[sOff 4 1]? = some (fwCel (sAd n0 a5 a52 b) tc (h00 4 1) 4 1) := rfl
theorem s_4_2 : (kX n0 tc ++ kY n0 tc)[sOff 4 2]? = some (fwCel (sAd n0 a5 a52 b) tc (h00 4 2) 4 2) := rfl
theorem s_4_3 : (kX n0 tc ++ kY n0 tc)[sOff 4 3]? = some (fwCel (sAd n0 a5 a52 b) tc (h00 4 3) 4 3) := rfl
theorem s_4_4 : (kX n0 tc ++ kY n0 tc)[sOff 4 4]? = some (fwCel (sAd n0 a5 a52 b) tc (h00 4 4) 4 4) := rfl
theorem s_4_5 : (kX n0 tc ++ kY n0 tc)[sOff 4 5]? = some (fwCel (sAd n0 a5 a52 b) tc (h00 4 5) 4 5) := rfl
theorem s_5_0 : (kX n0 tc ++ kY n0 tc)[sOff 5 0]? = some (fwCel (sAd n0 a5 a52 b) tc (h00 5 0) 5 0) := rfl
theorem s_5_1 : (kX n0 tc ++ kY n0 tc)[sOff 5 1]? = some (fwCel (sAd n0 a5 a52 b) tc (h00 5 1) 5 1) := rfl
theorem s_5_2 : (kX n0 tc ++ kY n0 tc)[sOff 5 2]? = some (fwCel (sAd n0 a5 a52 b) tc (h00 5 2) 5 2) := rfl
theorem s_5_3 : (kX n0 tc ++ kY n0 tc)[sOff 5 3]? = some (fwCel (sAd n0 a5 a52 b) tc (h00 5 3) 5 3) := rfl
theorem s_5_4 : (kX n0 tc ++ kY n0 tc)[sOff 5 4]? = some (fwCel (sAd n0 a5 a52 b) tc (h00 5 4) 5 4) := rfl
theorem s_6_0 : (kX n0 tc ++ kY n0 tc)[sOff 6 0]? = some (fwCel (sAd n0 a5 a52 b) tc (h00 6 0) 6 0) := rfl
theorem s_7_0 : (kX n0 tc ++ kY n0 tc)[sOff 7 0]? = some (fwCel (sAd n0 a5 a52 b) tc (h00 7 0) 7 0) := rfl
theorem s_8_0 : (kX n0 tc ++ kY n0 tc)[sOff 8 0]? = some (fwCel (sAd n0 a5 a52 b) tc (h00 8 0) 8 0) := rfl
theorem s_9_0 : (kX n0 tc ++ kY n0 tc)[sOff 9 0]? = some (fwCel (sAd n0 a5 a52 b) tc (h00 9 0) 9 0) := rfl
theorem s_10_0 : (kX n0 tc ++ kY n0 tc)[sOff 10 0]? = some (fwCel (sAd n0 a5 a52 b) tc (h00 10 0) 10 0) := rfl
theorem s_11_0 : (kX n0 tc ++ kY n0 tc)[sOff 11 0]? = some (fwCel (sAd n0 a5 a52 b) tc (h00 11 0) 11 0) := rfl
theorem s_12_0 : (kX n0 tc ++ kY n0 tc)[sOff 12 0]? = some (fwCel (sAd n0 a5 a52 b) tc (h00 12 0) 12 0) := rfl
theorem s_13_0 : (kX n0 tc ++ kY n0 tc)[sOff 13 0]? = some (fwCel (sAd n0 a5 a52 b) tc (h00 13 0) 13 0) := rfl
theorem s_14_0 : (kX n0 tc ++ kY n0 tc)[sOff 14 0]? = some (fwCel (sAd n0 a5 a52 b) tc (h00 14 0) 14 0) := rfl
theorem s_15_0 : (kX n0 tc ++ kY n0 tc)[sOff 15 0]? = some (fwCel (sAd n0 a5 a52 b) tc (h00 15 0) 15 0) := rfl
theorem s_16_0 : (kX n0 tc ++ kY n0 tc)[sOff 16 0]? = some (fwCel (sAd n0 a5 a52 b) tc (h00 16 0) 16 0) := rfl
theorem s_17_0 : (kX n0 tc ++ kY n0 tc)[sOff 17 0]? = some (fwCel (sAd n0 a5 a52 b) tc (h00 17 0) 17 0) := rfl
theorem s_17_1 : (kX n0 tc ++ kY n0 tc)[sOff 17 1]? = some (fwCel (sAd n0 a5 a52 b) tc (h00 17 1) 17 1) := rfl
theorem s_17_2 : (kX n0 tc ++ kY n0 tc)[sOff 17 2]? = some (fwCel (sAd n0 a5 a52 b) tc (h00 17 2) 17 2) := rfl
theorem s_17_3 : (kX n0 tc ++ kY n0 tc)[sOff 17 3]? = some (fwCel (sAd n0 a5 a52 b) tc (h00 17 3) 17 3) := rfl
theorem s_17_4 : (kX n0 tc ++ kY n0 tc)[sOff 17 4]? = some (fwCel (sAd n0 a5 a52 b) tc (h00 17 4) 17 4) := rfl
theorem s_17_5 : (kX n0 tc ++ kY n0 tc)[sOff 17 5]? = some (fwCel (sAd n0 a5 a52 b) tc (h00 17 5) 17 5) := rfl
theorem s_18_0 : (kX n0 tc ++ kY n0 tc)[sOff 18 0]? = some (fwCel (sAd n0 a5 a52 b) tc (h00 18 0) 18 0) := rfl
theorem s_18_1 : (kX n0 tc ++ kY n0 tc)[sOff 18 1]? = some (fwCel (sAd n0 a5 a52 b) tc (h00 18 1) 18 1) := rfl
theorem s_18_2 : (kX n0 tc ++ kY n0 tc)[sOff 18 2]? = some (fwCel (sAd n0 a5 a52 b) tc (h00 18 2) 18 2) := rfl
theorem s_18_3 : (kX n0 tc ++ kY n0 tc)[sOff 18 3]? = some (fwCel (sAd n0 a5 a52 b) tc (h00 18 3) 18 3) := rfl
theorem s_18_4 : (kX n0 tc ++ kY n0 tc)[sOff 18 4]? = some (fwCel (sAd n0 a5 a52 b) tc (h00 18 4) 18 4) := rfl
theorem s_19_0 : (kX n0 tc ++ kY n0 tc)[sOff 19 0]? = some (fwCel (sAd n0 a5 a52 b) tc (h00 19 0) 19 0) := rfl
theorem s_19_1 : (kX n0 tc ++ kY n0 tc)[sOff 19 1]? = some (fwCel (sAd n0 a5 a52 b) tc (h00 19 1) 19 1) := rfl
theorem s_19_2 : (kX n0 tc ++ kY n0 tc)[sOff 19 2]? = some (fwCel (sAd n0 a5 a52 b) tc (h00 19 2) 19 2) := rfl
theorem s_19_3 : (kX n0 tc ++ kY n0 tc)[sOff 19 3]? = some (fwCel (sAd n0 a5 a52 b) tc (h00 19 3) 19 3) := rfl
theorem s_19_4 : (kX n0 tc ++ kY n0 tc)[sOff 19 4]? = some (fwCel (sAd n0 a5 a52 b) tc (h00 19 4) 19 4) := rfl
theorem s_20_0 : (kX n0 tc ++ kY n0 tc)[sOff 20 0]? = some (fwCel (sAd n0 a5 a52 b) tc (h00 20 0) 20 0) := rfl
theorem s_20_1 : (kX n0 tc ++ kY n0 tc)[sOff 20 1]? = some (fwCel (sAd n0 a5 a52 b) tc (h00 20 1) 20 1) := rfl
theorem s_20_2 : (kX n0 tc ++ kY n0 tc)[sOff 20 2]? = some (fwCel (sAd n0 a5 a52 b) tc (h00 20 2) 20 2) := rfl
theorem s_20_3 : (kX n0 tc ++ kY n0 tc)[sOff 20 3]? = some (fwCel (sAd n0 a5 a52 b) tc (h00 20 3) 20 3) := rfl
theorem s_20_4 : (kX n0 tc ++ kY n0 tc)[sOff 20 4]? = some (fwCel (sAd n0 a5 a52 b) tc (h00 20 4) 20 4) := rfl
theorem s_21_0 : (kX n0 tc ++ kY n0 tc)[sOff 21 0]? = some (fwCel (sAd n0 a5 a52 b) tc (h00 21 0) 21 0) := rfl
theorem s_21_1 : (kX n0 tc ++ kY n0 tc)[sOff 21 1]? = some (fwCel (sAd n0 a5 a52 b) tc (h00 21 1) 21 1) := rfl
theorem s_21_2 : (kX n0 tc ++ kY n0 tc)[sOff 21 2]? = some (fwCel (sAd n0 a5 a52 b) tc (h00 21 2) 21 2) := rfl
theorem s_21_3 : (kX n0 tc ++ kY n0 tc)[sOff 21 3]? = some (fwCel (sAd n0 a5 a52 b) tc (h00 21 3) 21 3) := rfl
theorem s_21_4 : (kX n0 tc ++ kY n0 tc)[sOff 21 4]? = some (fwCel (sAd n0 a5 a52 b) tc (h00 21 4) 21 4) := rfl
theorem s_22_0 : (kX n0 tc ++ kY n0 tc)[sOff 22 0]? = some (fwCel (sAd n0 a5 a52 b) tc (h00 22 0) 22 0) := by
  refine congrArg (fun f : Nat → Option Nat => (some (Sum.inl (tc 4, 3, Sum.inr (Sum.inr (Sum.inr (Sum.inr f))))) : Option va_E)) (funext fun j => ?_)
  match j with
  | 0 => rfl
  | 1 => rfl
  | 2 => rfl
  | n + 3 =>
    first | (simp [va_up]; done) | (rw [if_neg (by omega), if_neg (show ¬ n + 3 < 3 by omega)])
theorem s_23_0 : (kX n0 tc ++ kY n0 tc)[sOff 23 0]? = some (fwCel (sAd n0 a5 a52 b) tc (h00 23 0) 23 0) := rfl
theorem s_24_0 : (kX n0 tc ++ kY n0 tc)[sOff 24 0]? = some (fwCel (sAd n0 a5 a52 b) tc (h00 24 0) 24 0) := rfl
theorem s_25_0 : (kX n0 tc ++ kY n0 tc)[sOff 25 0]? = some (fwCel (sAd n0 a5 a52 b) tc (h00 25 0) 25 0) := rfl
theorem s_26_0 : (kX n0 tc ++ kY n0 tc)[sOff 26 0]? = some (fwCel (sAd n0 a5 a52 b) tc (h00 26 0) 26 0) := rfl
theorem s_27_0 : (kX n0 tc ++ kY n0 tc)[sOff 27 0]? = some (fwCel (sAd n0 a5 a52 b) tc (h00 27 0) 27 0) := rfl
theorem s_28_0 : (kX n0 tc ++ kY n0 tc)[sOff 28 0]? = some (fwCel (sAd n0 a5 a52 b) tc (h00 28 0) 28 0) := rfl
theorem s_29_0 : (kX n0 tc ++ kY n0 tc)[sOff 29 0]? = some (fwCel (sAd n0 a5 a52 b) tc (h00 29 0) 29 0) := rfl
theorem s_30_0 : (kX n0 tc ++ kY n0 tc)[sOff 30 0]? = some (fwCel (sAd n0 a5 a52 b) tc (h00 30 0) 30 0) := rfl
theorem s_31_0 : (kX n0 tc ++ kY n0 tc)[sOff 31 0]? = some (fwCel (sAd n0 a5 a52 b) tc (h00 31 0) 31 0) := rfl
theorem s_32_0 : (kX n0 tc ++ kY n0 tc)[sOff 32 0]? = some (fwCel (sAd n0 a5 a52 b) tc (h00 32 0) 32 0) := by
  refine congrArg (fun f : Nat → Option Nat => (some (Sum.inl (tc 5, 4, Sum.inr (Sum.inr (Sum.inr (Sum.inr f))))) : Option va_E)) (funext fun j => ?_)
  match j with
  | 0 => rfl
  | 1 => rfl
  | 2 => rfl
  | 3 => rfl
  | n + 4 =>
    first | (simp [va_up]; done) | (rw [if_neg (by omega), if_neg (show ¬ n + 4 < 4 by omega)])
theorem s_33_0 : (kX n0 tc ++ kY n0 tc)[sOff 33 0]? = some (fwCel (sAd n0 a5 a52 b) tc (h00 33 0) 33 0) := rfl
theorem s_33_1 : (kX n0 tc ++ kY n0 tc)[sOff 33 1]? = some (fwCel (sAd n0 a5 a52 b) tc (h00 33 1) 33 1) := rfl
theorem s_33_2 : (kX n0 tc ++ kY n0 tc)[sOff 33 2]? = some (fwCel (sAd n0 a5 a52 b) tc (h00 33 2) 33 2) := rfl
theorem s_33_3 : (kX n0 tc ++ kY n0 tc)[sOff 33 3]? = some (fwCel (sAd n0 a5 a52 b) tc (h00 33 3) 33 3) := rfl
theorem s_34_0 : (kX n0 tc ++ kY n0 tc)[sOff 34 0]? = some (fwCel (sAd n0 a5 a52 b) tc (h00 34 0) 34 0) := rfl
theorem s_35_0 : (kX n0 tc ++ kY n0 tc)[sOff 35 0]? = some (fwCel (sAd n0 a5 a52 b) tc (h00 35 0) 35 0) := by
  refine congrArg (fun f : Nat → Int32 => (some (Sum.inl (tc 0, 4, Sum.inl f)) : Option va_E)) (funext fun j => ?_)
  match j with
  | 0 => rfl
  | 1 => rfl
  | 2 => rfl
  | 3 => rfl
  | n + 4 =>
    show upd (upd (upd (upd (fun _ => 0) 0 _) 1 _) 2 _) 3 _ (n + 4) = Int32.ofInt (h00 35 0 (n + 4))
    have e1 : h00 35 0 (n + 4) = 0 := by simp [h00]
    rw [e1]
    simp [upd]
    try rfl
theorem s_36_0 : (kX n0 tc ++ kY n0 tc)[sOff 36 0]? = some (fwCel (sAd n0 a5 a52 b) tc (h00 36 0) 36 0) := rfl
theorem s_37_0 : (kX n0 tc ++ kY n0 tc)[sOff 37 0]? = some (fwCel (sAd n0 a5 a52 b) tc (h00 37 0) 37 0) := rfl
theorem s_38_0 : (kX n0 tc ++ kY n0 tc)[sOff 38 0]? = some (fwCel (sAd n0 a5 a52 b) tc (h00 38 0) 38 0) := rfl
theorem s_39_0 : (kX n0 tc ++ kY n0 tc)[sOff 39 0]? = some (fwCel (sAd n0 a5 a52 b) tc (h00 39 0) 39 0) := rfl
theorem s_40_0 : (kX n0 tc ++ kY n0 tc)[sOff 40 0]? = some (fwCel (sAd n0 a5 a52 b) tc (h00 40 0) 40 0) := rfl
theorem s_41_0 : (kX n0 tc ++ kY n0 tc)[sOff 41 0]? = some (fwCel (sAd n0 a5 a52 b) tc (h00 41 0) 41 0) := rfl
theorem s_42_0 : (kX n0 tc ++ kY n0 tc)[sOff 42 0]? = some (fwCel (sAd n0 a5 a52 b) tc (h00 42 0) 42 0) := rfl
theorem s_43_0 : (kX n0 tc ++ kY n0 tc)[sOff 43 0]? = some (fwCel (sAd n0 a5 a52 b) tc (h00 43 0) 43 0) := rfl
theorem s_44_0 : (kX n0 tc ++ kY n0 tc)[sOff 44 0]? = some (fwCel (sAd n0 a5 a52 b) tc (h00 44 0) 44 0) := rfl
theorem s_45_0 : (kX n0 tc ++ kY n0 tc)[sOff 45 0]? = some (fwCel (sAd n0 a5 a52 b) tc (h00 45 0) 45 0) := rfl
theorem s_46_0 : (kX n0 tc ++ kY n0 tc)[sOff 46 0]? = some (fwCel (sAd n0 a5 a52 b) tc (h00 46 0) 46 0) := by
  refine congrArg (fun f : Nat → Int32 => (some (Sum.inl (tc 0, 4, Sum.inl f)) : Option va_E)) (funext fun j => ?_)
  match j with
  | 0 => rfl
  | 1 => rfl
  | 2 => rfl
  | 3 => rfl
  | n + 4 =>
    show upd (upd (upd (upd (fun _ => 0) 0 _) 1 _) 2 _) 3 _ (n + 4) = Int32.ofInt (h00 46 0 (n + 4))
    have e1 : h00 46 0 (n + 4) = 0 := by simp [h00]
    rw [e1]
    simp [upd]
    try rfl
theorem s_47_0 : (kX n0 tc ++ kY n0 tc)[sOff 47 0]? = some (fwCel (sAd n0 a5 a52 b) tc (h00 47 0) 47 0) := rfl
theorem s_48_0 : (kX n0 tc ++ kY n0 tc)[sOff 48 0]? = some (fwCel (sAd n0 a5 a52 b) tc (h00 48 0) 48 0) := rfl
theorem s_49_0 : (kX n0 tc ++ kY n0 tc)[sOff 49 0]? = some (fwCel (sAd n0 a5 a52 b) tc (h00 49 0) 49 0) := rfl
theorem s_pr : fwPr = [(0, 0), (1, 0), (2, 0), (3, 0), (3, 1), (3, 2), (3, 3), (3, 4), (4, 0), (4, 1), (4, 2), (4, 3), (4, 4), (4, 5), (5, 0), (5, 1), (5, 2), (5, 3), (5, 4), (6, 0), (7, 0), (8, 0), (9, 0), (10, 0), (11, 0), (12, 0), (13, 0), (14, 0), (15, 0), (16, 0), (17, 0), (17, 1), (17, 2), (17, 3), (17, 4), (17, 5), (18, 0), (18, 1), (18, 2), (18, 3), (18, 4), (19, 0), (19, 1), (19, 2), (19, 3), (19, 4), (20, 0), (20, 1), (20, 2), (20, 3), (20, 4), (21, 0), (21, 1), (21, 2), (21, 3), (21, 4), (22, 0), (23, 0), (24, 0), (25, 0), (26, 0), (27, 0), (28, 0), (29, 0), (30, 0), (31, 0), (32, 0), (33, 0), (33, 1), (33, 2), (33, 3), (34, 0), (35, 0), (36, 0), (37, 0), (38, 0), (39, 0), (40, 0), (41, 0), (42, 0), (43, 0), (44, 0), (45, 0), (46, 0), (47, 0), (48, 0), (49, 0)] := by decide +kernel
set_option maxRecDepth 100000 in
theorem s_all : ∀ q ∈ fwPr, (kX n0 tc ++ kY n0 tc)[sOff q.1 q.2]? = some (fwCel (sAd n0 a5 a52 b) tc (h00 q.1 q.2) q.1 q.2) := by
  rw [s_pr]
  exact List.forall_mem_cons.mpr ⟨s_0_0, List.forall_mem_cons.mpr ⟨s_1_0, List.forall_mem_cons.mpr ⟨s_2_0, List.forall_mem_cons.mpr ⟨s_3_0, List.forall_mem_cons.mpr ⟨s_3_1, List.forall_mem_cons.mpr ⟨s_3_2, List.forall_mem_cons.mpr ⟨s_3_3, List.forall_mem_cons.mpr ⟨s_3_4, List.forall_mem_cons.mpr ⟨s_4_0, List.forall_mem_cons.mpr ⟨s_4_1, List.forall_mem_cons.mpr ⟨s_4_2, List.forall_mem_cons.mpr ⟨s_4_3, List.forall_mem_cons.mpr ⟨s_4_4, List.forall_mem_cons.mpr ⟨s_4_5, List.forall_mem_cons.mpr ⟨s_5_0, List.forall_mem_cons.mpr ⟨s_5_1, List.forall_mem_cons.mpr ⟨s_5_2, List.forall_mem_cons.mpr ⟨s_5_3, List.forall_mem_cons.mpr ⟨s_5_4, List.forall_mem_cons.mpr ⟨s_6_0, List.forall_mem_cons.mpr ⟨s_7_0, List.forall_mem_cons.mpr ⟨s_8_0, List.forall_mem_cons.mpr ⟨s_9_0, List.forall_mem_cons.mpr ⟨s_10_0, List.forall_mem_cons.mpr ⟨s_11_0, List.forall_mem_cons.mpr ⟨s_12_0, List.forall_mem_cons.mpr ⟨s_13_0, List.forall_mem_cons.mpr ⟨s_14_0, List.forall_mem_cons.mpr ⟨s_15_0, List.forall_mem_cons.mpr ⟨s_16_0, List.forall_mem_cons.mpr ⟨s_17_0, List.forall_mem_cons.mpr ⟨s_17_1, List.forall_mem_cons.mpr ⟨s_17_2, List.forall_mem_cons.mpr ⟨s_17_3, List.forall_mem_cons.mpr ⟨s_17_4, List.forall_mem_cons.mpr ⟨s_17_5, List.forall_mem_cons.mpr ⟨s_18_0, List.forall_mem_cons.mpr ⟨s_18_1, List.forall_mem_cons.mpr ⟨s_18_2, List.forall_mem_cons.mpr ⟨s_18_3, List.forall_mem_cons.mpr ⟨s_18_4, List.forall_mem_cons.mpr ⟨s_19_0, List.forall_mem_cons.mpr ⟨s_19_1, List.forall_mem_cons.mpr ⟨s_19_2, List.forall_mem_cons.mpr ⟨s_19_3, List.forall_mem_cons.mpr ⟨s_19_4, List.forall_mem_cons.mpr ⟨s_20_0, List.forall_mem_cons.mpr ⟨s_20_1, List.forall_mem_cons.mpr ⟨s_20_2, List.forall_mem_cons.mpr ⟨s_20_3, List.forall_mem_cons.mpr ⟨s_20_4, List.forall_mem_cons.mpr ⟨s_21_0, List.forall_mem_cons.mpr ⟨s_21_1, List.forall_mem_cons.mpr ⟨s_21_2, List.forall_mem_cons.mpr ⟨s_21_3, List.forall_mem_cons.mpr ⟨s_21_4, List.forall_mem_cons.mpr ⟨s_22_0, List.forall_mem_cons.mpr ⟨s_23_0, List.forall_mem_cons.mpr ⟨s_24_0, List.forall_mem_cons.mpr ⟨s_25_0, List.forall_mem_cons.mpr ⟨s_26_0, List.forall_mem_cons.mpr ⟨s_27_0, List.forall_mem_cons.mpr ⟨s_28_0, List.forall_mem_cons.mpr ⟨s_29_0, List.forall_mem_cons.mpr ⟨s_30_0, List.forall_mem_cons.mpr ⟨s_31_0, List.forall_mem_cons.mpr ⟨s_32_0, List.forall_mem_cons.mpr ⟨s_33_0, List.forall_mem_cons.mpr ⟨s_33_1, List.forall_mem_cons.mpr ⟨s_33_2, List.forall_mem_cons.mpr ⟨s_33_3, List.forall_mem_cons.mpr ⟨s_34_0, List.forall_mem_cons.mpr ⟨s_35_0, List.forall_mem_cons.mpr ⟨s_36_0, List.forall_mem_cons.mpr ⟨s_37_0, List.forall_mem_cons.mpr ⟨s_38_0, List.forall_mem_cons.mpr ⟨s_39_0, List.forall_mem_cons.mpr ⟨s_40_0, List.forall_mem_cons.mpr ⟨s_41_0, List.forall_mem_cons.mpr ⟨s_42_0, List.forall_mem_cons.mpr ⟨s_43_0, List.forall_mem_cons.mpr ⟨s_44_0, List.forall_mem_cons.mpr ⟨s_45_0, List.forall_mem_cons.mpr ⟨s_46_0, List.forall_mem_cons.mpr ⟨s_47_0, List.forall_mem_cons.mpr ⟨s_48_0, List.forall_mem_cons.mpr ⟨s_49_0, fun _ h => absurd h List.not_mem_nil⟩⟩⟩⟩⟩⟩⟩⟩⟩⟩⟩⟩⟩⟩⟩⟩⟩⟩⟩⟩⟩⟩⟩⟩⟩⟩⟩⟩⟩⟩⟩⟩⟩⟩⟩⟩⟩⟩⟩⟩⟩⟩⟩⟩⟩⟩⟩⟩⟩⟩⟩⟩⟩⟩⟩⟩⟩⟩⟩⟩⟩⟩⟩⟩⟩⟩⟩⟩⟩⟩⟩⟩⟩⟩⟩⟩⟩⟩⟩⟩⟩⟩⟩⟩⟩⟩⟩
theorem s_world {D : va_G} {H : Heap} (hP : va_P D vwCl (kWd n0 (kX n0 tc ++ kY n0 tc)) H) : va_P D vwCl (fwWd (sAd n0 a5 a52 b) tc h00) H := by
  intro idx q hq
  unfold fwWd at hq
  rw [List.getElem?_map] at hq
  cases h1 : fwPr[idx]? with
  | none => rw [h1] at hq; cases hq
  | some a =>
    rw [h1] at hq
    cases hq
    have hm := List.mem_of_getElem? h1
    have := hP _ _ (kWd_at (s_all (n0 := n0) (tc := tc) (a5 := a5) (a52 := a52) (b := b) a hm))
    dsimp only
    rw [sAd_lt (fwNk_lt (fwPr_in a hm))]
    exact this
end SW

theorem cut_sh (v : Int) (j : Int64) (n : Nat) (hj : (j.toBitVec.smod 64).toNat = n) : ((Int64.ofInt v <<< j) >>> j).toInt = ((((v % 18446744073709551616).toNat * 2 ^ n : Nat) : Int).bmod 18446744073709551616) / ((2 ^ n : Nat) : Int) := by
  rw [← Int64.toInt_toBitVec, Int64.toBitVec_shiftRight, Int64.toBitVec_shiftLeft, BitVec.toInt_sshiftRight', BitVec.shiftLeft_eq', BitVec.toInt_shiftLeft, hj, Int64.toBitVec_ofInt, BitVec.toNat_ofInt, Nat.shiftLeft_eq, Int.shiftRight_eq_div_pow]
  rfl
theorem cut_md (v : Int) (w : Int) (j : Int64) (n : Nat) (hw : (Int32.ofInt (64 - fwShl 8 w)).toInt64 &&& 63 = j) (hj : (j.toBitVec.smod 64).toNat = n) : mdCut v w = ((((v % 18446744073709551616).toNat * 2 ^ n : Nat) : Int).bmod 18446744073709551616) / ((2 ^ n : Nat) : Int) := by
  unfold mdCut fwLshr fwLshl
  rw [hw, Int64.ofInt_toInt]
  exact cut_sh v j n hj
theorem cut_eq {v w : Int} (hv : -9223372036854775808 ≤ v ∧ v < 9223372036854775808) (hw : 0 ≤ w ∧ w ≤ 3) : mdCut v w = mCut v w := by
  rcases (show w = 0 ∨ w = 1 ∨ w = 2 ∨ w = 3 by omega) with rfl | rfl | rfl | rfl
  · rw [cut_md v 0 56 56 (by decide) (by decide), mCut, if_pos rfl, fwB8, Int32.toInt_toInt8, Int32.toInt_ofInt]
    show _ = ((v.bmod 4294967296).bmod 256)
    rw [Int.bmod_def, Int.bmod_def, Int.bmod_def]
    have e : (((v % 18446744073709551616).toNat * 2 ^ 56 : Nat) : Int) = (v % 18446744073709551616) * 72057594037927936 := by
      rw [show (2 : Nat) ^ 56 = 72057594037927936 from rfl]; omega
    rw [e, show ((2 ^ 56 : Nat) : Int) = 72057594037927936 from rfl]
    omega
  · rw [cut_md v 1 48 48 (by decide) (by decide), mCut, if_neg (by decide), if_pos rfl, fwS16, Int32.toInt_toInt16, Int32.toInt_ofInt]
    show _ = ((v.bmod 4294967296).bmod 65536)
    rw [Int.bmod_def, Int.bmod_def, Int.bmod_def]
    have e : (((v % 18446744073709551616).toNat * 2 ^ 48 : Nat) : Int) = (v % 18446744073709551616) * 281474976710656 := by
      rw [show (2 : Nat) ^ 48 = 281474976710656 from rfl]; omega
    rw [e, show ((2 ^ 48 : Nat) : Int) = 281474976710656 from rfl]
    omega
  · rw [cut_md v 2 32 32 (by decide) (by decide), mCut, if_neg (by decide), if_neg (by decide), if_pos rfl, fwI32, Int32.toInt_ofInt]
    show _ = v.bmod 4294967296
    rw [Int.bmod_def, Int.bmod_def]
    have e : (((v % 18446744073709551616).toNat * 2 ^ 32 : Nat) : Int) = (v % 18446744073709551616) * 4294967296 := by
      rw [show (2 : Nat) ^ 32 = 4294967296 from rfl]; omega
    rw [e, show ((2 ^ 32 : Nat) : Int) = 4294967296 from rfl]
    omega
  · rw [cut_md v 3 0 0 (by decide) (by decide), mCut, if_neg (by decide), if_neg (by decide), if_neg (by decide)]
    rw [Int.bmod_def]
    have e : (((v % 18446744073709551616).toNat * 2 ^ 0 : Nat) : Int) = (v % 18446744073709551616) := by
      rw [show (2 : Nat) ^ 0 = 1 from rfl]; omega
    rw [e, show ((2 ^ 0 : Nat) : Int) = 1 from rfl]
    omega

/-! bits of small numbers -/
theorem bv_n {x : Nat} (hx : x < 2147483648) : (BitVec.ofInt 32 (x : Int)).toNat = x := by
  rw [BitVec.toNat_ofInt]
  omega
theorem bv_i {b : BitVec 32} (h : b.toNat < 2147483648) : b.toInt = (b.toNat : Int) := by
  rw [BitVec.toInt_eq_toNat_cond, if_pos (by omega)]
theorem zand_n {x y : Nat} (hx : x < 2147483648) (hy : y < 2147483648) : zand x y = ((x &&& y : Nat) : Int) := by
  unfold zand
  have e : (Int32.ofInt (x : Int) &&& Int32.ofInt (y : Int)).toBitVec.toNat = x &&& y := by
    rw [Int32.toBitVec_and, BitVec.toNat_and, Int32.toBitVec_ofInt, Int32.toBitVec_ofInt, bv_n hx, bv_n hy]
  have l : x &&& y < 2147483648 := Nat.lt_of_le_of_lt Nat.and_le_left hx
  rw [← Int32.toInt_toBitVec, bv_i (by rw [e]; exact l), e]
theorem zor_n {x y : Nat} (hx : x < 2147483648) (hy : y < 2147483648) : zor x y = ((x ||| y : Nat) : Int) := by
  unfold zor
  have e : (Int32.ofInt (x : Int) ||| Int32.ofInt (y : Int)).toBitVec.toNat = x ||| y := by
    rw [Int32.toBitVec_or, BitVec.toNat_or, Int32.toBitVec_ofInt, Int32.toBitVec_ofInt, bv_n hx, bv_n hy]
  have l : x ||| y < 2 ^ 31 := Nat.or_lt_two_pow (by omega) (by omega)
  rw [← Int32.toInt_toBitVec, bv_i (by rw [e]; omega), e]
theorem zxor_n {x y : Nat} (hx : x < 2147483648) (hy : y < 2147483648) : zxor x y = ((x ^^^ y : Nat) : Int) := by
  unfold zxor
  have e : (Int32.ofInt (x : Int) ^^^ Int32.ofInt (y : Int)).toBitVec.toNat = x ^^^ y := by
    rw [Int32.toBitVec_xor, BitVec.toNat_xor, Int32.toBitVec_ofInt, Int32.toBitVec_ofInt, bv_n hx, bv_n hy]
  have l : x ^^^ y < 2 ^ 31 := Nat.xor_lt_two_pow (by omega) (by omega)
  rw [← Int32.toInt_toBitVec, bv_i (by rw [e]; omega), e]
theorem zshl_1 {y : Nat} (hy : y < 31) : zshl 1 y = ((2 ^ y : Nat) : Int) := by
  have h : ∀ y : Fin 31, zshl 1 (y.val : Nat) = ((2 ^ y.val : Nat) : Int) := by decide +kernel
  exact h ⟨y, hy⟩

/-! the class's classing is the reference's -/
theorem zlshr_e {w : Int} (h0 : -9223372036854775808 ≤ w) (h1 : w < 9223372036854775808) (k : Int) (n : Nat) (hk : (((Int32.ofInt k).toInt64 &&& 63).toBitVec.smod 64).toNat = n) : zlshr w k = w / ((2 ^ n : Nat) : Int) := by
  unfold zlshr
  rw [← Int64.toInt_toBitVec, Int64.toBitVec_shiftRight, BitVec.toInt_sshiftRight', hk, Int64.toInt_toBitVec, zn_tl h0 h1, Int.shiftRight_eq_div_pow]
theorem zand_lo (x : Int) : zand (w32 x) 1023 = x % 1024 := by
  unfold zand
  have e : (Int32.ofInt (w32 x) &&& Int32.ofInt 1023).toBitVec.toNat = (w32 x % 4294967296).toNat &&& 1023 := by
    rw [Int32.toBitVec_and, BitVec.toNat_and, Int32.toBitVec_ofInt, Int32.toBitVec_ofInt, BitVec.toNat_ofInt]
    rfl
  have e2 : (w32 x % 4294967296).toNat &&& 1023 = (w32 x % 4294967296).toNat % 1024 := Nat.and_two_pow_sub_one_eq_mod _ 10
  rw [e2] at e
  rw [← Int32.toInt_toBitVec, bv_i (by rw [e]; omega), e]
  unfold w32
  omega
theorem dg_e {w : Int} (h0 : 0 ≤ w) (h1 : w < 9223372036854775808) : dg w 0 = w / 1099511627776 % 1024 ∧ dg w 1 = w / 1073741824 % 1024 ∧ dg w 2 = w / 1048576 % 1024 ∧ dg w 3 = w / 1024 % 1024 ∧ dg w 4 = w % 1024 := by
  have a0 := zlshr_e (by omega) h1 40 40 (by decide)
  have a1 := zlshr_e (by omega) h1 30 30 (by decide)
  have a2 := zlshr_e (by omega) h1 20 20 (by decide)
  have a3 := zlshr_e (by omega) h1 10 10 (by decide)
  have a4 := zlshr_e (by omega) h1 0 0 (by decide)
  unfold dg
  rw [zand_lo, zand_lo, zand_lo, zand_lo, zand_lo, show (40 : Int) - 10 * 0 = 40 from rfl, show (40 : Int) - 10 * 1 = 30 from rfl, show (40 : Int) - 10 * 2 = 20 from rfl, show (40 : Int) - 10 * 3 = 10 from rfl, show (40 : Int) - 10 * 4 = 0 from rfl, a0, a1, a2, a3, a4]
  refine ⟨rfl, rfl, rfl, rfl, ?_⟩
  show w / 1 % 1024 = w % 1024
  omega
theorem tie5 {T : Int} (T0 : 0 ≤ T) (T1 : T ≤ 5) (A : Int → Int) : CA (fun t x => x * tw t) 0 T A = (if 0 < T then A 0 else 0) * 1099511627776 + (if 1 < T then A 1 else 0) * 1073741824 + (if 2 < T then A 2 else 0) * 1048576 + (if 3 < T then A 3 else 0) * 1024 + (if 4 < T then A 4 else 0) := by
  have e : CA (fun t x => x * tw t) 0 T A = sumF (fun u => A u * tw u) 0 T.toNat := by
    unfold CA
    rw [show (T - 0).toNat = T.toNat by omega]
    refine sumF_c _ _ (fun u u0 u1 => ?_)
    by_cases c : A u = 0
    · rw [if_pos c, c, Int.zero_mul]
    · rw [if_neg c]
  rw [e]
  have t0 : tw 0 = 1099511627776 := rfl
  have t1 : tw 1 = 1073741824 := rfl
  have t2 : tw 2 = 1048576 := rfl
  have t3 : tw 3 = 1024 := rfl
  have t4 : tw 4 = 1 := rfl
  rcases (show T = 0 ∨ T = 1 ∨ T = 2 ∨ T = 3 ∨ T = 4 ∨ T = 5 by omega) with rfl | rfl | rfl | rfl | rfl | rfl
  · show (0 : Int) = _; simp
  · show A 0 * tw 0 + 0 = _; rw [t0]; simp
  · show A 0 * tw 0 + (A 1 * tw 1 + 0) = _; rw [t0, t1]; simp
  · show A 0 * tw 0 + (A 1 * tw 1 + (A 2 * tw 2 + 0)) = _; rw [t0, t1, t2]; simp; omega
  · show A 0 * tw 0 + (A 1 * tw 1 + (A 2 * tw 2 + (A 3 * tw 3 + 0))) = _; rw [t0, t1, t2, t3]; simp; omega
  · show A 0 * tw 0 + (A 1 * tw 1 + (A 2 * tw 2 + (A 3 * tw 3 + (A 4 * tw 4 + 0)))) = _; rw [t0, t1, t2, t3, t4]; simp; omega

/-! here -/
theorem has_b : ∀ x : Fin 1024, ∀ n : Fin 10, zand (zshr (x.val : Nat) (n.val : Nat)) 1 = if x.val.testBit n.val then 1 else 0 := by decide +kernel
theorem has_z {x n : Int} (h0 : 0 ≤ x) (h1 : x < 1024) (n0 : 0 ≤ n) (n1 : n < 10) : zand (zshr x n) 1 = if x.toNat.testBit n.toNat then 1 else 0 := by
  have h := has_b ⟨x.toNat, by omega⟩ ⟨n.toNat, by omega⟩
  simp only [Int.toNat_of_nonneg h0, Int.toNat_of_nonneg n0] at h
  exact h
theorem has_bi {x n : Int} (h0 : 0 ≤ x) (h1 : x < 1024) (n0 : 0 ≤ n) (n1 : n < 10) : (¬ zand (zshr x n) 1 = 0) ↔ bi x n := by
  rw [has_z h0 h1 n0 n1]
  unfold bi
  by_cases h : x.toNat.testBit n.toNat = true
  · rw [if_pos h]; simp [h]
  · rw [if_neg h]; simp [h]
theorem xor_bi {x a : Int} (h0 : 0 ≤ x) (h1 : x < 1024) (a0 : 0 ≤ a) (a1 : a < 10) : 0 ≤ zxor x (zshl 1 a) ∧ zxor x (zshl 1 a) < 1024 ∧ ∀ p : Int, 0 ≤ p → (bi (zxor x (zshl 1 a)) p ↔ (bi x p ↔ ¬ p = a)) := by
  obtain ⟨x, rfl⟩ := Int.eq_ofNat_of_zero_le h0
  obtain ⟨a, rfl⟩ := Int.eq_ofNat_of_zero_le a0
  have ha : a < 10 := by omega
  have hx : x < 2 ^ 10 := by omega
  have hp : 2 ^ a < 2 ^ 10 := Nat.pow_lt_pow_right (by omega) ha
  have e : zxor (x : Int) (zshl 1 (a : Int)) = ((x ^^^ 2 ^ a : Nat) : Int) := by
    rw [zshl_1 (by omega), zxor_n (by omega) (by omega)]
  have l := Nat.xor_lt_two_pow hx hp
  rw [e]
  refine ⟨by omega, by omega, fun p p0 => ?_⟩
  obtain ⟨p, rfl⟩ := Int.eq_ofNat_of_zero_le p0
  unfold bi
  simp only [Int.toNat_natCast, Nat.testBit_xor, Nat.testBit_two_pow]
  by_cases hb : x.testBit p = true <;> by_cases hq : a = p
  · subst hq; simp [hb]
  · have : ¬ ((p : Int) = (a : Int)) := by omega
    simp [hb, hq, this]
  · subst hq; simp [hb]
  · have : ¬ ((p : Int) = (a : Int)) := by omega
    simp [hb, hq, this]

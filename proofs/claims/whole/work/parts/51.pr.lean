theorem clr_b : ∀ x : Fin 1024, ∀ n : Fin 10, zand (x.val : Nat) (zxor (zshl 1 (n.val : Nat)) (-1)) = ((x.val &&& (1023 ^^^ 2 ^ n.val) : Nat) : Int) := by decide +kernel
theorem clr_bi {x a : Int} (h0 : 0 ≤ x) (h1 : x < 1024) (a0 : 0 ≤ a) (a1 : a < 10) : 0 ≤ zand x (zxor (zshl 1 a) (-1)) ∧ zand x (zxor (zshl 1 a) (-1)) < 1024 ∧ ∀ p : Int, 0 ≤ p → (bi (zand x (zxor (zshl 1 a) (-1))) p ↔ (bi x p ∧ ¬ p = a)) := by
  obtain ⟨x, rfl⟩ := Int.eq_ofNat_of_zero_le h0
  obtain ⟨a, rfl⟩ := Int.eq_ofNat_of_zero_le a0
  have ha : a < 10 := by omega
  have hx : x < 1024 := by omega
  have e := clr_b ⟨x, hx⟩ ⟨a, ha⟩
  simp only at e
  have l : x &&& (1023 ^^^ 2 ^ a) ≤ x := Nat.and_le_left
  rw [e]
  refine ⟨by omega, by omega, fun p p0 => ?_⟩
  obtain ⟨p, rfl⟩ := Int.eq_ofNat_of_zero_le p0
  unfold bi
  have h10 : x.testBit p = true → p < 10 := by
    intro h
    refine Classical.byContradiction fun hn => ?_
    have h2 : 2 ^ 10 ≤ 2 ^ p := Nat.pow_le_pow_right (by omega) (by omega)
    rw [Nat.testBit_lt_two_pow (Nat.lt_of_lt_of_le (show x < 2 ^ 10 by omega) h2)] at h
    cases h
  have hm : Nat.testBit 1023 p = decide (p < 10) := Nat.testBit_two_pow_sub_one 10 p
  simp only [Int.toNat_natCast, Nat.testBit_and, Nat.testBit_xor, Nat.testBit_two_pow, hm]
  by_cases hb : x.testBit p = true
  · have := h10 hb
    by_cases hq : a = p
    · subst hq; simp [hb, this]
    · have h2 : ¬ ((p : Int) = (a : Int)) := by omega
      simp [hb, hq, h2, this]
  · simp [hb]
theorem set_bi {x a : Int} (h0 : 0 ≤ x) (h1 : x < 1024) (a0 : 0 ≤ a) (a1 : a < 10) : 0 ≤ zor x (zshl 1 a) ∧ zor x (zshl 1 a) < 1024 ∧ ∀ p : Int, 0 ≤ p → (bi (zor x (zshl 1 a)) p ↔ (bi x p ∨ p = a)) := by
  obtain ⟨x, rfl⟩ := Int.eq_ofNat_of_zero_le h0
  obtain ⟨a, rfl⟩ := Int.eq_ofNat_of_zero_le a0
  have ha : a < 10 := by omega
  have hx : x < 2 ^ 10 := by omega
  have hp : 2 ^ a < 2 ^ 10 := Nat.pow_lt_pow_right (by omega) ha
  have e : zor (x : Int) (zshl 1 (a : Int)) = ((x ||| 2 ^ a : Nat) : Int) := by
    rw [zshl_1 (by omega), zor_n (by omega) (by omega)]
  have l := Nat.or_lt_two_pow hx hp
  rw [e]
  refine ⟨by omega, by omega, fun p p0 => ?_⟩
  obtain ⟨p, rfl⟩ := Int.eq_ofNat_of_zero_le p0
  unfold bi
  simp only [Int.toNat_natCast, Nat.testBit_or, Nat.testBit_two_pow]
  by_cases hb : x.testBit p = true <;> by_cases hq : a = p
  · subst hq; simp [hb]
  · have : ¬ ((p : Int) = (a : Int)) := by omega
    simp [hb, hq, this]
  · subst hq; simp [hb]
  · have : ¬ ((p : Int) = (a : Int)) := by omega
    simp [hb, hq, this]

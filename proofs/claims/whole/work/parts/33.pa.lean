theorem pr_meeting (L : Nat) : Pr_meeting (Inv L) := by
  intro a ha s hs
  obtain ⟨h1, h2, h3, h4, h5, h6, h7, h8, h9, h10, h11⟩ := id hs
  have e4 := h10.1
  by_cases hc : 0 ≤ a ∧ a < 6
  · have q1 := z01_t hc
    have q2 : z01 (0 ≤ a ∧ a ≤ 5) = 1 := z01_t (by omega)
    refine ⟨s 3 0 4, zup s 3 0 4 a, zup (zup s 3 0 4 a) 11 0 10 a, ?_, ?_, ?_, rfl, rfl⟩
    · intro m pc ls st fs Q
      simp only [r91_0, r91_1, r91_3, r91_6, r91_9, r91_10, r91_12, r91_15, r91_16, r91_17, r91_20, r91_23, r91_24, r91_25, r91_28, r91_29, r91_32, r91_33, k_isBelow, q1, zclr_I, zclr_R, zclr_L, zclr_U, reduceIte, Int.reduceEq, Int.reduceLT, Int.reduceLE, Int.reduceNeg, not_true_eq_false, not_false_eq_true, or_true, true_or, or_false, false_or, and_true, true_and, and_false, false_and, z01_or]
    · intro m pc ls st fs Q
      simp only [r158_0, r158_1, r158_4, r158_7, r158_8, r158_10, r158_13, r158_14, r158_15, r158_18, r158_19, r158_20, r158_21, r158_24, r158_25, k_isPlace, q2, zclr_I, zclr_R, zclr_L, zclr_U, reduceIte, Int.reduceEq, Int.reduceLT, Int.reduceLE, Int.reduceNeg, not_true_eq_false, not_false_eq_true, or_true, true_or, or_false, false_or, and_true, true_and, and_false, false_and, z01_or, zup_g, Nat.reduceEqDiff, e4]
    · unfold Inv
      simp only [zclr_I, zclr_R, zclr_L, zclr_U, reduceIte, Int.reduceEq, Int.reduceLT, Int.reduceLE, Int.reduceNeg, not_true_eq_false, not_false_eq_true, or_true, true_or, or_false, false_or, and_true, true_and, and_false, false_and, z01_or, zup_g, Nat.reduceEqDiff]
      exact ⟨h1, h2, h3, h4, h5, h6, h7, h8, h9, ⟨rfl, by omega, by omega⟩, h11⟩
  · have q1 := z01_f hc
    have q2 : z01 (0 ≤ a ∧ a ≤ 5) = 0 := z01_f (by omega)
    refine pf (-1000001) hs ?_ ?_
    · intro m pc ls st fs Q
      simp only [r91_0, r91_1, r91_3, r91_6, r91_9, r91_10, r91_12, r91_15, r91_16, r91_17, r91_20, r91_23, r91_24, r91_25, r91_28, r91_29, r91_32, r91_33, k_isBelow, k_finding, q1, zclr_I, zclr_R, zclr_L, zclr_U, reduceIte, Int.reduceEq, Int.reduceLT, Int.reduceLE, Int.reduceNeg, not_true_eq_false, not_false_eq_true, or_true, true_or, or_false, false_or, and_true, true_and, and_false, false_and, z01_or]
    · intro m pc ls st fs Q
      simp only [r158_0, r158_1, r158_4, r158_7, r158_8, r158_10, r158_13, r158_14, r158_15, r158_18, r158_19, r158_20, r158_21, r158_24, r158_25, k_isPlace, k_finds, q2, zclr_I, zclr_R, zclr_L, zclr_U, reduceIte, Int.reduceEq, Int.reduceLT, Int.reduceLE, Int.reduceNeg, not_true_eq_false, not_false_eq_true, or_true, true_or, or_false, false_or, and_true, true_and, and_false, false_and, z01_or, zup_g, Nat.reduceEqDiff]
theorem pr_hours (L : Nat) : Pr_hours (Inv L) := by
  intro a b ha hb s hs
  obtain ⟨h1, h2, h3, h4, h5, h6, h7, h8, h9, h10, h11, h12⟩ := id hs
  by_cases hc : 0 ≤ a ∧ a ≤ b ∧ b ≤ 7
  · have q1 := z01_t hc
    have q2 : z01 (0 ≤ a ∧ a ≤ 7) = 1 := z01_t (by omega)
    have q3 : z01 (a ≤ b ∧ b ≤ 7) = 1 := z01_t (by omega)
    refine ⟨1, zup (zup s 1 0 2 a) 1 0 3 b, zup (zup (zup (zup s 1 0 2 a) 1 0 3 b) 11 0 11 a) 11 0 12 b, ?_, ?_, ?_, rfl, rfl⟩
    · intro m pc ls st fs Q
      simp only [r99_0, r99_1, r99_2, r99_5, r99_8, r99_9, r99_11, r99_14, r99_15, r99_16, r99_19, r99_20, r99_23, r99_24, r99_27, r99_28, r99_31, r99_32, k_areHours, q1, zclr_I, zclr_R, zclr_L, zclr_U, reduceIte, Int.reduceEq, Int.reduceLT, Int.reduceLE, Int.reduceNeg, not_true_eq_false, not_false_eq_true, or_true, true_or, or_false, false_or, and_true, true_and, and_false, false_and, z01_or]
    · intro m pc ls st fs Q
      simp only [r170_0, r170_1, r170_2, r170_4, r170_7, r170_10, r170_11, r170_12, r170_14, r170_17, r170_20, r170_21, r170_23, r170_26, r170_27, r170_28, r170_29, r170_32, r170_33, r170_34, r170_37, r170_38, k_in, q2, q3, zclr_I, zclr_R, zclr_L, zclr_U, reduceIte, Int.reduceEq, Int.reduceLT, Int.reduceLE, Int.reduceNeg, not_true_eq_false, not_false_eq_true, or_true, true_or, or_false, false_or, and_true, true_and, and_false, false_and, z01_or, zup_g, Nat.reduceEqDiff]
    · unfold Inv
      simp only [zclr_I, zclr_R, zclr_L, zclr_U, reduceIte, Int.reduceEq, Int.reduceLT, Int.reduceLE, Int.reduceNeg, not_true_eq_false, not_false_eq_true, or_true, true_or, or_false, false_or, and_true, true_and, and_false, false_and, z01_or, zup_g, Nat.reduceEqDiff]
      exact ⟨h1, h2, h3, h4, h5, h6, h7, h8, h9, h10, ⟨rfl, rfl, by omega, by omega, by omega⟩, h12⟩
  · have q1 := z01_f hc
    refine pf (-1000001) hs ?_ ?_
    · intro m pc ls st fs Q
      simp only [r99_0, r99_1, r99_2, r99_5, r99_8, r99_9, r99_11, r99_14, r99_15, r99_16, r99_19, r99_20, r99_23, r99_24, r99_27, r99_28, r99_31, r99_32, k_areHours, k_finding, q1, zclr_I, zclr_R, zclr_L, zclr_U, reduceIte, Int.reduceEq, Int.reduceLT, Int.reduceLE, Int.reduceNeg, not_true_eq_false, not_false_eq_true, or_true, true_or, or_false, false_or, and_true, true_and, and_false, false_and, z01_or]
    · intro m pc ls st fs Q
      by_cases c1 : 0 ≤ a ∧ a ≤ 7
      · have q2 := z01_t c1
        have q3 : z01 (a ≤ b ∧ b ≤ 7) = 0 := z01_f (by omega)
        simp only [r170_0, r170_1, r170_2, r170_4, r170_7, r170_10, r170_11, r170_12, r170_14, r170_17, r170_20, r170_21, r170_23, r170_26, r170_27, r170_28, r170_29, r170_32, r170_33, r170_34, r170_37, r170_38, k_in, k_finds, q2, q3, zclr_I, zclr_R, zclr_L, zclr_U, reduceIte, Int.reduceEq, Int.reduceLT, Int.reduceLE, Int.reduceNeg, not_true_eq_false, not_false_eq_true, or_true, true_or, or_false, false_or, and_true, true_and, and_false, false_and, z01_or, zup_g, Nat.reduceEqDiff]
      · have q2 := z01_f c1
        simp only [r170_0, r170_1, r170_2, r170_4, r170_7, r170_10, r170_11, r170_12, r170_14, r170_17, r170_20, r170_21, r170_23, r170_26, r170_27, r170_28, r170_29, r170_32, r170_33, r170_34, r170_37, r170_38, k_in, k_finds, q2, zclr_I, zclr_R, zclr_L, zclr_U, reduceIte, Int.reduceEq, Int.reduceLT, Int.reduceLE, Int.reduceNeg, not_true_eq_false, not_false_eq_true, or_true, true_or, or_false, false_or, and_true, true_and, and_false, false_and, z01_or, zup_g, Nat.reduceEqDiff]

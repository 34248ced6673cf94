theorem pr_terms (L : Nat) : Pr_terms (Inv L) := by
  intro a b c d ha hb hc0 hd s hs
  obtain ⟨h1, h2, h3, h4, h5, h6, h7, h8, h9, h10⟩ := id hs
  by_cases c1 : 1 ≤ a ∧ a ≤ 10
  · by_cases c2 : 0 ≤ b ∧ b ≤ 90
    · by_cases c3 : 0 ≤ c ∧ c < 10
      · by_cases c4 : 0 ≤ d ∧ d < 10
        · have p1 : (a < 1) = False := eq_false (by omega)
          have p2 : (10 < a) = False := eq_false (by omega)
          have p3 : (b < 0) = False := eq_false (by omega)
          have p4 : (90 < b) = False := eq_false (by omega)
          have q1 := z01_t c1
          have q2 := z01_t c2
          have q3 := z01_t c3
          have q4 := z01_t c4
          have q5 : z01 (0 ≤ c ∧ c ≤ 9) = 1 := z01_t (by omega)
          have q6 : z01 (0 ≤ d ∧ d ≤ 9) = 1 := z01_t (by omega)
          refine ⟨1, zup (zup (zup (zup s 6 0 5 a) 6 0 6 b) 6 0 7 c) 6 0 8 d, zup (zup (zup (zup (zup (zup (zup (zup s 6 0 5 a) 6 0 6 b) 6 0 7 c) 6 0 8 d) 11 0 6 a) 11 0 7 b) 11 0 8 c) 11 0 9 d, ?_, ?_, ?_, rfl, rfl⟩
          · intro m pc ls st fs Q
            simp only [r81_0, r81_1, r81_2, r81_5, r81_6, r81_8, r81_11, r81_12, r81_15, r81_16, r81_18, r81_21, r81_22, r81_25, r81_26, r81_28, r81_30, r81_33, r81_34, r81_36, r81_39, r81_42, r81_44, r81_46, r81_49, r81_52, r81_53, r81_55, r81_58, r81_59, r81_60, r81_63, r81_64, r81_67, r81_68, r81_71, r81_72, r81_75, r81_76, r81_79, r81_80, r81_83, r81_84, r81_87, r81_89, r81_92, r81_93, k_isBelow, p1, p2, p3, p4, q3, q4, zclr_I, zclr_R, zclr_L, zclr_U, reduceIte, Int.reduceEq, Int.reduceLT, Int.reduceLE, Int.reduceNeg, not_true_eq_false, not_false_eq_true, or_true, true_or, or_false, false_or, and_true, true_and, and_false, false_and, z01_or]
          · intro m pc ls st fs Q
            simp only [r136_0, r136_1, r136_2, r136_4, r136_7, r136_10, r136_11, r136_12, r136_14, r136_17, r136_20, r136_21, r136_22, r136_24, r136_27, r136_30, r136_32, r136_33, r136_35, r136_38, r136_41, r136_42, r136_44, r136_47, r136_48, r136_49, r136_50, r136_53, r136_54, r136_55, r136_58, r136_59, r136_60, r136_63, r136_64, r136_66, r136_69, r136_70, k_in, q1, q2, q5, q6, zclr_I, zclr_R, zclr_L, zclr_U, reduceIte, Int.reduceEq, Int.reduceLT, Int.reduceLE, Int.reduceNeg, not_true_eq_false, not_false_eq_true, or_true, true_or, or_false, false_or, and_true, true_and, and_false, false_and, z01_or, zup_g, Nat.reduceEqDiff]
          · unfold Inv
            simp only [zclr_I, zclr_R, zclr_L, zclr_U, reduceIte, Int.reduceEq, Int.reduceLT, Int.reduceLE, Int.reduceNeg, not_true_eq_false, not_false_eq_true, or_true, true_or, or_false, false_or, and_true, true_and, and_false, false_and, z01_or, zup_g, Nat.reduceEqDiff]
            exact ⟨h1, h2, h3, h4, h5, h6, h7, h8, ⟨⟨rfl, by omega, by omega⟩, ⟨rfl, by omega, by omega⟩, ⟨rfl, by omega, by omega⟩, ⟨rfl, by omega, by omega⟩⟩, h10⟩
        · have p1 : (a < 1) = False := eq_false (by omega)
          have p2 : (10 < a) = False := eq_false (by omega)
          have p3 : (b < 0) = False := eq_false (by omega)
          have p4 : (90 < b) = False := eq_false (by omega)
          have q1 := z01_t c1
          have q2 := z01_t c2
          have q3 := z01_t c3
          have q4 := z01_f c4
          have q5 : z01 (0 ≤ c ∧ c ≤ 9) = 1 := z01_t (by omega)
          have q6 : z01 (0 ≤ d ∧ d ≤ 9) = 0 := z01_f (by omega)
          refine pf (-1000001) hs ?_ ?_ <;> intro m pc ls st fs Q
          · simp only [r81_0, r81_1, r81_2, r81_5, r81_6, r81_8, r81_11, r81_12, r81_15, r81_16, r81_18, r81_21, r81_22, r81_25, r81_26, r81_28, r81_30, r81_33, r81_34, r81_36, r81_39, r81_42, r81_44, r81_46, r81_49, r81_52, r81_53, r81_55, r81_58, r81_59, r81_60, r81_63, r81_64, r81_67, r81_68, r81_71, r81_72, r81_75, r81_76, r81_79, r81_80, r81_83, r81_84, r81_87, r81_89, r81_92, r81_93, k_isBelow, k_finding, p1, p2, p3, p4, q3, q4, zclr_I, zclr_R, zclr_L, zclr_U, reduceIte, Int.reduceEq, Int.reduceLT, Int.reduceLE, Int.reduceNeg, not_true_eq_false, not_false_eq_true, or_true, true_or, or_false, false_or, and_true, true_and, and_false, false_and, z01_or]
          · simp only [r136_0, r136_1, r136_2, r136_4, r136_7, r136_10, r136_11, r136_12, r136_14, r136_17, r136_20, r136_21, r136_22, r136_24, r136_27, r136_30, r136_32, r136_33, r136_35, r136_38, r136_41, r136_42, r136_44, r136_47, r136_48, r136_49, r136_50, r136_53, r136_54, r136_55, r136_58, r136_59, r136_60, r136_63, r136_64, r136_66, r136_69, r136_70, k_in, k_finds, q1, q2, q5, q6, zclr_I, zclr_R, zclr_L, zclr_U, reduceIte, Int.reduceEq, Int.reduceLT, Int.reduceLE, Int.reduceNeg, not_true_eq_false, not_false_eq_true, or_true, true_or, or_false, false_or, and_true, true_and, and_false, false_and, z01_or, zup_g, Nat.reduceEqDiff]
      · have p1 : (a < 1) = False := eq_false (by omega)
        have p2 : (10 < a) = False := eq_false (by omega)
        have p3 : (b < 0) = False := eq_false (by omega)
        have p4 : (90 < b) = False := eq_false (by omega)
        have q1 := z01_t c1
        have q2 := z01_t c2
        have q3 := z01_f c3
        have q5 : z01 (0 ≤ c ∧ c ≤ 9) = 0 := z01_f (by omega)
        refine pf (-1000001) hs ?_ ?_ <;> intro m pc ls st fs Q
        · simp only [r81_0, r81_1, r81_2, r81_5, r81_6, r81_8, r81_11, r81_12, r81_15, r81_16, r81_18, r81_21, r81_22, r81_25, r81_26, r81_28, r81_30, r81_33, r81_34, r81_36, r81_39, r81_42, r81_44, r81_46, r81_49, r81_52, r81_53, r81_55, r81_58, r81_59, r81_60, r81_63, r81_64, r81_67, r81_68, r81_71, r81_72, r81_75, r81_76, r81_79, r81_80, r81_83, r81_84, r81_87, r81_89, r81_92, r81_93, k_isBelow, k_finding, p1, p2, p3, p4, q3, zclr_I, zclr_R, zclr_L, zclr_U, reduceIte, Int.reduceEq, Int.reduceLT, Int.reduceLE, Int.reduceNeg, not_true_eq_false, not_false_eq_true, or_true, true_or, or_false, false_or, and_true, true_and, and_false, false_and, z01_or]
        · simp only [r136_0, r136_1, r136_2, r136_4, r136_7, r136_10, r136_11, r136_12, r136_14, r136_17, r136_20, r136_21, r136_22, r136_24, r136_27, r136_30, r136_32, r136_33, r136_35, r136_38, r136_41, r136_42, r136_44, r136_47, r136_48, r136_49, r136_50, r136_53, r136_54, r136_55, r136_58, r136_59, r136_60, r136_63, r136_64, r136_66, r136_69, r136_70, k_in, k_finds, q1, q2, q5, zclr_I, zclr_R, zclr_L, zclr_U, reduceIte, Int.reduceEq, Int.reduceLT, Int.reduceLE, Int.reduceNeg, not_true_eq_false, not_false_eq_true, or_true, true_or, or_false, false_or, and_true, true_and, and_false, false_and, z01_or, zup_g, Nat.reduceEqDiff]
    · have p1 : (a < 1) = False := eq_false (by omega)
      have p2 : (10 < a) = False := eq_false (by omega)
      have q1 := z01_t c1
      have q2 := z01_f c2
      refine pf (-1000001) hs ?_ ?_ <;> intro m pc ls st fs Q
      · by_cases p3 : b < 0
        · simp only [r81_0, r81_1, r81_2, r81_5, r81_6, r81_8, r81_11, r81_12, r81_15, r81_16, r81_18, r81_21, r81_22, r81_25, r81_26, r81_28, r81_30, r81_33, r81_34, r81_36, r81_39, r81_42, r81_44, r81_46, r81_49, r81_52, r81_53, r81_55, r81_58, r81_59, r81_60, r81_63, r81_64, r81_67, r81_68, r81_71, r81_72, r81_75, r81_76, r81_79, r81_80, r81_83, r81_84, r81_87, r81_89, r81_92, r81_93, k_finding, p1, p2, p3, zclr_I, zclr_R, zclr_L, zclr_U, reduceIte, Int.reduceEq, Int.reduceLT, Int.reduceLE, Int.reduceNeg, not_true_eq_false, not_false_eq_true, or_true, true_or, or_false, false_or, and_true, true_and, and_false, false_and, z01_or]
        · have p4 : (90 < b) = True := eq_true (by omega)
          simp only [r81_0, r81_1, r81_2, r81_5, r81_6, r81_8, r81_11, r81_12, r81_15, r81_16, r81_18, r81_21, r81_22, r81_25, r81_26, r81_28, r81_30, r81_33, r81_34, r81_36, r81_39, r81_42, r81_44, r81_46, r81_49, r81_52, r81_53, r81_55, r81_58, r81_59, r81_60, r81_63, r81_64, r81_67, r81_68, r81_71, r81_72, r81_75, r81_76, r81_79, r81_80, r81_83, r81_84, r81_87, r81_89, r81_92, r81_93, k_finding, p1, p2, p3, p4, zclr_I, zclr_R, zclr_L, zclr_U, reduceIte, Int.reduceEq, Int.reduceLT, Int.reduceLE, Int.reduceNeg, not_true_eq_false, not_false_eq_true, or_true, true_or, or_false, false_or, and_true, true_and, and_false, false_and, z01_or]
      · simp only [r136_0, r136_1, r136_2, r136_4, r136_7, r136_10, r136_11, r136_12, r136_14, r136_17, r136_20, r136_21, r136_22, r136_24, r136_27, r136_30, r136_32, r136_33, r136_35, r136_38, r136_41, r136_42, r136_44, r136_47, r136_48, r136_49, r136_50, r136_53, r136_54, r136_55, r136_58, r136_59, r136_60, r136_63, r136_64, r136_66, r136_69, r136_70, k_in, k_finds, q1, q2, zclr_I, zclr_R, zclr_L, zclr_U, reduceIte, Int.reduceEq, Int.reduceLT, Int.reduceLE, Int.reduceNeg, not_true_eq_false, not_false_eq_true, or_true, true_or, or_false, false_or, and_true, true_and, and_false, false_and, z01_or, zup_g, Nat.reduceEqDiff]
  · have q1 := z01_f c1
    refine pf (-1000001) hs ?_ ?_ <;> intro m pc ls st fs Q
    · by_cases p1 : a < 1
      · simp only [r81_0, r81_1, r81_2, r81_5, r81_6, r81_8, r81_11, r81_12, r81_15, r81_16, r81_18, r81_21, r81_22, r81_25, r81_26, r81_28, r81_30, r81_33, r81_34, r81_36, r81_39, r81_42, r81_44, r81_46, r81_49, r81_52, r81_53, r81_55, r81_58, r81_59, r81_60, r81_63, r81_64, r81_67, r81_68, r81_71, r81_72, r81_75, r81_76, r81_79, r81_80, r81_83, r81_84, r81_87, r81_89, r81_92, r81_93, k_finding, p1, zclr_I, zclr_R, zclr_L, zclr_U, reduceIte, Int.reduceEq, Int.reduceLT, Int.reduceLE, Int.reduceNeg, not_true_eq_false, not_false_eq_true, or_true, true_or, or_false, false_or, and_true, true_and, and_false, false_and, z01_or]
      · have p2 : (10 < a) = True := eq_true (by omega)
        simp only [r81_0, r81_1, r81_2, r81_5, r81_6, r81_8, r81_11, r81_12, r81_15, r81_16, r81_18, r81_21, r81_22, r81_25, r81_26, r81_28, r81_30, r81_33, r81_34, r81_36, r81_39, r81_42, r81_44, r81_46, r81_49, r81_52, r81_53, r81_55, r81_58, r81_59, r81_60, r81_63, r81_64, r81_67, r81_68, r81_71, r81_72, r81_75, r81_76, r81_79, r81_80, r81_83, r81_84, r81_87, r81_89, r81_92, r81_93, k_finding, p1, p2, zclr_I, zclr_R, zclr_L, zclr_U, reduceIte, Int.reduceEq, Int.reduceLT, Int.reduceLE, Int.reduceNeg, not_true_eq_false, not_false_eq_true, or_true, true_or, or_false, false_or, and_true, true_and, and_false, false_and, z01_or]
    · simp only [r136_0, r136_1, r136_2, r136_4, r136_7, r136_10, r136_11, r136_12, r136_14, r136_17, r136_20, r136_21, r136_22, r136_24, r136_27, r136_30, r136_32, r136_33, r136_35, r136_38, r136_41, r136_42, r136_44, r136_47, r136_48, r136_49, r136_50, r136_53, r136_54, r136_55, r136_58, r136_59, r136_60, r136_63, r136_64, r136_66, r136_69, r136_70, k_in, k_finds, q1, zclr_I, zclr_R, zclr_L, zclr_U, reduceIte, Int.reduceEq, Int.reduceLT, Int.reduceLE, Int.reduceNeg, not_true_eq_false, not_false_eq_true, or_true, true_or, or_false, false_or, and_true, true_and, and_false, false_and, z01_or, zup_g, Nat.reduceEqDiff]
theorem pr_set (L : Nat) : Pr_set (Inv L) := by
  intro a ha s hs
  obtain ⟨h1, h2, h3, h4, h5, h6, h7, h8, h9, h10, h11, h12, h13, h14, h15, h16⟩ := id hs
  have hT := h5
  have w1 : w32 (s 11 0 1 - 1) = s 11 0 1 - 1 := w32_id (by have := hT.2; omega) (by have := hT.2; omega)
  have eT := hT.1
  by_cases hc : 0 ≤ a ∧ a < s 6 0 3
  · have q1 := z01_t hc
    have q2 : z01 (0 ≤ a ∧ a ≤ s 11 0 1 - 1) = 1 := z01_t (by omega)
    have b1 : (0 ≤ a ∧ a < 5) = True := eq_true (by have := hT.2; omega)
    have e9 := (h15 a (by omega) (by omega)).2.2.2.1.1
    refine ⟨s 8 a 5, s, s, ?_, ?_, hs, rfl, rfl⟩
    · intro m pc ls st fs Q
      simp only [r87_0, r87_1, r87_4, r87_5, r87_8, r87_11, r87_12, r87_14, r87_17, r87_18, r87_19, r87_22, r87_25, r87_26, r87_27, r87_30, k_hasTeacher, q1, b1, zclr_I, zclr_R, zclr_L, zclr_U, reduceIte, Int.reduceEq, Int.reduceLT, Int.reduceLE, Int.reduceNeg, not_true_eq_false, not_false_eq_true, or_true, true_or, or_false, false_or, and_true, true_and, and_false, false_and, z01_or, zak_40, zln_40, zak_41, zln_41, zak_42, zln_42, zak_43, zln_43, zak_44, zln_44, zak_45, zln_45, zak_46, zln_46, zak_47, zln_47, zak_48, zln_48, zak_49, zln_49, zak_50, zln_50, zak_51, zln_51, zak_52, zln_52, zak_53, zln_53, zak_54, zln_54, zak_55, zln_55, zak_73, zln_73, zak_74, zln_74, zak_75, zln_75, zak_76, zln_76, zak_77, zln_77, zak_78, zln_78, zak_79, zln_79, zak_80, zln_80, zak_81, zln_81, zak_82, zln_82, zak_83, zln_83, zak_84, zln_84, zak_85, zln_85, zak_86, zln_86, zak_87, zln_87, zak_88, zln_88, zak_89, zln_89, zak_90, zln_90, zak_91, zln_91, zak_92, zln_92, zak_93, zln_93, zak_94, zln_94, zak_95, zln_95, zak_96, zln_96, zak_97, zln_97, zak_98, zln_98, zak_99, zln_99, zak_100, zln_100, zak_101, zln_101, zak_102, zln_102, zak_103, zln_103, zak_104, zln_104, zak_105, zln_105, zak_108, zln_108, zak_109, zln_109, Nat.reduceLeDiff]
    · intro m pc ls st fs Q
      simp only [r153_0, r153_1, r153_2, r153_5, r153_8, r153_9, r153_12, r153_13, r153_14, r153_17, r153_18, r153_20, r153_23, k_isTeacher, w1, q2, b1, e9, zclr_I, zclr_R, zclr_L, zclr_U, reduceIte, Int.reduceEq, Int.reduceLT, Int.reduceLE, Int.reduceNeg, not_true_eq_false, not_false_eq_true, or_true, true_or, or_false, false_or, and_true, true_and, and_false, false_and, z01_or, zak_40, zln_40, zak_41, zln_41, zak_42, zln_42, zak_43, zln_43, zak_44, zln_44, zak_45, zln_45, zak_46, zln_46, zak_47, zln_47, zak_48, zln_48, zak_49, zln_49, zak_50, zln_50, zak_51, zln_51, zak_52, zln_52, zak_53, zln_53, zak_54, zln_54, zak_55, zln_55, zak_73, zln_73, zak_74, zln_74, zak_75, zln_75, zak_76, zln_76, zak_77, zln_77, zak_78, zln_78, zak_79, zln_79, zak_80, zln_80, zak_81, zln_81, zak_82, zln_82, zak_83, zln_83, zak_84, zln_84, zak_85, zln_85, zak_86, zln_86, zak_87, zln_87, zak_88, zln_88, zak_89, zln_89, zak_90, zln_90, zak_91, zln_91, zak_92, zln_92, zak_93, zln_93, zak_94, zln_94, zak_95, zln_95, zak_96, zln_96, zak_97, zln_97, zak_98, zln_98, zak_99, zln_99, zak_100, zln_100, zak_101, zln_101, zak_102, zln_102, zak_103, zln_103, zak_104, zln_104, zak_105, zln_105, zak_108, zln_108, zak_109, zln_109, Nat.reduceLeDiff]
  · have q1 := z01_f hc
    have q2 : z01 (0 ≤ a ∧ a ≤ s 11 0 1 - 1) = 0 := z01_f (by omega)
    refine pf (-1000001) hs ?_ ?_ <;> intro m pc ls st fs Q
    · simp only [r87_0, r87_1, r87_4, r87_5, r87_8, r87_11, r87_12, r87_14, r87_17, r87_18, r87_19, r87_22, r87_25, r87_26, r87_27, r87_30, k_hasTeacher, k_finding, q1, zclr_I, zclr_R, zclr_L, zclr_U, reduceIte, Int.reduceEq, Int.reduceLT, Int.reduceLE, Int.reduceNeg, not_true_eq_false, not_false_eq_true, or_true, true_or, or_false, false_or, and_true, true_and, and_false, false_and, z01_or]
    · simp only [r153_0, r153_1, r153_2, r153_5, r153_8, r153_9, r153_12, r153_13, r153_14, r153_17, r153_18, r153_20, r153_23, k_isTeacher, k_finds, zup_g, Nat.reduceEqDiff, w1, q2, zclr_I, zclr_R, zclr_L, zclr_U, reduceIte, Int.reduceEq, Int.reduceLT, Int.reduceLE, Int.reduceNeg, not_true_eq_false, not_false_eq_true, or_true, true_or, or_false, false_or, and_true, true_and, and_false, false_and, z01_or]
theorem pr_stop (L : Nat) : Pr_stop (Inv L) := by
  intro a b ha hb s hs
  obtain ⟨h1, h2, h3, h4, h5, h6, h7, h8, h9, h10, h11, h12, h13, h14, h15, h16, h17, h18⟩ := id hs
  have w1 : w32 (s 11 0 2 - 1) = s 11 0 2 - 1 := w32_id (by have := h6.2; omega) (by have := h6.2; omega)
  have eT := h6.1
  by_cases hc : 0 ≤ a ∧ a < s 3 0 1
  · have q1 := z01_t hc
    have q2 : z01 (0 ≤ a ∧ a ≤ s 11 0 2 - 1) = 1 := z01_t (by omega)
    have b1 : (0 ≤ a ∧ a < 6) = True := eq_true (by have := h6.2; omega)
    have b2 : (b = 0 ∨ b = 1) = True := eq_true hb
    obtain ⟨g1, g2, g3, g4⟩ := h17.1 a (by omega) (by omega)
    have hi : Inv L (zup (zup s 9 a 3 b) 93 0 a b) := by
      unfold Inv
      simp only [zclr_I, zclr_R, zclr_L, zclr_U, reduceIte, Int.reduceEq, Int.reduceLT, Int.reduceLE, Int.reduceNeg, not_true_eq_false, not_false_eq_true, or_true, true_or, or_false, false_or, and_true, true_and, and_false, false_and, z01_or, zup_g, Nat.reduceEqDiff]
      refine ⟨h1, h2, h3, h4, h5, h6, h7, h8, h9, h10, h11, h12, h13, h14, h15, h16, ⟨fun i i0 i1 => ?_, fun i i0 i1 => ?_, fun i i0 i1 => ?_⟩, h18⟩
      · obtain ⟨k1, k2, k3, k4⟩ := h17.1 i i0 i1
        by_cases e : i = a
        · subst e
          simp only [zclr_I, zclr_R, zclr_L, zclr_U, reduceIte, Int.reduceEq, Int.reduceLT, Int.reduceLE, Int.reduceNeg, not_true_eq_false, not_false_eq_true, or_true, true_or, or_false, false_or, and_true, true_and, and_false, false_and, z01_or]
          exact ⟨k1, k2, hb⟩
        · simp only [e, zclr_I, zclr_R, zclr_L, zclr_U, reduceIte, Int.reduceEq, Int.reduceLT, Int.reduceLE, Int.reduceNeg, not_true_eq_false, not_false_eq_true, or_true, true_or, or_false, false_or, and_true, true_and, and_false, false_and, z01_or]
          exact ⟨k1, k2, k3, k4⟩
      · simp only [zclr_I, zclr_R, zclr_L, zclr_U, reduceIte, Int.reduceEq, Int.reduceLT, Int.reduceLE, Int.reduceNeg, not_true_eq_false, not_false_eq_true, or_true, true_or, or_false, false_or, and_true, true_and, and_false, false_and, z01_or]
        exact h17.2.1 i i0 i1
      · have e : ¬ i = a := by omega
        simp only [e, zclr_I, zclr_R, zclr_L, zclr_U, reduceIte, Int.reduceEq, Int.reduceLT, Int.reduceLE, Int.reduceNeg, not_true_eq_false, not_false_eq_true, or_true, true_or, or_false, false_or, and_true, true_and, and_false, false_and, z01_or]
        exact h17.2.2 i i0 i1
    by_cases e : s 93 0 a = b
    · have e8 : (s 93 0 a = b) = True := eq_true e
      have e9 : (s 9 a 3 = b) = True := eq_true (g3.trans e)
      refine ⟨0, zup s 9 a 3 b, zup (zup s 9 a 3 b) 93 0 a b, ?_, ?_, hi, rfl, rfl⟩ <;> intro m pc ls st fs Q
      · simp only [r90_0, r90_1, r90_2, r90_5, r90_8, r90_11, r90_14, r90_15, r90_17, r90_20, r90_21, r90_22, r90_25, r90_28, r90_29, r90_30, r90_31, r90_32, r90_35, r90_36, r90_39, r90_40, r90_43, r90_44, r90_46, r90_47, r90_48, r90_51, r90_53, r90_56, r90_57, r90_60, r90_61, k_isBelow, q1, b1, b2, e9, zclr_I, zclr_R, zclr_L, zclr_U, reduceIte, Int.reduceEq, Int.reduceLT, Int.reduceLE, Int.reduceNeg, not_true_eq_false, not_false_eq_true, or_true, true_or, or_false, false_or, and_true, true_and, and_false, false_and, z01_or, zak_40, zln_40, zak_41, zln_41, zak_42, zln_42, zak_43, zln_43, zak_44, zln_44, zak_45, zln_45, zak_46, zln_46, zak_47, zln_47, zak_48, zln_48, zak_49, zln_49, zak_50, zln_50, zak_51, zln_51, zak_52, zln_52, zak_53, zln_53, zak_54, zln_54, zak_55, zln_55, zak_73, zln_73, zak_74, zln_74, zak_75, zln_75, zak_76, zln_76, zak_77, zln_77, zak_78, zln_78, zak_79, zln_79, zak_80, zln_80, zak_81, zln_81, zak_82, zln_82, zak_83, zln_83, zak_84, zln_84, zak_85, zln_85, zak_86, zln_86, zak_87, zln_87, zak_88, zln_88, zak_89, zln_89, zak_90, zln_90, zak_91, zln_91, zak_92, zln_92, zak_93, zln_93, zak_94, zln_94, zak_95, zln_95, zak_96, zln_96, zak_97, zln_97, zak_98, zln_98, zak_99, zln_99, zak_100, zln_100, zak_101, zln_101, zak_102, zln_102, zak_103, zln_103, zak_104, zln_104, zak_105, zln_105, zak_108, zln_108, zak_109, zln_109, Nat.reduceLeDiff]
      · simp only [r157_0, r157_1, r157_2, r157_3, r157_6, r157_7, r157_8, r157_11, r157_14, r157_15, r157_17, r157_20, r157_21, r157_22, r157_25, r157_26, r157_27, r157_28, r157_29, r157_32, r157_33, r157_34, r157_35, r157_36, r157_37, r157_40, r157_41, r157_44, r157_45, k_in, zup_g, Nat.reduceEqDiff, w1, q2, b1, b2, e8, zclr_I, zclr_R, zclr_L, zclr_U, reduceIte, Int.reduceEq, Int.reduceLT, Int.reduceLE, Int.reduceNeg, not_true_eq_false, not_false_eq_true, or_true, true_or, or_false, false_or, and_true, true_and, and_false, false_and, z01_or, zak_40, zln_40, zak_41, zln_41, zak_42, zln_42, zak_43, zln_43, zak_44, zln_44, zak_45, zln_45, zak_46, zln_46, zak_47, zln_47, zak_48, zln_48, zak_49, zln_49, zak_50, zln_50, zak_51, zln_51, zak_52, zln_52, zak_53, zln_53, zak_54, zln_54, zak_55, zln_55, zak_73, zln_73, zak_74, zln_74, zak_75, zln_75, zak_76, zln_76, zak_77, zln_77, zak_78, zln_78, zak_79, zln_79, zak_80, zln_80, zak_81, zln_81, zak_82, zln_82, zak_83, zln_83, zak_84, zln_84, zak_85, zln_85, zak_86, zln_86, zak_87, zln_87, zak_88, zln_88, zak_89, zln_89, zak_90, zln_90, zak_91, zln_91, zak_92, zln_92, zak_93, zln_93, zak_94, zln_94, zak_95, zln_95, zak_96, zln_96, zak_97, zln_97, zak_98, zln_98, zak_99, zln_99, zak_100, zln_100, zak_101, zln_101, zak_102, zln_102, zak_103, zln_103, zak_104, zln_104, zak_105, zln_105, zak_108, zln_108, zak_109, zln_109, Nat.reduceLeDiff]
    · have e8 : (s 93 0 a = b) = False := eq_false e
      have e9 : (s 9 a 3 = b) = False := eq_false (by rw [g3]; exact e)
      refine ⟨1, zup s 9 a 3 b, zup (zup s 9 a 3 b) 93 0 a b, ?_, ?_, hi, rfl, rfl⟩ <;> intro m pc ls st fs Q
      · simp only [r90_0, r90_1, r90_2, r90_5, r90_8, r90_11, r90_14, r90_15, r90_17, r90_20, r90_21, r90_22, r90_25, r90_28, r90_29, r90_30, r90_31, r90_32, r90_35, r90_36, r90_39, r90_40, r90_43, r90_44, r90_46, r90_47, r90_48, r90_51, r90_53, r90_56, r90_57, r90_60, r90_61, k_isBelow, q1, b1, b2, e9, zclr_I, zclr_R, zclr_L, zclr_U, reduceIte, Int.reduceEq, Int.reduceLT, Int.reduceLE, Int.reduceNeg, not_true_eq_false, not_false_eq_true, or_true, true_or, or_false, false_or, and_true, true_and, and_false, false_and, z01_or, zak_40, zln_40, zak_41, zln_41, zak_42, zln_42, zak_43, zln_43, zak_44, zln_44, zak_45, zln_45, zak_46, zln_46, zak_47, zln_47, zak_48, zln_48, zak_49, zln_49, zak_50, zln_50, zak_51, zln_51, zak_52, zln_52, zak_53, zln_53, zak_54, zln_54, zak_55, zln_55, zak_73, zln_73, zak_74, zln_74, zak_75, zln_75, zak_76, zln_76, zak_77, zln_77, zak_78, zln_78, zak_79, zln_79, zak_80, zln_80, zak_81, zln_81, zak_82, zln_82, zak_83, zln_83, zak_84, zln_84, zak_85, zln_85, zak_86, zln_86, zak_87, zln_87, zak_88, zln_88, zak_89, zln_89, zak_90, zln_90, zak_91, zln_91, zak_92, zln_92, zak_93, zln_93, zak_94, zln_94, zak_95, zln_95, zak_96, zln_96, zak_97, zln_97, zak_98, zln_98, zak_99, zln_99, zak_100, zln_100, zak_101, zln_101, zak_102, zln_102, zak_103, zln_103, zak_104, zln_104, zak_105, zln_105, zak_108, zln_108, zak_109, zln_109, Nat.reduceLeDiff]
      · simp only [r157_0, r157_1, r157_2, r157_3, r157_6, r157_7, r157_8, r157_11, r157_14, r157_15, r157_17, r157_20, r157_21, r157_22, r157_25, r157_26, r157_27, r157_28, r157_29, r157_32, r157_33, r157_34, r157_35, r157_36, r157_37, r157_40, r157_41, r157_44, r157_45, k_in, zup_g, Nat.reduceEqDiff, w1, q2, b1, b2, e8, zclr_I, zclr_R, zclr_L, zclr_U, reduceIte, Int.reduceEq, Int.reduceLT, Int.reduceLE, Int.reduceNeg, not_true_eq_false, not_false_eq_true, or_true, true_or, or_false, false_or, and_true, true_and, and_false, false_and, z01_or, zak_40, zln_40, zak_41, zln_41, zak_42, zln_42, zak_43, zln_43, zak_44, zln_44, zak_45, zln_45, zak_46, zln_46, zak_47, zln_47, zak_48, zln_48, zak_49, zln_49, zak_50, zln_50, zak_51, zln_51, zak_52, zln_52, zak_53, zln_53, zak_54, zln_54, zak_55, zln_55, zak_73, zln_73, zak_74, zln_74, zak_75, zln_75, zak_76, zln_76, zak_77, zln_77, zak_78, zln_78, zak_79, zln_79, zak_80, zln_80, zak_81, zln_81, zak_82, zln_82, zak_83, zln_83, zak_84, zln_84, zak_85, zln_85, zak_86, zln_86, zak_87, zln_87, zak_88, zln_88, zak_89, zln_89, zak_90, zln_90, zak_91, zln_91, zak_92, zln_92, zak_93, zln_93, zak_94, zln_94, zak_95, zln_95, zak_96, zln_96, zak_97, zln_97, zak_98, zln_98, zak_99, zln_99, zak_100, zln_100, zak_101, zln_101, zak_102, zln_102, zak_103, zln_103, zak_104, zln_104, zak_105, zln_105, zak_108, zln_108, zak_109, zln_109, Nat.reduceLeDiff]
  · have q1 := z01_f hc
    have q2 : z01 (0 ≤ a ∧ a ≤ s 11 0 2 - 1) = 0 := z01_f (by omega)
    refine pf (-1000001) hs ?_ ?_ <;> intro m pc ls st fs Q
    · simp only [r90_0, r90_1, r90_2, r90_5, r90_8, r90_11, r90_14, r90_15, r90_17, r90_20, r90_21, r90_22, r90_25, r90_28, r90_29, r90_30, r90_31, r90_32, r90_35, r90_36, r90_39, r90_40, r90_43, r90_44, r90_46, r90_47, r90_48, r90_51, r90_53, r90_56, r90_57, r90_60, r90_61, k_isBelow, k_finding, q1, zclr_I, zclr_R, zclr_L, zclr_U, reduceIte, Int.reduceEq, Int.reduceLT, Int.reduceLE, Int.reduceNeg, not_true_eq_false, not_false_eq_true, or_true, true_or, or_false, false_or, and_true, true_and, and_false, false_and, z01_or]
    · simp only [r157_0, r157_1, r157_2, r157_3, r157_6, r157_7, r157_8, r157_11, r157_14, r157_15, r157_17, r157_20, r157_21, r157_22, r157_25, r157_26, r157_27, r157_28, r157_29, r157_32, r157_33, r157_34, r157_35, r157_36, r157_37, r157_40, r157_41, r157_44, r157_45, k_in, k_finds, zup_g, Nat.reduceEqDiff, w1, q2, zclr_I, zclr_R, zclr_L, zclr_U, reduceIte, Int.reduceEq, Int.reduceLT, Int.reduceLE, Int.reduceNeg, not_true_eq_false, not_false_eq_true, or_true, true_or, or_false, false_or, and_true, true_and, and_false, false_and, z01_or]

theorem pr_here (L : Nat) : Pr_here (Inv L) := by
  intro a b ha hb s hs
  obtain ⟨h1, h2, h3, h4, h5, h6, h7, h8, h9, h10, h11, h12, h13, h14, h15⟩ := id hs
  have w1 : w32 (s 11 0 0 - 1) = s 11 0 0 - 1 := w32_id (by have := h4.2; omega) (by have := h4.2; omega)
  have eP := h4.1
  by_cases hc : 0 ≤ a ∧ a < s 6 0 1
  · have q1 := z01_t hc
    have q2 : z01 (0 ≤ a ∧ a ≤ s 11 0 0 - 1) = 1 := z01_t (by omega)
    have a10 : a < 10 := by have := h4.2; omega
    have b1 : (0 ≤ a ∧ a < 10) = True := eq_true (by omega)
    have b2 : (b = 0 ∨ b = 1) = True := eq_true hb
    have g3 : s 83 0 a = 0 ∨ s 83 0 a = 1 := (h12 a (by omega) (by omega)).2.2.2.2.2.2.2.2
    obtain ⟨u0, u1, u2⟩ := id h14
    have hh : (¬ zand (zshr (s 6 0 4) a) 1 = 0) ↔ s 83 0 a = 1 := by
      rw [has_bi u0 u1 (by omega) a10, u2 a (by omega)]
      constructor
      · exact fun z => z.2
      · exact fun z => ⟨by omega, z⟩
    have q3 : z01 (¬ zand (zshr (s 6 0 4) a) 1 = 0) = s 83 0 a := by
      rcases g3 with g | g
      · rw [g]; exact z01_f (by rw [hh]; omega)
      · rw [g]; exact z01_t (by rw [hh]; omega)
    by_cases e : s 83 0 a = b
    · have e1 : (s 83 0 a = b) = True := eq_true e
      refine ⟨0, s, zup s 83 0 a b, ?_, ?_, ?_, rfl, rfl⟩
      · intro m pc ls st fs Q
        simp only [r76_0, r76_1, r76_4, r76_5, r76_8, r76_11, r76_12, r76_14, r76_17, r76_18, r76_19, r76_22, r76_25, r76_26, r76_29, r76_30, r76_33, r76_34, r76_35, r76_36, r76_39, r76_40, r76_43, r76_44, r76_45, r76_46, r76_47, r76_50, r76_51, k_hasPupil, k_has, q1, q3, e1, zclr_I, zclr_R, zclr_L, zclr_U, reduceIte, Int.reduceEq, Int.reduceLT, Int.reduceLE, Int.reduceNeg, not_true_eq_false, not_false_eq_true, or_true, true_or, or_false, false_or, and_true, true_and, and_false, false_and, z01_or]
      · intro m pc ls st fs Q
        simp only [r130_0, r130_1, r130_2, r130_5, r130_8, r130_9, r130_11, r130_14, r130_15, r130_16, r130_19, r130_20, r130_21, r130_22, r130_23, r130_26, r130_27, r130_28, r130_29, r130_30, r130_31, r130_34, r130_35, r130_38, r130_39, k_isPupil, q2, b1, b2, e1, zclr_I, zclr_R, zclr_L, zclr_U, reduceIte, Int.reduceEq, Int.reduceLT, Int.reduceLE, Int.reduceNeg, not_true_eq_false, not_false_eq_true, or_true, true_or, or_false, false_or, and_true, true_and, and_false, false_and, z01_or, zup_g, Nat.reduceEqDiff, zak_40, zln_40, zak_41, zln_41, zak_42, zln_42, zak_43, zln_43, zak_44, zln_44, zak_45, zln_45, zak_46, zln_46, zak_47, zln_47, zak_48, zln_48, zak_49, zln_49, zak_50, zln_50, zak_51, zln_51, zak_52, zln_52, zak_53, zln_53, zak_54, zln_54, zak_55, zln_55, zak_73, zln_73, zak_74, zln_74, zak_75, zln_75, zak_76, zln_76, zak_77, zln_77, zak_78, zln_78, zak_79, zln_79, zak_80, zln_80, zak_81, zln_81, zak_82, zln_82, zak_83, zln_83, zak_84, zln_84, zak_85, zln_85, zak_86, zln_86, zak_87, zln_87, zak_88, zln_88, zak_89, zln_89, zak_90, zln_90, zak_91, zln_91, zak_92, zln_92, zak_93, zln_93, zak_94, zln_94, zak_95, zln_95, zak_96, zln_96, zak_97, zln_97, zak_98, zln_98, zak_99, zln_99, zak_100, zln_100, zak_101, zln_101, zak_102, zln_102, zak_103, zln_103, zak_104, zln_104, zak_105, zln_105, zak_108, zln_108, zak_109, zln_109, Nat.reduceLeDiff, w1]
      · have : zup s 83 0 a b = s := by
          funext g i k
          unfold zup
          split
          · rename_i h; obtain ⟨x1, x2, x3⟩ := h; rw [x1, x2, x3, e]
          · rfl
        rw [this]; exact hs
    · have e1 : (s 83 0 a = b) = False := eq_false e
      refine ⟨1, zup s 6 0 4 (zxor (s 6 0 4) (zshl 1 a)), zup (zup s 6 0 4 (zxor (s 6 0 4) (zshl 1 a))) 83 0 a b, ?_, ?_, ?_, rfl, rfl⟩
      · intro m pc ls st fs Q
        simp only [r76_0, r76_1, r76_4, r76_5, r76_8, r76_11, r76_12, r76_14, r76_17, r76_18, r76_19, r76_22, r76_25, r76_26, r76_29, r76_30, r76_33, r76_34, r76_35, r76_36, r76_39, r76_40, r76_43, r76_44, r76_45, r76_46, r76_47, r76_50, r76_51, k_hasPupil, k_has, q1, q3, e1, zclr_I, zclr_R, zclr_L, zclr_U, reduceIte, Int.reduceEq, Int.reduceLT, Int.reduceLE, Int.reduceNeg, not_true_eq_false, not_false_eq_true, or_true, true_or, or_false, false_or, and_true, true_and, and_false, false_and, z01_or]
      · intro m pc ls st fs Q
        simp only [r130_0, r130_1, r130_2, r130_5, r130_8, r130_9, r130_11, r130_14, r130_15, r130_16, r130_19, r130_20, r130_21, r130_22, r130_23, r130_26, r130_27, r130_28, r130_29, r130_30, r130_31, r130_34, r130_35, r130_38, r130_39, k_isPupil, q2, b1, b2, e1, zclr_I, zclr_R, zclr_L, zclr_U, reduceIte, Int.reduceEq, Int.reduceLT, Int.reduceLE, Int.reduceNeg, not_true_eq_false, not_false_eq_true, or_true, true_or, or_false, false_or, and_true, true_and, and_false, false_and, z01_or, zup_g, Nat.reduceEqDiff, zak_40, zln_40, zak_41, zln_41, zak_42, zln_42, zak_43, zln_43, zak_44, zln_44, zak_45, zln_45, zak_46, zln_46, zak_47, zln_47, zak_48, zln_48, zak_49, zln_49, zak_50, zln_50, zak_51, zln_51, zak_52, zln_52, zak_53, zln_53, zak_54, zln_54, zak_55, zln_55, zak_73, zln_73, zak_74, zln_74, zak_75, zln_75, zak_76, zln_76, zak_77, zln_77, zak_78, zln_78, zak_79, zln_79, zak_80, zln_80, zak_81, zln_81, zak_82, zln_82, zak_83, zln_83, zak_84, zln_84, zak_85, zln_85, zak_86, zln_86, zak_87, zln_87, zak_88, zln_88, zak_89, zln_89, zak_90, zln_90, zak_91, zln_91, zak_92, zln_92, zak_93, zln_93, zak_94, zln_94, zak_95, zln_95, zak_96, zln_96, zak_97, zln_97, zak_98, zln_98, zak_99, zln_99, zak_100, zln_100, zak_101, zln_101, zak_102, zln_102, zak_103, zln_103, zak_104, zln_104, zak_105, zln_105, zak_108, zln_108, zak_109, zln_109, Nat.reduceLeDiff, w1]
      · unfold Inv
        simp only [zclr_I, zclr_R, zclr_L, zclr_U, reduceIte, Int.reduceEq, Int.reduceLT, Int.reduceLE, Int.reduceNeg, not_true_eq_false, not_false_eq_true, or_true, true_or, or_false, false_or, and_true, true_and, and_false, false_and, z01_or, zup_g, Nat.reduceEqDiff]
        obtain ⟨v0, v1, v2⟩ := xor_bi u0 u1 hc.1 a10
        refine ⟨h1, h2, h3, h4, h5, h6, h7, h8, h9, h10, h11, fun i i0 i1 => ?_, h13, ⟨v0, v1, fun p p0 => ?_⟩, h15⟩
        · obtain ⟨k1, k2, k3, k4, k5, k6, k7, k8, k9⟩ := h12 i i0 i1
          refine ⟨k1, k2, k3, k4, k5, k6, k7, k8, ?_⟩
          by_cases ei : i = a
          · simp only [ei, zclr_I, zclr_R, zclr_L, zclr_U, reduceIte, Int.reduceEq, Int.reduceLT, Int.reduceLE, Int.reduceNeg, not_true_eq_false, not_false_eq_true, or_true, true_or, or_false, false_or, and_true, true_and, and_false, false_and, z01_or]; exact hb
          · simp only [ei, zclr_I, zclr_R, zclr_L, zclr_U, reduceIte, Int.reduceEq, Int.reduceLT, Int.reduceLE, Int.reduceNeg, not_true_eq_false, not_false_eq_true, or_true, true_or, or_false, false_or, and_true, true_and, and_false, false_and, z01_or]; exact k9
        · rw [v2 p p0, u2 p p0]
          by_cases ei : p = a
          · subst ei
            have lp : p < s 11 0 0 := by omega
            simp only [lp, zclr_I, zclr_R, zclr_L, zclr_U, reduceIte, Int.reduceEq, Int.reduceLT, Int.reduceLE, Int.reduceNeg, not_true_eq_false, not_false_eq_true, or_true, true_or, or_false, false_or, and_true, true_and, and_false, false_and, z01_or, iff_false, true_and]
            omega
          · simp only [ei, zclr_I, zclr_R, zclr_L, zclr_U, reduceIte, Int.reduceEq, Int.reduceLT, Int.reduceLE, Int.reduceNeg, not_true_eq_false, not_false_eq_true, or_true, true_or, or_false, false_or, and_true, true_and, and_false, false_and, z01_or, iff_true]
  · have q1 := z01_f hc
    have q2 : z01 (0 ≤ a ∧ a ≤ s 11 0 0 - 1) = 0 := z01_f (by omega)
    refine pf (-1000001) hs ?_ ?_
    · intro m pc ls st fs Q
      simp only [r76_0, r76_1, r76_4, r76_5, r76_8, r76_11, r76_12, r76_14, r76_17, r76_18, r76_19, r76_22, r76_25, r76_26, r76_29, r76_30, r76_33, r76_34, r76_35, r76_36, r76_39, r76_40, r76_43, r76_44, r76_45, r76_46, r76_47, r76_50, r76_51, k_hasPupil, k_finding, q1, zclr_I, zclr_R, zclr_L, zclr_U, reduceIte, Int.reduceEq, Int.reduceLT, Int.reduceLE, Int.reduceNeg, not_true_eq_false, not_false_eq_true, or_true, true_or, or_false, false_or, and_true, true_and, and_false, false_and, z01_or]
    · intro m pc ls st fs Q
      simp only [r130_0, r130_1, r130_2, r130_5, r130_8, r130_9, r130_11, r130_14, r130_15, r130_16, r130_19, r130_20, r130_21, r130_22, r130_23, r130_26, r130_27, r130_28, r130_29, r130_30, r130_31, r130_34, r130_35, r130_38, r130_39, k_isPupil, k_finds, q2, zclr_I, zclr_R, zclr_L, zclr_U, reduceIte, Int.reduceEq, Int.reduceLT, Int.reduceLE, Int.reduceNeg, not_true_eq_false, not_false_eq_true, or_true, true_or, or_false, false_or, and_true, true_and, and_false, false_and, z01_or, zup_g, Nat.reduceEqDiff, w1]

theorem pr_pupil (L : Nat) : Pr_pupil (Inv L) := by
  intro a b c ha hb hc0 s hs
  obtain ⟨h1, h2, h3, h4, h5, h6, h7, h8, h9, h10, h11, h12, h13, h14, h15, h16, h17⟩ := id hs
  have eP := h4.1
  have h40 := h4.2
  have eT := h5.1
  have h50 := h5.2
  by_cases hc : (0 ≤ a ∧ a < 4) ∧ (3 ≤ b ∧ b ≤ 90) ∧ 1 ≤ c ∧ c ≤ 15
  · have q1 := z01_t hc.1
    have q2 := z01_t hc.2.2
    have q3 : z01 (0 ≤ a ∧ a ≤ 3) = 1 := z01_t (by omega)
    have q4 := z01_t hc.2.1
    have p1 : (b < 3) = False := eq_false (by omega)
    have p2 : (90 < b) = False := eq_false (by omega)
    have p3 : (b ≤ 90) = True := eq_true (by omega)
    have p4 : (3 ≤ b) = True := eq_true (by omega)
    by_cases hf : s 11 0 0 = 10
    · have f1 : (s 11 0 0 = 10) = True := eq_true hf
      have f2 : (s 6 0 1 < 10) = False := eq_false (by omega)
      have f3 : (10 ≤ s 6 0 1) = True := eq_true (by omega)
      refine pf (-1000002) hs ?_ ?_ <;> intro m pc ls st fs Q
      · simp only [r72_0, r72_1, r72_2, r72_5, r72_8, r72_9, r72_10, r72_13, r72_14, r72_16, r72_19, r72_20, r72_23, r72_26, r72_27, r72_29, r72_32, r72_33, r72_34, r72_35, r72_38, r72_39, r72_40, r72_41, r72_44, r72_47, r45_0, r45_1, r45_4, r45_6, r45_8, r45_10, r45_13, r45_14, r45_15, r45_16, r45_19, r45_21, r45_22, r45_24, r45_26, r45_27, r45_30, r45_32, r45_33, r45_36, r45_38, r45_39, r45_42, r45_43, r45_44, r45_47, r45_48, r45_50, r45_51, r45_52, k_isBelow, k_isTongues, k_orFull, q1, q2, p1, p2, p3, p4, f2, f3, zclr_I, zclr_R, zclr_L, zclr_U, reduceIte, Int.reduceEq, Int.reduceLT, Int.reduceLE, Int.reduceNeg, not_true_eq_false, not_false_eq_true, or_true, true_or, or_false, false_or, and_true, true_and, and_false, false_and, z01_or]
      · simp only [r123_0, r123_1, r123_2, r123_3, r123_6, r123_9, r123_10, r123_11, r123_13, r123_16, r123_19, r123_20, r123_21, r123_23, r123_26, r123_29, r123_30, r123_32, r123_35, r123_36, r123_37, r123_40, r123_42, r123_45, r123_46, r123_48, r123_51, r123_52, r123_53, r123_56, r123_58, r123_59, r123_62, r123_64, r123_65, r123_66, r123_67, r123_70, r123_72, r123_73, r123_74, r123_75, r123_78, r123_80, r123_81, r123_82, r123_83, r123_86, r123_88, r123_89, r123_90, r123_91, r123_94, r123_96, r123_98, r123_99, r123_100, r123_103, r123_105, r123_106, r123_107, r123_108, r123_111, r123_113, r123_114, r123_115, r123_116, r123_119, r123_121, r123_122, r123_123, r123_124, r123_127, r123_129, r123_130, r123_131, r123_132, r123_133, r123_136, r123_137, r123_138, r123_141, r123_143, k_in, k_finds, q2, q3, q4, f1, zup_g, Nat.reduceEqDiff, zclr_I, zclr_R, zclr_L, zclr_U, reduceIte, Int.reduceEq, Int.reduceLT, Int.reduceLE, Int.reduceNeg, not_true_eq_false, not_false_eq_true, or_true, true_or, or_false, false_or, and_true, true_and, and_false, false_and, z01_or]
    · have f1 : (s 11 0 0 = 10) = False := eq_false hf
      have f2 : (s 6 0 1 < 10) = True := eq_true (by omega)
      have f3 : (10 ≤ s 6 0 1) = False := eq_false (by omega)
      have b1 : (0 ≤ s 6 0 1 ∧ s 6 0 1 < 10) = True := eq_true (by omega)
      have b0 : (0 ≤ s 6 0 1) = True := eq_true (by omega)
      have b2 : (0 ≤ s 11 0 0 ∧ s 11 0 0 < 10) = True := eq_true (by omega)
      have w1 : w32 (s 6 0 1 + 1) = s 6 0 1 + 1 := w32_id (by omega) (by omega)
      have w2 : w32 (s 11 0 0 + 1) = s 11 0 0 + 1 := w32_id (by omega) (by omega)
      have f4 : (s 6 0 1 = -1) = False := eq_false (by omega)
      obtain ⟨u0, u1, u2⟩ := id h14
      obtain ⟨x0, x1, x2⟩ := set_bi u0 u1 (show 0 ≤ s 6 0 1 by omega) (show s 6 0 1 < 10 by omega)
      obtain ⟨s1, c1, c2, c3, c4, c5⟩ := lp45 (s 6 0 1) (zI a) (zI b) (zI c) (by omega) (by omega) (s 6 0 3).toNat 0 (zup (zup (zup (zup s 5 (s 6 0 1) 0 a) 5 (s 6 0 1) 1 b) 5 (s 6 0 1) 2 c) 6 0 4 (zor (s 6 0 4) (zshl 1 (s 6 0 1)))) (by omega) (by simp only [zup_g, Nat.reduceEqDiff, zclr_I, zclr_R, zclr_L, zclr_U, reduceIte, Int.reduceEq, Int.reduceLT, Int.reduceLE, Int.reduceNeg, not_true_eq_false, not_false_eq_true, or_true, true_or, or_false, false_or, and_true, true_and, and_false, false_and, z01_or]; omega) (by simp only [zup_g, Nat.reduceEqDiff, zclr_I, zclr_R, zclr_L, zclr_U, reduceIte, Int.reduceEq, Int.reduceLT, Int.reduceLE, Int.reduceNeg, not_true_eq_false, not_false_eq_true, or_true, true_or, or_false, false_or, and_true, true_and, and_false, false_and, z01_or]; omega)
      simp only [zup_g, Nat.reduceEqDiff, zclr_I, zclr_R, zclr_L, zclr_U, reduceIte, Int.reduceEq, Int.reduceLT, Int.reduceLE, Int.reduceNeg, not_true_eq_false, not_false_eq_true, or_true, true_or, or_false, false_or, and_true, true_and, and_false, false_and, z01_or] at c1 c2 c3 c4 c5
      have g6 : s1 6 0 1 = s 6 0 1 := by rw [c2 6 (by omega)]; simp only [zup_g, Nat.reduceEqDiff, zclr_I, zclr_R, zclr_L, zclr_U, reduceIte, Int.reduceEq, Int.reduceLT, Int.reduceLE, Int.reduceNeg, not_true_eq_false, not_false_eq_true, or_true, true_or, or_false, false_or, and_true, true_and, and_false, false_and, z01_or]
      refine ⟨s 11 0 0, zup s1 6 0 1 (s 6 0 1 + 1), zup (zup (zup (zup (zup (zup (zup (zup (zup (zup (zup s1 6 0 1 (s 6 0 1 + 1)) 73 0 (s 11 0 0) a) 74 0 (s 11 0 0) b) 75 0 (s 11 0 0) c) 76 0 (s 11 0 0) 0) 77 0 (s 11 0 0) 9) 78 0 (s 11 0 0) (-1)) 79 0 (s 11 0 0) (-1)) 80 0 (s 11 0 0) (-1)) 83 0 (s 11 0 0) 1) 11 0 0 (s 11 0 0 + 1), ?_, ?_, ?_, ?_, ?_⟩
      · intro m pc ls st fs Q
        simp only [r72_0, r72_1, r72_2, r72_5, r72_8, r72_9, r72_10, r72_13, r72_14, r72_16, r72_19, r72_20, r72_23, r72_26, r72_27, r72_29, r72_32, r72_33, r72_34, r72_35, r72_38, r72_39, r72_40, r72_41, r72_44, r72_47, r45_0, r45_1, r45_4, r45_6, r45_8, r45_10, r45_13, r45_14, r45_15, r45_16, r45_19, r45_21, r45_22, r45_24, r45_26, r45_27, r45_30, r45_32, r45_33, r45_36, r45_38, r45_39, r45_42, r45_43, r45_44, r45_47, r45_48, r45_50, r45_51, r45_52, r45_55, r45_56, k_isBelow, k_isTongues, q1, q2, p1, p2, p3, p4, f2, f3, b0, b1, zak_40, zln_40, zak_41, zln_41, zak_42, zln_42, zak_43, zln_43, zak_44, zln_44, zak_45, zln_45, zak_46, zln_46, zak_47, zln_47, zak_48, zln_48, zak_49, zln_49, zak_50, zln_50, zak_51, zln_51, zak_52, zln_52, zak_53, zln_53, zak_54, zln_54, zak_55, zln_55, zak_73, zln_73, zak_74, zln_74, zak_75, zln_75, zak_76, zln_76, zak_77, zln_77, zak_78, zln_78, zak_79, zln_79, zak_80, zln_80, zak_81, zln_81, zak_82, zln_82, zak_83, zln_83, zak_84, zln_84, zak_85, zln_85, zak_86, zln_86, zak_87, zln_87, zak_88, zln_88, zak_89, zln_89, zak_90, zln_90, zak_91, zln_91, zak_92, zln_92, zak_93, zln_93, zak_94, zln_94, zak_95, zln_95, zak_96, zln_96, zak_97, zln_97, zak_98, zln_98, zak_99, zln_99, zak_100, zln_100, zak_101, zln_101, zak_102, zln_102, zak_103, zln_103, zak_104, zln_104, zak_105, zln_105, zak_108, zln_108, zak_109, zln_109, Nat.reduceLeDiff, zup_g, Nat.reduceEqDiff, zclr_I, zclr_R, zclr_L, zclr_U, reduceIte, Int.reduceEq, Int.reduceLT, Int.reduceLE, Int.reduceNeg, not_true_eq_false, not_false_eq_true, or_true, true_or, or_false, false_or, and_true, true_and, and_false, false_and, z01_or]
        rw [c1]
        simp only [r72_0, r72_1, r72_2, r72_5, r72_8, r72_9, r72_10, r72_13, r72_14, r72_16, r72_19, r72_20, r72_23, r72_26, r72_27, r72_29, r72_32, r72_33, r72_34, r72_35, r72_38, r72_39, r72_40, r72_41, r72_44, r72_47, r45_86, r45_87, r45_88, r45_91, r45_92, r45_93, r45_96, r45_98, k_orFull, g6, w1, f4, zup_g, Nat.reduceEqDiff, zclr_I, zclr_R, zclr_L, zclr_U, reduceIte, Int.reduceEq, Int.reduceLT, Int.reduceLE, Int.reduceNeg, not_true_eq_false, not_false_eq_true, or_true, true_or, or_false, false_or, and_true, true_and, and_false, false_and, z01_or]
        rw [eP]
      · intro m pc ls st fs Q
        have g11 : s1 11 = s 11 := by rw [c2 11 (by omega)]; simp only [zup_g, Nat.reduceEqDiff, zclr_I, zclr_R, zclr_L, zclr_U, reduceIte, Int.reduceEq, Int.reduceLT, Int.reduceLE, Int.reduceNeg, not_true_eq_false, not_false_eq_true, or_true, true_or, or_false, false_or, and_true, true_and, and_false, false_and, z01_or]
        simp only [r123_0, r123_1, r123_2, r123_3, r123_6, r123_9, r123_10, r123_11, r123_13, r123_16, r123_19, r123_20, r123_21, r123_23, r123_26, r123_29, r123_30, r123_32, r123_35, r123_36, r123_37, r123_40, r123_42, r123_45, r123_46, r123_48, r123_51, r123_52, r123_53, r123_56, r123_58, r123_59, r123_62, r123_64, r123_65, r123_66, r123_67, r123_70, r123_72, r123_73, r123_74, r123_75, r123_78, r123_80, r123_81, r123_82, r123_83, r123_86, r123_88, r123_89, r123_90, r123_91, r123_94, r123_96, r123_98, r123_99, r123_100, r123_103, r123_105, r123_106, r123_107, r123_108, r123_111, r123_113, r123_114, r123_115, r123_116, r123_119, r123_121, r123_122, r123_123, r123_124, r123_127, r123_129, r123_130, r123_131, r123_132, r123_133, r123_136, r123_137, r123_138, r123_141, r123_143, k_in, q2, q3, q4, f1, b2, w2, g11, zak_40, zln_40, zak_41, zln_41, zak_42, zln_42, zak_43, zln_43, zak_44, zln_44, zak_45, zln_45, zak_46, zln_46, zak_47, zln_47, zak_48, zln_48, zak_49, zln_49, zak_50, zln_50, zak_51, zln_51, zak_52, zln_52, zak_53, zln_53, zak_54, zln_54, zak_55, zln_55, zak_73, zln_73, zak_74, zln_74, zak_75, zln_75, zak_76, zln_76, zak_77, zln_77, zak_78, zln_78, zak_79, zln_79, zak_80, zln_80, zak_81, zln_81, zak_82, zln_82, zak_83, zln_83, zak_84, zln_84, zak_85, zln_85, zak_86, zln_86, zak_87, zln_87, zak_88, zln_88, zak_89, zln_89, zak_90, zln_90, zak_91, zln_91, zak_92, zln_92, zak_93, zln_93, zak_94, zln_94, zak_95, zln_95, zak_96, zln_96, zak_97, zln_97, zak_98, zln_98, zak_99, zln_99, zak_100, zln_100, zak_101, zln_101, zak_102, zln_102, zak_103, zln_103, zak_104, zln_104, zak_105, zln_105, zak_108, zln_108, zak_109, zln_109, Nat.reduceLeDiff, zup_g, Nat.reduceEqDiff, zclr_I, zclr_R, zclr_L, zclr_U, reduceIte, Int.reduceEq, Int.reduceLT, Int.reduceLE, Int.reduceNeg, not_true_eq_false, not_false_eq_true, or_true, true_or, or_false, false_or, and_true, true_and, and_false, false_and, z01_or]
      · unfold Inv
        simp only [zclr_I, zclr_R, zclr_L, zclr_U, reduceIte, Int.reduceEq, Int.reduceLT, Int.reduceLE, Int.reduceNeg, not_true_eq_false, not_false_eq_true, or_true, true_or, or_false, false_or, and_true, true_and, and_false, false_and, z01_or, zup_g, Nat.reduceEqDiff, c2]
        refine ⟨h1, h2, h3, ⟨by omega, by omega, by omega⟩, h5, h6, h7, h8, h9, h10, h11, fun i i0 i1 => ?_, fun i i0 i1 => ?_, ⟨x0, x1, fun p p0 => ?_⟩, fun t t0 t1 => ?_, fun t t0 t1 => ?_, h17⟩
        · by_cases e : i = s 11 0 0
          · subst e
            obtain ⟨g1, g2, g3, g4, g5, g6⟩ := h13 (s 11 0 0) (by omega) (by omega)
            rw [eP]
            simp only [reduceIte, Int.reduceEq, and_true, and_false]
            refine ⟨⟨trivial, by omega, by omega⟩, ⟨trivial, by omega, by omega⟩, ⟨trivial, by omega, by omega⟩, ⟨g1, g2, by omega, by omega, by omega⟩, ⟨g3, by omega, by omega⟩, by omega, ⟨g5, by omega, by omega⟩, ⟨by omega, by omega, by omega, fun j j0 j1 => by omega⟩, by simp⟩
          · have e2 : ¬ i = s 6 0 1 := by omega
            simp only [e, e2, zclr_I, zclr_R, zclr_L, zclr_U, reduceIte, Int.reduceEq, Int.reduceLT, Int.reduceLE, Int.reduceNeg, not_true_eq_false, not_false_eq_true, or_true, true_or, or_false, false_or, and_true, true_and, and_false, false_and, z01_or]
            obtain ⟨k1, k2, k3, k4, k5, k6⟩ := h12 i i0 (by omega)
            exact ⟨k1, k2, k3, k4, ⟨k5.1, k5.2.1, by omega⟩, k6⟩
        · have e2 : ¬ i = s 6 0 1 := by omega
          simp only [e2, zclr_I, zclr_R, zclr_L, zclr_U, reduceIte, Int.reduceEq, Int.reduceLT, Int.reduceLE, Int.reduceNeg, not_true_eq_false, not_false_eq_true, or_true, true_or, or_false, false_or, and_true, true_and, and_false, false_and, z01_or]
          exact h13 i (by omega) i1
        · rw [x2 p p0, u2 p p0]
          by_cases e : p = s 11 0 0
          · subst e
            simp only [zclr_I, zclr_R, zclr_L, zclr_U, reduceIte, Int.reduceEq, Int.reduceLT, Int.reduceLE, Int.reduceNeg, not_true_eq_false, not_false_eq_true, or_true, true_or, or_false, false_or, and_true, true_and, and_false, false_and, z01_or]
            omega
          · have e2 : ¬ p = s 6 0 1 := by omega
            simp only [e, e2, zclr_I, zclr_R, zclr_L, zclr_U, reduceIte, Int.reduceEq, Int.reduceLT, Int.reduceLE, Int.reduceNeg, not_true_eq_false, not_false_eq_true, or_true, true_or, or_false, false_or, and_true, true_and, and_false, false_and, z01_or]
            omega
        · obtain ⟨g1, g2, g3, g4, ⟨g5, g5b, g5c⟩, g6, g6b, g6c⟩ := h15 t t0 t1
          have l5 := c5 t t0 (by omega)
          obtain ⟨y0, y1, y2⟩ := acq_bi (a := s 8 t 1) (b := c) g5 g5b (show 0 ≤ s 6 0 1 by omega) (show s 6 0 1 < 10 by omega)
          rw [c3 t 0 (by omega), c3 t 1 (by omega), c3 t 2 (by omega), c3 t 4 (by omega), c3 t 5 (by omega), l5]
          refine ⟨g1, g2, g3, g4, ⟨y0, y1, fun p p0 => ?_⟩, g6, g6b, fun p p0 => ?_⟩
          · rw [y2 p p0, g5c p p0]
            by_cases e : p = s 11 0 0
            · subst e
              simp only [zclr_I, zclr_R, zclr_L, zclr_U, reduceIte, Int.reduceEq, Int.reduceLT, Int.reduceLE, Int.reduceNeg, not_true_eq_false, not_false_eq_true, or_true, true_or, or_false, false_or, and_true, true_and, and_false, false_and, z01_or]
              rw [g2.1]
              constructor
              · rintro (z | z)
                · omega
                · exact ⟨by omega, z.2⟩
              · rintro ⟨z1, z2⟩
                exact Or.inr ⟨by omega, z2⟩
            · have e2 : ¬ p = s 6 0 1 := by omega
              simp only [e, e2, zclr_I, zclr_R, zclr_L, zclr_U, reduceIte, Int.reduceEq, Int.reduceLT, Int.reduceLE, Int.reduceNeg, not_true_eq_false, not_false_eq_true, or_true, true_or, or_false, false_or, and_true, true_and, and_false, false_and, z01_or]
              constructor
              · rintro ⟨z1, z2⟩; exact ⟨by omega, z2⟩
              · rintro ⟨z1, z2⟩; exact ⟨by omega, z2⟩
          · rw [g6c p p0]
            by_cases e : p = s 11 0 0
            · subst e
              simp only [zclr_I, zclr_R, zclr_L, zclr_U, reduceIte, Int.reduceEq, Int.reduceLT, Int.reduceLE, Int.reduceNeg, not_true_eq_false, not_false_eq_true, or_true, true_or, or_false, false_or, and_true, true_and, and_false, false_and, z01_or]
              omega
            · simp only [e, zclr_I, zclr_R, zclr_L, zclr_U, reduceIte, Int.reduceEq, Int.reduceLT, Int.reduceLE, Int.reduceNeg, not_true_eq_false, not_false_eq_true, or_true, true_or, or_false, false_or, and_true, true_and, and_false, false_and, z01_or]
              omega
        · rw [c3 t 2 (by omega), c3 t 4 (by omega), c3 t 5 (by omega), c4 t (by omega)]
          exact h16 t t0 t1
      · rw [zup_ng (by omega), c2 110 (by omega)]; simp only [zup_g, Nat.reduceEqDiff, zclr_I, zclr_R, zclr_L, zclr_U, reduceIte, Int.reduceEq, Int.reduceLT, Int.reduceLE, Int.reduceNeg, not_true_eq_false, not_false_eq_true, or_true, true_or, or_false, false_or, and_true, true_and, and_false, false_and, z01_or]
      · rw [zup_ng (by omega), c2 111 (by omega)]; simp only [zup_g, Nat.reduceEqDiff, zclr_I, zclr_R, zclr_L, zclr_U, reduceIte, Int.reduceEq, Int.reduceLT, Int.reduceLE, Int.reduceNeg, not_true_eq_false, not_false_eq_true, or_true, true_or, or_false, false_or, and_true, true_and, and_false, false_and, z01_or]
  · refine pf (-1000001) hs ?_ ?_ <;> intro m pc ls st fs Q
    · by_cases c1 : 0 ≤ a ∧ a < 4
      · have q1 := z01_t c1
        by_cases c2 : b < 3
        · simp only [r72_0, r72_1, r72_2, r72_5, r72_8, r72_9, r72_10, r72_13, r72_14, r72_16, r72_19, r72_20, r72_23, r72_26, r72_27, r72_29, r72_32, r72_33, r72_34, r72_35, r72_38, r72_39, r72_40, r72_41, r72_44, r72_47, k_isBelow, k_isTongues, k_finding, q1, c2, zclr_I, zclr_R, zclr_L, zclr_U, reduceIte, Int.reduceEq, Int.reduceLT, Int.reduceLE, Int.reduceNeg, not_true_eq_false, not_false_eq_true, or_true, true_or, or_false, false_or, and_true, true_and, and_false, false_and, z01_or]
        · by_cases c3 : 90 < b
          · simp only [r72_0, r72_1, r72_2, r72_5, r72_8, r72_9, r72_10, r72_13, r72_14, r72_16, r72_19, r72_20, r72_23, r72_26, r72_27, r72_29, r72_32, r72_33, r72_34, r72_35, r72_38, r72_39, r72_40, r72_41, r72_44, r72_47, k_isBelow, k_isTongues, k_finding, q1, c2, c3, zclr_I, zclr_R, zclr_L, zclr_U, reduceIte, Int.reduceEq, Int.reduceLT, Int.reduceLE, Int.reduceNeg, not_true_eq_false, not_false_eq_true, or_true, true_or, or_false, false_or, and_true, true_and, and_false, false_and, z01_or]
          · have q2 : z01 (1 ≤ c ∧ c ≤ 15) = 0 := z01_f (fun z => hc ⟨c1, by omega, z⟩)
            simp only [r72_0, r72_1, r72_2, r72_5, r72_8, r72_9, r72_10, r72_13, r72_14, r72_16, r72_19, r72_20, r72_23, r72_26, r72_27, r72_29, r72_32, r72_33, r72_34, r72_35, r72_38, r72_39, r72_40, r72_41, r72_44, r72_47, k_isBelow, k_isTongues, k_finding, q1, q2, c2, c3, zclr_I, zclr_R, zclr_L, zclr_U, reduceIte, Int.reduceEq, Int.reduceLT, Int.reduceLE, Int.reduceNeg, not_true_eq_false, not_false_eq_true, or_true, true_or, or_false, false_or, and_true, true_and, and_false, false_and, z01_or]
      · have q1 := z01_f c1
        simp only [r72_0, r72_1, r72_2, r72_5, r72_8, r72_9, r72_10, r72_13, r72_14, r72_16, r72_19, r72_20, r72_23, r72_26, r72_27, r72_29, r72_32, r72_33, r72_34, r72_35, r72_38, r72_39, r72_40, r72_41, r72_44, r72_47, k_isBelow, k_isTongues, k_finding, q1, zclr_I, zclr_R, zclr_L, zclr_U, reduceIte, Int.reduceEq, Int.reduceLT, Int.reduceLE, Int.reduceNeg, not_true_eq_false, not_false_eq_true, or_true, true_or, or_false, false_or, and_true, true_and, and_false, false_and, z01_or]
    · by_cases c1 : 0 ≤ a ∧ a ≤ 3
      · have q1 := z01_t c1
        by_cases c2 : 3 ≤ b ∧ b ≤ 90
        · have q3 := z01_t c2
          have q2 : z01 (1 ≤ c ∧ c ≤ 15) = 0 := z01_f (fun z => hc ⟨by omega, c2, z⟩)
          simp only [r123_0, r123_1, r123_2, r123_3, r123_6, r123_9, r123_10, r123_11, r123_13, r123_16, r123_19, r123_20, r123_21, r123_23, r123_26, r123_29, r123_30, r123_32, r123_35, r123_36, r123_37, r123_40, r123_42, r123_45, r123_46, r123_48, r123_51, r123_52, r123_53, r123_56, r123_58, r123_59, r123_62, r123_64, r123_65, r123_66, r123_67, r123_70, r123_72, r123_73, r123_74, r123_75, r123_78, r123_80, r123_81, r123_82, r123_83, r123_86, r123_88, r123_89, r123_90, r123_91, r123_94, r123_96, r123_98, r123_99, r123_100, r123_103, r123_105, r123_106, r123_107, r123_108, r123_111, r123_113, r123_114, r123_115, r123_116, r123_119, r123_121, r123_122, r123_123, r123_124, r123_127, r123_129, r123_130, r123_131, r123_132, r123_133, r123_136, r123_137, r123_138, r123_141, r123_143, k_in, k_finds, q1, q2, q3, zup_g, Nat.reduceEqDiff, zclr_I, zclr_R, zclr_L, zclr_U, reduceIte, Int.reduceEq, Int.reduceLT, Int.reduceLE, Int.reduceNeg, not_true_eq_false, not_false_eq_true, or_true, true_or, or_false, false_or, and_true, true_and, and_false, false_and, z01_or]
        · have q3 := z01_f c2
          simp only [r123_0, r123_1, r123_2, r123_3, r123_6, r123_9, r123_10, r123_11, r123_13, r123_16, r123_19, r123_20, r123_21, r123_23, r123_26, r123_29, r123_30, r123_32, r123_35, r123_36, r123_37, r123_40, r123_42, r123_45, r123_46, r123_48, r123_51, r123_52, r123_53, r123_56, r123_58, r123_59, r123_62, r123_64, r123_65, r123_66, r123_67, r123_70, r123_72, r123_73, r123_74, r123_75, r123_78, r123_80, r123_81, r123_82, r123_83, r123_86, r123_88, r123_89, r123_90, r123_91, r123_94, r123_96, r123_98, r123_99, r123_100, r123_103, r123_105, r123_106, r123_107, r123_108, r123_111, r123_113, r123_114, r123_115, r123_116, r123_119, r123_121, r123_122, r123_123, r123_124, r123_127, r123_129, r123_130, r123_131, r123_132, r123_133, r123_136, r123_137, r123_138, r123_141, r123_143, k_in, k_finds, q1, q3, zup_g, Nat.reduceEqDiff, zclr_I, zclr_R, zclr_L, zclr_U, reduceIte, Int.reduceEq, Int.reduceLT, Int.reduceLE, Int.reduceNeg, not_true_eq_false, not_false_eq_true, or_true, true_or, or_false, false_or, and_true, true_and, and_false, false_and, z01_or]
      · have q1 := z01_f c1
        simp only [r123_0, r123_1, r123_2, r123_3, r123_6, r123_9, r123_10, r123_11, r123_13, r123_16, r123_19, r123_20, r123_21, r123_23, r123_26, r123_29, r123_30, r123_32, r123_35, r123_36, r123_37, r123_40, r123_42, r123_45, r123_46, r123_48, r123_51, r123_52, r123_53, r123_56, r123_58, r123_59, r123_62, r123_64, r123_65, r123_66, r123_67, r123_70, r123_72, r123_73, r123_74, r123_75, r123_78, r123_80, r123_81, r123_82, r123_83, r123_86, r123_88, r123_89, r123_90, r123_91, r123_94, r123_96, r123_98, r123_99, r123_100, r123_103, r123_105, r123_106, r123_107, r123_108, r123_111, r123_113, r123_114, r123_115, r123_116, r123_119, r123_121, r123_122, r123_123, r123_124, r123_127, r123_129, r123_130, r123_131, r123_132, r123_133, r123_136, r123_137, r123_138, r123_141, r123_143, k_in, k_finds, q1, zup_g, Nat.reduceEqDiff, zclr_I, zclr_R, zclr_L, zclr_U, reduceIte, Int.reduceEq, Int.reduceLT, Int.reduceLE, Int.reduceNeg, not_true_eq_false, not_false_eq_true, or_true, true_or, or_false, false_or, and_true, true_and, and_false, false_and, z01_or]

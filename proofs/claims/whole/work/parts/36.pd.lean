section ADD2
variable {m pc : Nat} {ls st : List zV} {fs : List zFr} {s : zS} {Q : List zV → zS → Prop}
theorem k_addSlope (a b c : Int) (h0 : 0 ≤ s 3 0 3) : Ev ((20, 0, [zR 3 0, zI a, zI b, zI c, zU], []) :: (m, pc, ls, st) :: fs) s Q = if 8 ≤ s 3 0 3 then Ev ((m, pc, ls, zI (-1) :: st) :: fs) s Q else Ev ((m, pc, ls, zI (s 3 0 3) :: st) :: fs) (zup (zup (zup (zup s 12 (s 3 0 3) 0 a) 12 (s 3 0 3) 1 b) 12 (s 3 0 3) 2 c) 3 0 3 (w32 (s 3 0 3 + 1))) Q := by
  by_cases h : 8 ≤ s 3 0 3
  · have h2 : (s 3 0 3 < 8) = False := eq_false (by omega)
    simp only [r20_0, r20_1, r20_4, r20_6, r20_8, r20_10, r20_13, r20_14, r20_15, r20_16, r20_19, r20_21, r20_22, r20_23, r20_26, r20_27, r20_30, r20_32, r20_33, r20_34, r20_37, r20_38, r20_41, r20_43, r20_44, r20_45, r20_48, r20_49, r20_50, r20_53, r20_54, r20_55, r20_58, r20_60, h, h2, zclr_I, zclr_R, zclr_L, zclr_U, reduceIte, Int.reduceEq, Int.reduceLT, Int.reduceLE, Int.reduceNeg, not_true_eq_false, not_false_eq_true, or_true, true_or, or_false, false_or, and_true, true_and, and_false, false_and, z01_or]
  · have b1 : (0 ≤ s 3 0 3 ∧ s 3 0 3 < 8) = True := eq_true (by omega)
    have h2 : (s 3 0 3 < 8) = True := eq_true (by omega)
    simp only [r20_0, r20_1, r20_4, r20_6, r20_8, r20_10, r20_13, r20_14, r20_15, r20_16, r20_19, r20_21, r20_22, r20_23, r20_26, r20_27, r20_30, r20_32, r20_33, r20_34, r20_37, r20_38, r20_41, r20_43, r20_44, r20_45, r20_48, r20_49, r20_50, r20_53, r20_54, r20_55, r20_58, r20_60, h, zclr_I, zclr_R, zclr_L, zclr_U, reduceIte, Int.reduceEq, Int.reduceLT, Int.reduceLE, Int.reduceNeg, not_true_eq_false, not_false_eq_true, or_true, true_or, or_false, false_or, and_true, true_and, and_false, false_and, z01_or, zak_40, zln_40, zak_41, zln_41, zak_42, zln_42, zak_43, zln_43, zak_44, zln_44, zak_45, zln_45, zak_46, zln_46, zak_47, zln_47, zak_48, zln_48, zak_49, zln_49, zak_50, zln_50, zak_51, zln_51, zak_52, zln_52, zak_53, zln_53, zak_54, zln_54, zak_55, zln_55, zak_73, zln_73, zak_74, zln_74, zak_75, zln_75, zak_76, zln_76, zak_77, zln_77, zak_78, zln_78, zak_79, zln_79, zak_80, zln_80, zak_81, zln_81, zak_82, zln_82, zak_83, zln_83, zak_84, zln_84, zak_85, zln_85, zak_86, zln_86, zak_87, zln_87, zak_88, zln_88, zak_89, zln_89, zak_90, zln_90, zak_91, zln_91, zak_92, zln_92, zak_93, zln_93, zak_94, zln_94, zak_95, zln_95, zak_96, zln_96, zak_97, zln_97, zak_98, zln_98, zak_99, zln_99, zak_100, zln_100, zak_101, zln_101, zak_102, zln_102, zak_103, zln_103, zak_104, zln_104, zak_105, zln_105, zak_108, zln_108, zak_109, zln_109, Nat.reduceLeDiff, zup_g, Nat.reduceEqDiff, b1]
    simp only [h2, reduceIte]
theorem k_addAsk (a b c d : Int) (h0 : 0 ≤ s 1 0 1) : Ev ((6, 0, [zR 1 0, zI a, zI b, zI c, zI d, zU, zU], []) :: (m, pc, ls, st) :: fs) s Q = if 10 ≤ s 1 0 1 then Ev ((m, pc, ls, zI (-1) :: st) :: fs) s Q else Ev ((m, pc, ls, zI (s 1 0 1) :: st) :: fs) (zup (zup (zup (zup (zup s 0 (s 1 0 1) 0 a) 0 (s 1 0 1) 1 b) 0 (s 1 0 1) 2 c) 0 (s 1 0 1) 3 d) 1 0 1 (w32 (s 1 0 1 + 1))) Q := by
  by_cases h : 10 ≤ s 1 0 1
  · have h2 : (s 1 0 1 < 10) = False := eq_false (by omega)
    simp only [r6_0, r6_1, r6_4, r6_6, r6_8, r6_10, r6_13, r6_14, r6_15, r6_16, r6_19, r6_21, r6_22, r6_24, r6_26, r6_27, r6_30, r6_32, r6_33, r6_36, r6_38, r6_39, r6_42, r6_44, r6_46, r6_49, r6_50, r6_51, r6_54, r6_55, r6_56, r6_59, r6_61, h, h2, zclr_I, zclr_R, zclr_L, zclr_U, reduceIte, Int.reduceEq, Int.reduceLT, Int.reduceLE, Int.reduceNeg, not_true_eq_false, not_false_eq_true, or_true, true_or, or_false, false_or, and_true, true_and, and_false, false_and, z01_or]
  · have b1 : (0 ≤ s 1 0 1 ∧ s 1 0 1 < 10) = True := eq_true (by omega)
    have h2 : (s 1 0 1 < 10) = True := eq_true (by omega)
    simp only [r6_0, r6_1, r6_4, r6_6, r6_8, r6_10, r6_13, r6_14, r6_15, r6_16, r6_19, r6_21, r6_22, r6_24, r6_26, r6_27, r6_30, r6_32, r6_33, r6_36, r6_38, r6_39, r6_42, r6_44, r6_46, r6_49, r6_50, r6_51, r6_54, r6_55, r6_56, r6_59, r6_61, h, zclr_I, zclr_R, zclr_L, zclr_U, reduceIte, Int.reduceEq, Int.reduceLT, Int.reduceLE, Int.reduceNeg, not_true_eq_false, not_false_eq_true, or_true, true_or, or_false, false_or, and_true, true_and, and_false, false_and, z01_or, zak_40, zln_40, zak_41, zln_41, zak_42, zln_42, zak_43, zln_43, zak_44, zln_44, zak_45, zln_45, zak_46, zln_46, zak_47, zln_47, zak_48, zln_48, zak_49, zln_49, zak_50, zln_50, zak_51, zln_51, zak_52, zln_52, zak_53, zln_53, zak_54, zln_54, zak_55, zln_55, zak_73, zln_73, zak_74, zln_74, zak_75, zln_75, zak_76, zln_76, zak_77, zln_77, zak_78, zln_78, zak_79, zln_79, zak_80, zln_80, zak_81, zln_81, zak_82, zln_82, zak_83, zln_83, zak_84, zln_84, zak_85, zln_85, zak_86, zln_86, zak_87, zln_87, zak_88, zln_88, zak_89, zln_89, zak_90, zln_90, zak_91, zln_91, zak_92, zln_92, zak_93, zln_93, zak_94, zln_94, zak_95, zln_95, zak_96, zln_96, zak_97, zln_97, zak_98, zln_98, zak_99, zln_99, zak_100, zln_100, zak_101, zln_101, zak_102, zln_102, zak_103, zln_103, zak_104, zln_104, zak_105, zln_105, zak_108, zln_108, zak_109, zln_109, Nat.reduceLeDiff, zup_g, Nat.reduceEqDiff, b1]
    simp only [h2, reduceIte]
end ADD2
theorem pr_slope (L : Nat) : Pr_slope (Inv L) := by
  intro a b c ha hb hc0 s hs
  obtain ⟨h1, h2, h3, h4, h5, h6, h7, h8, h9, h10, h11, h12, h13, h14, h15, h16, h17, h18, h19⟩ := id hs
  have eT := h7.1
  have h60 := h7.2
  have kL := fun (m pc : Nat) (ls st : List zV) (fs : List zFr) (Q : List zV → zS → Prop) => k_addSlope (m := m) (pc := pc) (ls := ls) (st := st) (fs := fs) (Q := Q) (s := s) a b c (by omega)
  by_cases hc : (0 ≤ a ∧ a < 6) ∧ (0 ≤ b ∧ b < 6) ∧ ¬ a = b
  · have q1 := z01_t hc
    have q2 : z01 (0 ≤ a ∧ a ≤ 5) = 1 := z01_t (by omega)
    have q3 : z01 (0 ≤ b ∧ b ≤ 5) = 1 := z01_t (by omega)
    have q4 : (a = b) = False := eq_false hc.2.2
    by_cases hk : 0 ≤ c ∧ c ≤ 9
    · have q5 := z01_t hk
      have p1 : (c < 0) = False := eq_false (by omega)
      have p2 : (c ≤ 9) = True := eq_true (by omega)
      have p3 : (9 < c) = False := eq_false (by omega)
      by_cases hf : s 11 0 3 = 8
      · have e1 : (8 ≤ s 3 0 3) = True := eq_true (by omega)
        refine pf (-1000002) hs ?_ ?_ <;> intro m pc ls st fs Q
        · simp only [r89_0, r89_1, r89_2, r89_5, r89_8, r89_9, r89_12, r89_13, r89_15, r89_18, r89_19, r89_21, r89_24, r89_25, r89_26, r89_27, r89_30, r89_31, r89_32, r89_33, r89_36, r89_39, k_isWay, kL, k_orFull, q1, e1, p1, p2, p3, zclr_I, zclr_R, zclr_L, zclr_U, reduceIte, Int.reduceEq, Int.reduceLT, Int.reduceLE, Int.reduceNeg, not_true_eq_false, not_false_eq_true, or_true, true_or, or_false, false_or, and_true, true_and, and_false, false_and, z01_or]
        · simp only [r156_0, r156_1, r156_4, r156_7, r156_8, r156_11, r156_14, r156_15, r156_16, r156_19, r156_20, r156_21, r156_23, r156_26, r156_29, r156_30, r156_32, r156_35, r156_36, r156_37, r156_40, r156_42, r156_45, r156_46, r156_48, r156_51, r156_52, r156_53, r156_56, r156_57, r156_60, r156_61, r156_62, r156_63, r156_66, r156_67, r156_70, r156_71, r156_72, r156_73, r156_76, r156_77, r156_80, r156_81, r156_82, r156_83, r156_84, r156_87, r156_88, r156_89, r156_92, r156_93, r156_96, r156_97, r156_98, k_isPlace, k_in, k_finds, zup_g, Nat.reduceEqDiff, q2, q3, q4, q5, hf, zclr_I, zclr_R, zclr_L, zclr_U, reduceIte, Int.reduceEq, Int.reduceLT, Int.reduceLE, Int.reduceNeg, not_true_eq_false, not_false_eq_true, or_true, true_or, or_false, false_or, and_true, true_and, and_false, false_and, z01_or]
      · have e1 : (8 ≤ s 3 0 3) = False := eq_false (by omega)
        have e2 : (s 3 0 3 = -1) = False := eq_false (by omega)
        have e3 : (s 11 0 3 = 8) = False := eq_false hf
        have w1 : w32 (s 11 0 3 + 1) = s 11 0 3 + 1 := w32_id (by omega) (by omega)
        have w2 : w32 (s 11 0 3 + 1 - 1) = s 11 0 3 := by rw [w32_id (by omega) (by omega)]; omega
        have w3 : w32 (s 3 0 3 + 1) = s 11 0 3 + 1 := by rw [eT]; exact w1
        have b1 : (0 ≤ s 11 0 3 ∧ s 11 0 3 < 8) = True := eq_true (by omega)
        refine ⟨s 11 0 3, zup (zup (zup (zup s 12 (s 11 0 3) 0 a) 12 (s 11 0 3) 1 b) 12 (s 11 0 3) 2 c) 3 0 3 (s 11 0 3 + 1), zup (zup (zup (zup (zup (zup (zup (zup s 12 (s 11 0 3) 0 a) 12 (s 11 0 3) 1 b) 12 (s 11 0 3) 2 c) 3 0 3 (s 11 0 3 + 1)) 90 0 (s 11 0 3) a) 91 0 (s 11 0 3) b) 92 0 (s 11 0 3) c) 11 0 3 (s 11 0 3 + 1), ?_, ?_, ?_, rfl, rfl⟩
        · intro m pc ls st fs Q
          simp only [r89_0, r89_1, r89_2, r89_5, r89_8, r89_9, r89_12, r89_13, r89_15, r89_18, r89_19, r89_21, r89_24, r89_25, r89_26, r89_27, r89_30, r89_31, r89_32, r89_33, r89_36, r89_39, k_isWay, kL, k_orFull, q1, e1, e2, w3, p1, p2, p3, zclr_I, zclr_R, zclr_L, zclr_U, reduceIte, Int.reduceEq, Int.reduceLT, Int.reduceLE, Int.reduceNeg, not_true_eq_false, not_false_eq_true, or_true, true_or, or_false, false_or, and_true, true_and, and_false, false_and, z01_or]
          rw [eT]
        · intro m pc ls st fs Q
          simp only [r156_0, r156_1, r156_4, r156_7, r156_8, r156_11, r156_14, r156_15, r156_16, r156_19, r156_20, r156_21, r156_23, r156_26, r156_29, r156_30, r156_32, r156_35, r156_36, r156_37, r156_40, r156_42, r156_45, r156_46, r156_48, r156_51, r156_52, r156_53, r156_56, r156_57, r156_60, r156_61, r156_62, r156_63, r156_66, r156_67, r156_70, r156_71, r156_72, r156_73, r156_76, r156_77, r156_80, r156_81, r156_82, r156_83, r156_84, r156_87, r156_88, r156_89, r156_92, r156_93, r156_96, r156_97, r156_98, k_isPlace, k_in, zup_g, Nat.reduceEqDiff, q2, q3, q4, q5, e3, b1, w1, w2, zclr_I, zclr_R, zclr_L, zclr_U, reduceIte, Int.reduceEq, Int.reduceLT, Int.reduceLE, Int.reduceNeg, not_true_eq_false, not_false_eq_true, or_true, true_or, or_false, false_or, and_true, true_and, and_false, false_and, z01_or, zak_40, zln_40, zak_41, zln_41, zak_42, zln_42, zak_43, zln_43, zak_44, zln_44, zak_45, zln_45, zak_46, zln_46, zak_47, zln_47, zak_48, zln_48, zak_49, zln_49, zak_50, zln_50, zak_51, zln_51, zak_52, zln_52, zak_53, zln_53, zak_54, zln_54, zak_55, zln_55, zak_73, zln_73, zak_74, zln_74, zak_75, zln_75, zak_76, zln_76, zak_77, zln_77, zak_78, zln_78, zak_79, zln_79, zak_80, zln_80, zak_81, zln_81, zak_82, zln_82, zak_83, zln_83, zak_84, zln_84, zak_85, zln_85, zak_86, zln_86, zak_87, zln_87, zak_88, zln_88, zak_89, zln_89, zak_90, zln_90, zak_91, zln_91, zak_92, zln_92, zak_93, zln_93, zak_94, zln_94, zak_95, zln_95, zak_96, zln_96, zak_97, zln_97, zak_98, zln_98, zak_99, zln_99, zak_100, zln_100, zak_101, zln_101, zak_102, zln_102, zak_103, zln_103, zak_104, zln_104, zak_105, zln_105, zak_108, zln_108, zak_109, zln_109, Nat.reduceLeDiff]
        · unfold Inv
          simp only [zclr_I, zclr_R, zclr_L, zclr_U, reduceIte, Int.reduceEq, Int.reduceLT, Int.reduceLE, Int.reduceNeg, not_true_eq_false, not_false_eq_true, or_true, true_or, or_false, false_or, and_true, true_and, and_false, false_and, z01_or, zup_g, Nat.reduceEqDiff]
          refine ⟨h1, h2, h3, h4, h5, h6, ⟨rfl, by omega, by omega⟩, h8, h9, h10, h11, h12, h13, h14, h15, h16, h17, ⟨fun i i0 i1 => ?_, fun i i0 i1 => ?_⟩, h19⟩
          · by_cases e : i = s 11 0 3
            · simp only [e, zclr_I, zclr_R, zclr_L, zclr_U, reduceIte, Int.reduceEq, Int.reduceLT, Int.reduceLE, Int.reduceNeg, not_true_eq_false, not_false_eq_true, or_true, true_or, or_false, false_or, and_true, true_and, and_false, false_and, z01_or]
              exact ⟨by omega, by omega, by omega⟩
            · simp only [e, zclr_I, zclr_R, zclr_L, zclr_U, reduceIte, Int.reduceEq, Int.reduceLT, Int.reduceLE, Int.reduceNeg, not_true_eq_false, not_false_eq_true, or_true, true_or, or_false, false_or, and_true, true_and, and_false, false_and, z01_or]
              exact h18.1 i i0 (by omega)
          · simp only [zclr_I, zclr_R, zclr_L, zclr_U, reduceIte, Int.reduceEq, Int.reduceLT, Int.reduceLE, Int.reduceNeg, not_true_eq_false, not_false_eq_true, or_true, true_or, or_false, false_or, and_true, true_and, and_false, false_and, z01_or]
            exact h18.2 i i0 i1
    · have q5 := z01_f hk
      refine pf (-1000001) hs ?_ ?_ <;> intro m pc ls st fs Q
      · by_cases p1 : c < 0
        · simp only [r89_0, r89_1, r89_2, r89_5, r89_8, r89_9, r89_12, r89_13, r89_15, r89_18, r89_19, r89_21, r89_24, r89_25, r89_26, r89_27, r89_30, r89_31, r89_32, r89_33, r89_36, r89_39, k_isWay, k_finding, q1, p1, zclr_I, zclr_R, zclr_L, zclr_U, reduceIte, Int.reduceEq, Int.reduceLT, Int.reduceLE, Int.reduceNeg, not_true_eq_false, not_false_eq_true, or_true, true_or, or_false, false_or, and_true, true_and, and_false, false_and, z01_or]
        · have p3 : (c ≤ 9) = False := eq_false (by omega)
          have p4 : (9 < c) = True := eq_true (by omega)
          simp only [r89_0, r89_1, r89_2, r89_5, r89_8, r89_9, r89_12, r89_13, r89_15, r89_18, r89_19, r89_21, r89_24, r89_25, r89_26, r89_27, r89_30, r89_31, r89_32, r89_33, r89_36, r89_39, k_isWay, k_finding, q1, p1, p3, p4, zclr_I, zclr_R, zclr_L, zclr_U, reduceIte, Int.reduceEq, Int.reduceLT, Int.reduceLE, Int.reduceNeg, not_true_eq_false, not_false_eq_true, or_true, true_or, or_false, false_or, and_true, true_and, and_false, false_and, z01_or]
      · simp only [r156_0, r156_1, r156_4, r156_7, r156_8, r156_11, r156_14, r156_15, r156_16, r156_19, r156_20, r156_21, r156_23, r156_26, r156_29, r156_30, r156_32, r156_35, r156_36, r156_37, r156_40, r156_42, r156_45, r156_46, r156_48, r156_51, r156_52, r156_53, r156_56, r156_57, r156_60, r156_61, r156_62, r156_63, r156_66, r156_67, r156_70, r156_71, r156_72, r156_73, r156_76, r156_77, r156_80, r156_81, r156_82, r156_83, r156_84, r156_87, r156_88, r156_89, r156_92, r156_93, r156_96, r156_97, r156_98, k_isPlace, k_in, k_finds, zup_g, Nat.reduceEqDiff, q2, q3, q4, q5, zclr_I, zclr_R, zclr_L, zclr_U, reduceIte, Int.reduceEq, Int.reduceLT, Int.reduceLE, Int.reduceNeg, not_true_eq_false, not_false_eq_true, or_true, true_or, or_false, false_or, and_true, true_and, and_false, false_and, z01_or]
  · have q1 := z01_f hc
    refine pf (-1000001) hs ?_ ?_ <;> intro m pc ls st fs Q
    · simp only [r89_0, r89_1, r89_2, r89_5, r89_8, r89_9, r89_12, r89_13, r89_15, r89_18, r89_19, r89_21, r89_24, r89_25, r89_26, r89_27, r89_30, r89_31, r89_32, r89_33, r89_36, r89_39, k_isWay, k_finding, q1, zclr_I, zclr_R, zclr_L, zclr_U, reduceIte, Int.reduceEq, Int.reduceLT, Int.reduceLE, Int.reduceNeg, not_true_eq_false, not_false_eq_true, or_true, true_or, or_false, false_or, and_true, true_and, and_false, false_and, z01_or]
    · by_cases c1 : 0 ≤ a ∧ a ≤ 5
      · have q2 := z01_t c1
        by_cases c2 : 0 ≤ b ∧ b ≤ 5
        · have q3 := z01_t c2
          have q4 : (a = b) = True := eq_true (Decidable.byContradiction fun z => hc ⟨by omega, by omega, z⟩)
          simp only [r156_0, r156_1, r156_4, r156_7, r156_8, r156_11, r156_14, r156_15, r156_16, r156_19, r156_20, r156_21, r156_23, r156_26, r156_29, r156_30, r156_32, r156_35, r156_36, r156_37, r156_40, r156_42, r156_45, r156_46, r156_48, r156_51, r156_52, r156_53, r156_56, r156_57, r156_60, r156_61, r156_62, r156_63, r156_66, r156_67, r156_70, r156_71, r156_72, r156_73, r156_76, r156_77, r156_80, r156_81, r156_82, r156_83, r156_84, r156_87, r156_88, r156_89, r156_92, r156_93, r156_96, r156_97, r156_98, k_isPlace, k_finds, zup_g, Nat.reduceEqDiff, q2, q3, q4, zclr_I, zclr_R, zclr_L, zclr_U, reduceIte, Int.reduceEq, Int.reduceLT, Int.reduceLE, Int.reduceNeg, not_true_eq_false, not_false_eq_true, or_true, true_or, or_false, false_or, and_true, true_and, and_false, false_and, z01_or]
        · have q3 := z01_f c2
          simp only [r156_0, r156_1, r156_4, r156_7, r156_8, r156_11, r156_14, r156_15, r156_16, r156_19, r156_20, r156_21, r156_23, r156_26, r156_29, r156_30, r156_32, r156_35, r156_36, r156_37, r156_40, r156_42, r156_45, r156_46, r156_48, r156_51, r156_52, r156_53, r156_56, r156_57, r156_60, r156_61, r156_62, r156_63, r156_66, r156_67, r156_70, r156_71, r156_72, r156_73, r156_76, r156_77, r156_80, r156_81, r156_82, r156_83, r156_84, r156_87, r156_88, r156_89, r156_92, r156_93, r156_96, r156_97, r156_98, k_isPlace, k_finds, zup_g, Nat.reduceEqDiff, q2, q3, zclr_I, zclr_R, zclr_L, zclr_U, reduceIte, Int.reduceEq, Int.reduceLT, Int.reduceLE, Int.reduceNeg, not_true_eq_false, not_false_eq_true, or_true, true_or, or_false, false_or, and_true, true_and, and_false, false_and, z01_or]
      · have q2 := z01_f c1
        simp only [r156_0, r156_1, r156_4, r156_7, r156_8, r156_11, r156_14, r156_15, r156_16, r156_19, r156_20, r156_21, r156_23, r156_26, r156_29, r156_30, r156_32, r156_35, r156_36, r156_37, r156_40, r156_42, r156_45, r156_46, r156_48, r156_51, r156_52, r156_53, r156_56, r156_57, r156_60, r156_61, r156_62, r156_63, r156_66, r156_67, r156_70, r156_71, r156_72, r156_73, r156_76, r156_77, r156_80, r156_81, r156_82, r156_83, r156_84, r156_87, r156_88, r156_89, r156_92, r156_93, r156_96, r156_97, r156_98, k_isPlace, k_finds, zup_g, Nat.reduceEqDiff, q2, zclr_I, zclr_R, zclr_L, zclr_U, reduceIte, Int.reduceEq, Int.reduceLT, Int.reduceLE, Int.reduceNeg, not_true_eq_false, not_false_eq_true, or_true, true_or, or_false, false_or, and_true, true_and, and_false, false_and, z01_or]
theorem pr_ask (L : Nat) : Pr_ask (Inv L) := by
  intro a b c d ha hb hc0 hd s hs
  obtain ⟨h1, h2, h3, h4, h5, h6, h7, h8, h9, h10, h11, h12, h13, h14, h15, h16, h17, h18, h19, h20⟩ := id hs
  have eT := h5.1
  have h50 := h5.2
  have eA := h8.1
  have h80 := h8.2
  have w0 : w32 (s 11 0 1 - 1) = s 11 0 1 - 1 := w32_id (by omega) (by omega)
  have kL := fun (m pc : Nat) (ls st : List zV) (fs : List zFr) (Q : List zV → zS → Prop) => k_addAsk (m := m) (pc := pc) (ls := ls) (st := st) (fs := fs) (Q := Q) (s := s) a b c d (by omega)
  by_cases hc : 0 ≤ a ∧ a < s 6 0 3
  · have q1 := z01_t hc
    have q2 : z01 (0 ≤ a ∧ a ≤ s 11 0 1 - 1) = 1 := z01_t (by omega)
    by_cases hh : 0 ≤ b ∧ b ≤ c ∧ c ≤ 7
    · have q3 := z01_t hh
      have q4 : z01 (0 ≤ b ∧ b ≤ 7) = 1 := z01_t (by omega)
      have q5 : z01 (b ≤ c ∧ c ≤ 7) = 1 := z01_t (by omega)
      by_cases hp : 0 ≤ d ∧ d ≤ 1000
      · have q6 := z01_t hp
        have p1 : (d < 0) = False := eq_false (by omega)
        have p2 : (d ≤ 1000) = True := eq_true (by omega)
        have p3 : (1000 < d) = False := eq_false (by omega)
        by_cases hf : s 11 0 4 = 10
        · have e1 : (10 ≤ s 1 0 1) = True := eq_true (by omega)
          refine pf (-1000002) hs ?_ ?_ <;> intro m pc ls st fs Q
          · simp only [r98_0, r98_1, r98_4, r98_5, r98_8, r98_11, r98_12, r98_13, r98_16, r98_19, r98_21, r98_24, r98_26, r98_29, r98_32, r98_33, r98_35, r98_38, r98_39, r98_40, r98_41, r98_44, r98_45, r98_46, r98_47, r98_49, r98_52, r98_55, k_hasTeacher, k_areHours, kL, k_orFull, q1, q3, e1, p1, p2, p3, zclr_I, zclr_R, zclr_L, zclr_U, reduceIte, Int.reduceEq, Int.reduceLT, Int.reduceLE, Int.reduceNeg, not_true_eq_false, not_false_eq_true, or_true, true_or, or_false, false_or, and_true, true_and, and_false, false_and, z01_or]
          · simp only [r169_0, r169_1, r169_2, r169_5, r169_8, r169_9, r169_10, r169_12, r169_15, r169_18, r169_19, r169_20, r169_22, r169_25, r169_28, r169_30, r169_31, r169_34, r169_37, r169_40, r169_41, r169_43, r169_46, r169_47, r169_48, r169_51, r169_53, r169_56, r169_57, r169_59, r169_62, r169_63, r169_64, r169_67, r169_68, r169_71, r169_72, r169_73, r169_74, r169_77, r169_78, r169_81, r169_82, r169_83, r169_84, r169_87, r169_88, r169_91, r169_92, r169_93, r169_94, r169_97, r169_98, r169_101, r169_103, r169_104, r169_105, r169_106, r169_109, r169_110, r169_111, r169_114, r169_115, r169_118, r169_119, r169_120, k_isTeacher, k_in, k_finds, zup_g, Nat.reduceEqDiff, w0, q2, q4, q5, q6, hf, zclr_I, zclr_R, zclr_L, zclr_U, reduceIte, Int.reduceEq, Int.reduceLT, Int.reduceLE, Int.reduceNeg, not_true_eq_false, not_false_eq_true, or_true, true_or, or_false, false_or, and_true, true_and, and_false, false_and, z01_or]
        · have e1 : (10 ≤ s 1 0 1) = False := eq_false (by omega)
          have e2 : (s 1 0 1 = -1) = False := eq_false (by omega)
          have e3 : (s 11 0 4 = 10) = False := eq_false hf
          have w1 : w32 (s 11 0 4 + 1) = s 11 0 4 + 1 := w32_id (by omega) (by omega)
          have w2 : w32 (s 11 0 4 + 1 - 1) = s 11 0 4 := by rw [w32_id (by omega) (by omega)]; omega
          have w3 : w32 (s 1 0 1 + 1) = s 11 0 4 + 1 := by rw [eA]; exact w1
          have b1 : (0 ≤ s 11 0 4 ∧ s 11 0 4 < 10) = True := eq_true (by omega)
          refine ⟨s 11 0 4, zup (zup (zup (zup (zup s 0 (s 11 0 4) 0 a) 0 (s 11 0 4) 1 b) 0 (s 11 0 4) 2 c) 0 (s 11 0 4) 3 d) 1 0 1 (s 11 0 4 + 1), zup (zup (zup (zup (zup (zup (zup (zup (zup (zup s 0 (s 11 0 4) 0 a) 0 (s 11 0 4) 1 b) 0 (s 11 0 4) 2 c) 0 (s 11 0 4) 3 d) 1 0 1 (s 11 0 4 + 1)) 94 0 (s 11 0 4) a) 95 0 (s 11 0 4) b) 96 0 (s 11 0 4) c) 97 0 (s 11 0 4) d) 11 0 4 (s 11 0 4 + 1), ?_, ?_, ?_, rfl, rfl⟩
          · intro m pc ls st fs Q
            simp only [r98_0, r98_1, r98_4, r98_5, r98_8, r98_11, r98_12, r98_13, r98_16, r98_19, r98_21, r98_24, r98_26, r98_29, r98_32, r98_33, r98_35, r98_38, r98_39, r98_40, r98_41, r98_44, r98_45, r98_46, r98_47, r98_49, r98_52, r98_55, k_hasTeacher, k_areHours, kL, k_orFull, q1, q3, e1, e2, w3, p1, p2, p3, zclr_I, zclr_R, zclr_L, zclr_U, reduceIte, Int.reduceEq, Int.reduceLT, Int.reduceLE, Int.reduceNeg, not_true_eq_false, not_false_eq_true, or_true, true_or, or_false, false_or, and_true, true_and, and_false, false_and, z01_or]
            rw [eA]
          · intro m pc ls st fs Q
            simp only [r169_0, r169_1, r169_2, r169_5, r169_8, r169_9, r169_10, r169_12, r169_15, r169_18, r169_19, r169_20, r169_22, r169_25, r169_28, r169_30, r169_31, r169_34, r169_37, r169_40, r169_41, r169_43, r169_46, r169_47, r169_48, r169_51, r169_53, r169_56, r169_57, r169_59, r169_62, r169_63, r169_64, r169_67, r169_68, r169_71, r169_72, r169_73, r169_74, r169_77, r169_78, r169_81, r169_82, r169_83, r169_84, r169_87, r169_88, r169_91, r169_92, r169_93, r169_94, r169_97, r169_98, r169_101, r169_103, r169_104, r169_105, r169_106, r169_109, r169_110, r169_111, r169_114, r169_115, r169_118, r169_119, r169_120, k_isTeacher, k_in, zup_g, Nat.reduceEqDiff, w0, q2, q4, q5, q6, e3, b1, w1, w2, zclr_I, zclr_R, zclr_L, zclr_U, reduceIte, Int.reduceEq, Int.reduceLT, Int.reduceLE, Int.reduceNeg, not_true_eq_false, not_false_eq_true, or_true, true_or, or_false, false_or, and_true, true_and, and_false, false_and, z01_or, zak_40, zln_40, zak_41, zln_41, zak_42, zln_42, zak_43, zln_43, zak_44, zln_44, zak_45, zln_45, zak_46, zln_46, zak_47, zln_47, zak_48, zln_48, zak_49, zln_49, zak_50, zln_50, zak_51, zln_51, zak_52, zln_52, zak_53, zln_53, zak_54, zln_54, zak_55, zln_55, zak_73, zln_73, zak_74, zln_74, zak_75, zln_75, zak_76, zln_76, zak_77, zln_77, zak_78, zln_78, zak_79, zln_79, zak_80, zln_80, zak_81, zln_81, zak_82, zln_82, zak_83, zln_83, zak_84, zln_84, zak_85, zln_85, zak_86, zln_86, zak_87, zln_87, zak_88, zln_88, zak_89, zln_89, zak_90, zln_90, zak_91, zln_91, zak_92, zln_92, zak_93, zln_93, zak_94, zln_94, zak_95, zln_95, zak_96, zln_96, zak_97, zln_97, zak_98, zln_98, zak_99, zln_99, zak_100, zln_100, zak_101, zln_101, zak_102, zln_102, zak_103, zln_103, zak_104, zln_104, zak_105, zln_105, zak_108, zln_108, zak_109, zln_109, Nat.reduceLeDiff]
          · unfold Inv
            simp only [zclr_I, zclr_R, zclr_L, zclr_U, reduceIte, Int.reduceEq, Int.reduceLT, Int.reduceLE, Int.reduceNeg, not_true_eq_false, not_false_eq_true, or_true, true_or, or_false, false_or, and_true, true_and, and_false, false_and, z01_or, zup_g, Nat.reduceEqDiff]
            refine ⟨h1, h2, h3, h4, h5, h6, h7, ⟨rfl, by omega, by omega⟩, h9, h10, h11, h12, h13, h14, h15, h16, h17, h18, ⟨fun i i0 i1 => ?_, fun i i0 i1 => ?_⟩, h20⟩
            · by_cases e : i = s 11 0 4
              · simp only [e, zclr_I, zclr_R, zclr_L, zclr_U, reduceIte, Int.reduceEq, Int.reduceLT, Int.reduceLE, Int.reduceNeg, not_true_eq_false, not_false_eq_true, or_true, true_or, or_false, false_or, and_true, true_and, and_false, false_and, z01_or]
                have := h19.2 (s 11 0 4) (by omega) (by omega)
                exact ⟨by omega, by omega, by omega, by rw [this.1, this.2], Or.inl this.2⟩
              · simp only [e, zclr_I, zclr_R, zclr_L, zclr_U, reduceIte, Int.reduceEq, Int.reduceLT, Int.reduceLE, Int.reduceNeg, not_true_eq_false, not_false_eq_true, or_true, true_or, or_false, false_or, and_true, true_and, and_false, false_and, z01_or]
                exact h19.1 i i0 (by omega)
            · simp only [zclr_I, zclr_R, zclr_L, zclr_U, reduceIte, Int.reduceEq, Int.reduceLT, Int.reduceLE, Int.reduceNeg, not_true_eq_false, not_false_eq_true, or_true, true_or, or_false, false_or, and_true, true_and, and_false, false_and, z01_or]
              exact h19.2 i (by omega) i1
      · have q6 := z01_f hp
        refine pf (-1000001) hs ?_ ?_ <;> intro m pc ls st fs Q
        · by_cases p1 : d < 0
          · simp only [r98_0, r98_1, r98_4, r98_5, r98_8, r98_11, r98_12, r98_13, r98_16, r98_19, r98_21, r98_24, r98_26, r98_29, r98_32, r98_33, r98_35, r98_38, r98_39, r98_40, r98_41, r98_44, r98_45, r98_46, r98_47, r98_49, r98_52, r98_55, k_hasTeacher, k_areHours, k_finding, q1, q3, p1, zclr_I, zclr_R, zclr_L, zclr_U, reduceIte, Int.reduceEq, Int.reduceLT, Int.reduceLE, Int.reduceNeg, not_true_eq_false, not_false_eq_true, or_true, true_or, or_false, false_or, and_true, true_and, and_false, false_and, z01_or]
          · have p3 : (d ≤ 1000) = False := eq_false (by omega)
            have p4 : (1000 < d) = True := eq_true (by omega)
            simp only [r98_0, r98_1, r98_4, r98_5, r98_8, r98_11, r98_12, r98_13, r98_16, r98_19, r98_21, r98_24, r98_26, r98_29, r98_32, r98_33, r98_35, r98_38, r98_39, r98_40, r98_41, r98_44, r98_45, r98_46, r98_47, r98_49, r98_52, r98_55, k_hasTeacher, k_areHours, k_finding, q1, q3, p1, p3, p4, zclr_I, zclr_R, zclr_L, zclr_U, reduceIte, Int.reduceEq, Int.reduceLT, Int.reduceLE, Int.reduceNeg, not_true_eq_false, not_false_eq_true, or_true, true_or, or_false, false_or, and_true, true_and, and_false, false_and, z01_or]
        · simp only [r169_0, r169_1, r169_2, r169_5, r169_8, r169_9, r169_10, r169_12, r169_15, r169_18, r169_19, r169_20, r169_22, r169_25, r169_28, r169_30, r169_31, r169_34, r169_37, r169_40, r169_41, r169_43, r169_46, r169_47, r169_48, r169_51, r169_53, r169_56, r169_57, r169_59, r169_62, r169_63, r169_64, r169_67, r169_68, r169_71, r169_72, r169_73, r169_74, r169_77, r169_78, r169_81, r169_82, r169_83, r169_84, r169_87, r169_88, r169_91, r169_92, r169_93, r169_94, r169_97, r169_98, r169_101, r169_103, r169_104, r169_105, r169_106, r169_109, r169_110, r169_111, r169_114, r169_115, r169_118, r169_119, r169_120, k_isTeacher, k_in, k_finds, zup_g, Nat.reduceEqDiff, w0, q2, q4, q5, q6, zclr_I, zclr_R, zclr_L, zclr_U, reduceIte, Int.reduceEq, Int.reduceLT, Int.reduceLE, Int.reduceNeg, not_true_eq_false, not_false_eq_true, or_true, true_or, or_false, false_or, and_true, true_and, and_false, false_and, z01_or]
    · have q3 := z01_f hh
      refine pf (-1000001) hs ?_ ?_ <;> intro m pc ls st fs Q
      · simp only [r98_0, r98_1, r98_4, r98_5, r98_8, r98_11, r98_12, r98_13, r98_16, r98_19, r98_21, r98_24, r98_26, r98_29, r98_32, r98_33, r98_35, r98_38, r98_39, r98_40, r98_41, r98_44, r98_45, r98_46, r98_47, r98_49, r98_52, r98_55, k_hasTeacher, k_areHours, k_finding, q1, q3, zclr_I, zclr_R, zclr_L, zclr_U, reduceIte, Int.reduceEq, Int.reduceLT, Int.reduceLE, Int.reduceNeg, not_true_eq_false, not_false_eq_true, or_true, true_or, or_false, false_or, and_true, true_and, and_false, false_and, z01_or]
      · by_cases c1 : 0 ≤ b ∧ b ≤ 7
        · have q4 := z01_t c1
          have q5 : z01 (b ≤ c ∧ c ≤ 7) = 0 := z01_f (by omega)
          simp only [r169_0, r169_1, r169_2, r169_5, r169_8, r169_9, r169_10, r169_12, r169_15, r169_18, r169_19, r169_20, r169_22, r169_25, r169_28, r169_30, r169_31, r169_34, r169_37, r169_40, r169_41, r169_43, r169_46, r169_47, r169_48, r169_51, r169_53, r169_56, r169_57, r169_59, r169_62, r169_63, r169_64, r169_67, r169_68, r169_71, r169_72, r169_73, r169_74, r169_77, r169_78, r169_81, r169_82, r169_83, r169_84, r169_87, r169_88, r169_91, r169_92, r169_93, r169_94, r169_97, r169_98, r169_101, r169_103, r169_104, r169_105, r169_106, r169_109, r169_110, r169_111, r169_114, r169_115, r169_118, r169_119, r169_120, k_isTeacher, k_in, k_finds, zup_g, Nat.reduceEqDiff, w0, q2, q4, q5, zclr_I, zclr_R, zclr_L, zclr_U, reduceIte, Int.reduceEq, Int.reduceLT, Int.reduceLE, Int.reduceNeg, not_true_eq_false, not_false_eq_true, or_true, true_or, or_false, false_or, and_true, true_and, and_false, false_and, z01_or]
        · have q4 := z01_f c1
          simp only [r169_0, r169_1, r169_2, r169_5, r169_8, r169_9, r169_10, r169_12, r169_15, r169_18, r169_19, r169_20, r169_22, r169_25, r169_28, r169_30, r169_31, r169_34, r169_37, r169_40, r169_41, r169_43, r169_46, r169_47, r169_48, r169_51, r169_53, r169_56, r169_57, r169_59, r169_62, r169_63, r169_64, r169_67, r169_68, r169_71, r169_72, r169_73, r169_74, r169_77, r169_78, r169_81, r169_82, r169_83, r169_84, r169_87, r169_88, r169_91, r169_92, r169_93, r169_94, r169_97, r169_98, r169_101, r169_103, r169_104, r169_105, r169_106, r169_109, r169_110, r169_111, r169_114, r169_115, r169_118, r169_119, r169_120, k_isTeacher, k_in, k_finds, zup_g, Nat.reduceEqDiff, w0, q2, q4, zclr_I, zclr_R, zclr_L, zclr_U, reduceIte, Int.reduceEq, Int.reduceLT, Int.reduceLE, Int.reduceNeg, not_true_eq_false, not_false_eq_true, or_true, true_or, or_false, false_or, and_true, true_and, and_false, false_and, z01_or]
  · have q1 := z01_f hc
    have q2 : z01 (0 ≤ a ∧ a ≤ s 11 0 1 - 1) = 0 := z01_f (by omega)
    refine pf (-1000001) hs ?_ ?_ <;> intro m pc ls st fs Q
    · simp only [r98_0, r98_1, r98_4, r98_5, r98_8, r98_11, r98_12, r98_13, r98_16, r98_19, r98_21, r98_24, r98_26, r98_29, r98_32, r98_33, r98_35, r98_38, r98_39, r98_40, r98_41, r98_44, r98_45, r98_46, r98_47, r98_49, r98_52, r98_55, k_hasTeacher, k_finding, q1, zclr_I, zclr_R, zclr_L, zclr_U, reduceIte, Int.reduceEq, Int.reduceLT, Int.reduceLE, Int.reduceNeg, not_true_eq_false, not_false_eq_true, or_true, true_or, or_false, false_or, and_true, true_and, and_false, false_and, z01_or]
    · simp only [r169_0, r169_1, r169_2, r169_5, r169_8, r169_9, r169_10, r169_12, r169_15, r169_18, r169_19, r169_20, r169_22, r169_25, r169_28, r169_30, r169_31, r169_34, r169_37, r169_40, r169_41, r169_43, r169_46, r169_47, r169_48, r169_51, r169_53, r169_56, r169_57, r169_59, r169_62, r169_63, r169_64, r169_67, r169_68, r169_71, r169_72, r169_73, r169_74, r169_77, r169_78, r169_81, r169_82, r169_83, r169_84, r169_87, r169_88, r169_91, r169_92, r169_93, r169_94, r169_97, r169_98, r169_101, r169_103, r169_104, r169_105, r169_106, r169_109, r169_110, r169_111, r169_114, r169_115, r169_118, r169_119, r169_120, k_isTeacher, k_finds, zup_g, Nat.reduceEqDiff, w0, q2, zclr_I, zclr_R, zclr_L, zclr_U, reduceIte, Int.reduceEq, Int.reduceLT, Int.reduceLE, Int.reduceNeg, not_true_eq_false, not_false_eq_true, or_true, true_or, or_false, false_or, and_true, true_and, and_false, false_and, z01_or]

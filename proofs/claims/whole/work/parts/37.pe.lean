section NARROW
variable {m pc : Nat} {ls st : List zV} {fs : List zFr} {s : zS} {Q : List zV → zS → Prop}
def nlo (x y : Int) : Int := if x < y then y else x
def nhi (x y : Int) : Int := if y < x then y else x
theorem nlo_d (x y : Int) : (if x < y then y else x) = nlo x y := rfl
theorem nhi_d (x y : Int) : (if y < x then y else x) = nhi x y := rfl
/-- Pupil.narrow -/
theorem k_narrow (p lo hi : Int) : Ev ((37, 0, [zR 5 p, zI lo, zI hi, zU, zU], []) :: (m, pc, ls, st) :: fs) s Q = if hi < lo ∨ nhi (s 5 p 4) hi < nlo (s 5 p 3) lo then Ev ((m, pc, ls, zI 0 :: st) :: fs) s Q else Ev ((m, pc, ls, zI 1 :: st) :: fs) (zup (zup s 5 p 3 (nlo (s 5 p 3) lo)) 5 p 4 (nhi (s 5 p 4) hi)) Q := by
  simp only [r37_0, r37_1, r37_4, r37_5, r37_8, r37_9, r37_10, r37_13, r37_14, r37_17, r37_19, r37_20, r37_21, r37_24, r37_25, r37_27, r37_30, r37_31, r37_32, r37_33, r37_34, r37_37, r37_38, r37_40, r37_43, r37_44, zclr_I, zclr_R, zclr_L, zclr_U, reduceIte, Int.reduceEq, Int.reduceLT, Int.reduceLE, Int.reduceNeg, not_true_eq_false, not_false_eq_true, or_true, true_or, or_false, false_or, and_true, true_and, and_false, false_and, z01_or, nlo_d, nhi_d]
  by_cases h1 : hi < lo
  · simp [h1]
  · by_cases h2 : nhi (s 5 p 4) hi < nlo (s 5 p 3) lo
    · have h3 : ¬ nlo (s 5 p 3) lo ≤ nhi (s 5 p 4) hi := by omega
      have h4 : ¬ lo > hi := by omega
      have h5 : lo ≤ hi := by omega
      simp [h1, h2, h3, h5]
    · have h3 : nlo (s 5 p 3) lo ≤ nhi (s 5 p 4) hi := by omega
      have h5 : lo ≤ hi := by omega
      simp [h1, h2, h3, h5]
/-- the reference's sees -/
theorem k_sees (p lo hi : Int) (hp : 0 ≤ p ∧ p < 10) : Ev ((133, 0, [zR 11 0, zI p, zI lo, zI hi, zU, zU], []) :: (m, pc, ls, st) :: fs) s Q = if hi < lo ∨ nhi (s 77 0 p) hi < nlo (s 76 0 p) lo then Ev ((m, pc, ls, zI 0 :: st) :: fs) s Q else Ev ((m, pc, ls, zI 1 :: st) :: fs) (zup (zup s 76 0 p (nlo (s 76 0 p) lo)) 77 0 p (nhi (s 77 0 p) hi)) Q := by
  have b1 : (0 ≤ p ∧ p < 10) = True := eq_true hp
  by_cases c1 : s 76 0 p < lo
  · by_cases c2 : hi < s 77 0 p
    · have f1 : (s 76 0 p < lo) = True := eq_true c1
      have f1b : (lo ≤ s 76 0 p) = False := eq_false (by omega)
      have n1 : nlo (s 76 0 p) lo = lo := if_pos c1
      have f2 : (hi < s 77 0 p) = True := eq_true c2
      have f2b : (s 77 0 p ≤ hi) = False := eq_false (by omega)
      have n2 : nhi (s 77 0 p) hi = hi := if_pos c2
      simp only [r133_0, r133_1, r133_2, r133_5, r133_6, r133_7, r133_10, r133_11, r133_14, r133_15, r133_18, r133_19, r133_20, r133_22, r133_23, r133_24, r133_27, r133_28, r133_29, r133_32, r133_33, r133_36, r133_37, r133_40, r133_41, r133_42, r133_44, r133_45, r133_46, r133_49, r133_51, r133_53, r133_56, r133_57, r133_58, r133_59, r133_62, r133_63, r133_65, r133_66, r133_67, r133_70, r133_71, r133_73, r133_74, r133_75, zclr_I, zclr_R, zclr_L, zclr_U, reduceIte, Int.reduceEq, Int.reduceLT, Int.reduceLE, Int.reduceNeg, not_true_eq_false, not_false_eq_true, or_true, true_or, or_false, false_or, and_true, true_and, and_false, false_and, z01_or, zak_40, zln_40, zak_41, zln_41, zak_42, zln_42, zak_43, zln_43, zak_44, zln_44, zak_45, zln_45, zak_46, zln_46, zak_47, zln_47, zak_48, zln_48, zak_49, zln_49, zak_50, zln_50, zak_51, zln_51, zak_52, zln_52, zak_53, zln_53, zak_54, zln_54, zak_55, zln_55, zak_73, zln_73, zak_74, zln_74, zak_75, zln_75, zak_76, zln_76, zak_77, zln_77, zak_78, zln_78, zak_79, zln_79, zak_80, zln_80, zak_81, zln_81, zak_82, zln_82, zak_83, zln_83, zak_84, zln_84, zak_85, zln_85, zak_86, zln_86, zak_87, zln_87, zak_88, zln_88, zak_89, zln_89, zak_90, zln_90, zak_91, zln_91, zak_92, zln_92, zak_93, zln_93, zak_94, zln_94, zak_95, zln_95, zak_96, zln_96, zak_97, zln_97, zak_98, zln_98, zak_99, zln_99, zak_100, zln_100, zak_101, zln_101, zak_102, zln_102, zak_103, zln_103, zak_104, zln_104, zak_105, zln_105, zak_108, zln_108, zak_109, zln_109, Nat.reduceLeDiff, zup_g, Nat.reduceEqDiff, b1, f1, f1b, f2, f2b, n1, n2]
      by_cases h1 : hi < lo
      · have h1b : (lo ≤ hi) = False := eq_false (by omega)
        simp only [h1, h1b, zclr_I, zclr_R, zclr_L, zclr_U, reduceIte, Int.reduceEq, Int.reduceLT, Int.reduceLE, Int.reduceNeg, not_true_eq_false, not_false_eq_true, or_true, true_or, or_false, false_or, and_true, true_and, and_false, false_and, z01_or]
      · have h1b : (lo ≤ hi) = True := eq_true (by omega)
        by_cases h2 : hi < lo
        · have h2b : (lo ≤ hi) = False := eq_false (by omega)
          simp only [h1, h1b, h2, h2b, zclr_I, zclr_R, zclr_L, zclr_U, reduceIte, Int.reduceEq, Int.reduceLT, Int.reduceLE, Int.reduceNeg, not_true_eq_false, not_false_eq_true, or_true, true_or, or_false, false_or, and_true, true_and, and_false, false_and, z01_or]
        · have h2b : (lo ≤ hi) = True := eq_true (by omega)
          simp only [h1, h1b, h2, h2b, zclr_I, zclr_R, zclr_L, zclr_U, reduceIte, Int.reduceEq, Int.reduceLT, Int.reduceLE, Int.reduceNeg, not_true_eq_false, not_false_eq_true, or_true, true_or, or_false, false_or, and_true, true_and, and_false, false_and, z01_or]
    · have f1 : (s 76 0 p < lo) = True := eq_true c1
      have f1b : (lo ≤ s 76 0 p) = False := eq_false (by omega)
      have n1 : nlo (s 76 0 p) lo = lo := if_pos c1
      have f2 : (hi < s 77 0 p) = False := eq_false c2
      have f2b : (s 77 0 p ≤ hi) = True := eq_true (by omega)
      have n2 : nhi (s 77 0 p) hi = s 77 0 p := if_neg c2
      simp only [r133_0, r133_1, r133_2, r133_5, r133_6, r133_7, r133_10, r133_11, r133_14, r133_15, r133_18, r133_19, r133_20, r133_22, r133_23, r133_24, r133_27, r133_28, r133_29, r133_32, r133_33, r133_36, r133_37, r133_40, r133_41, r133_42, r133_44, r133_45, r133_46, r133_49, r133_51, r133_53, r133_56, r133_57, r133_58, r133_59, r133_62, r133_63, r133_65, r133_66, r133_67, r133_70, r133_71, r133_73, r133_74, r133_75, zclr_I, zclr_R, zclr_L, zclr_U, reduceIte, Int.reduceEq, Int.reduceLT, Int.reduceLE, Int.reduceNeg, not_true_eq_false, not_false_eq_true, or_true, true_or, or_false, false_or, and_true, true_and, and_false, false_and, z01_or, zak_40, zln_40, zak_41, zln_41, zak_42, zln_42, zak_43, zln_43, zak_44, zln_44, zak_45, zln_45, zak_46, zln_46, zak_47, zln_47, zak_48, zln_48, zak_49, zln_49, zak_50, zln_50, zak_51, zln_51, zak_52, zln_52, zak_53, zln_53, zak_54, zln_54, zak_55, zln_55, zak_73, zln_73, zak_74, zln_74, zak_75, zln_75, zak_76, zln_76, zak_77, zln_77, zak_78, zln_78, zak_79, zln_79, zak_80, zln_80, zak_81, zln_81, zak_82, zln_82, zak_83, zln_83, zak_84, zln_84, zak_85, zln_85, zak_86, zln_86, zak_87, zln_87, zak_88, zln_88, zak_89, zln_89, zak_90, zln_90, zak_91, zln_91, zak_92, zln_92, zak_93, zln_93, zak_94, zln_94, zak_95, zln_95, zak_96, zln_96, zak_97, zln_97, zak_98, zln_98, zak_99, zln_99, zak_100, zln_100, zak_101, zln_101, zak_102, zln_102, zak_103, zln_103, zak_104, zln_104, zak_105, zln_105, zak_108, zln_108, zak_109, zln_109, Nat.reduceLeDiff, zup_g, Nat.reduceEqDiff, b1, f1, f1b, f2, f2b, n1, n2]
      by_cases h1 : hi < lo
      · have h1b : (lo ≤ hi) = False := eq_false (by omega)
        simp only [h1, h1b, zclr_I, zclr_R, zclr_L, zclr_U, reduceIte, Int.reduceEq, Int.reduceLT, Int.reduceLE, Int.reduceNeg, not_true_eq_false, not_false_eq_true, or_true, true_or, or_false, false_or, and_true, true_and, and_false, false_and, z01_or]
      · have h1b : (lo ≤ hi) = True := eq_true (by omega)
        by_cases h2 : s 77 0 p < lo
        · have h2b : (lo ≤ s 77 0 p) = False := eq_false (by omega)
          simp only [h1, h1b, h2, h2b, zclr_I, zclr_R, zclr_L, zclr_U, reduceIte, Int.reduceEq, Int.reduceLT, Int.reduceLE, Int.reduceNeg, not_true_eq_false, not_false_eq_true, or_true, true_or, or_false, false_or, and_true, true_and, and_false, false_and, z01_or]
        · have h2b : (lo ≤ s 77 0 p) = True := eq_true (by omega)
          simp only [h1, h1b, h2, h2b, zclr_I, zclr_R, zclr_L, zclr_U, reduceIte, Int.reduceEq, Int.reduceLT, Int.reduceLE, Int.reduceNeg, not_true_eq_false, not_false_eq_true, or_true, true_or, or_false, false_or, and_true, true_and, and_false, false_and, z01_or]
  · by_cases c2 : hi < s 77 0 p
    · have f1 : (s 76 0 p < lo) = False := eq_false c1
      have f1b : (lo ≤ s 76 0 p) = True := eq_true (by omega)
      have n1 : nlo (s 76 0 p) lo = s 76 0 p := if_neg c1
      have f2 : (hi < s 77 0 p) = True := eq_true c2
      have f2b : (s 77 0 p ≤ hi) = False := eq_false (by omega)
      have n2 : nhi (s 77 0 p) hi = hi := if_pos c2
      simp only [r133_0, r133_1, r133_2, r133_5, r133_6, r133_7, r133_10, r133_11, r133_14, r133_15, r133_18, r133_19, r133_20, r133_22, r133_23, r133_24, r133_27, r133_28, r133_29, r133_32, r133_33, r133_36, r133_37, r133_40, r133_41, r133_42, r133_44, r133_45, r133_46, r133_49, r133_51, r133_53, r133_56, r133_57, r133_58, r133_59, r133_62, r133_63, r133_65, r133_66, r133_67, r133_70, r133_71, r133_73, r133_74, r133_75, zclr_I, zclr_R, zclr_L, zclr_U, reduceIte, Int.reduceEq, Int.reduceLT, Int.reduceLE, Int.reduceNeg, not_true_eq_false, not_false_eq_true, or_true, true_or, or_false, false_or, and_true, true_and, and_false, false_and, z01_or, zak_40, zln_40, zak_41, zln_41, zak_42, zln_42, zak_43, zln_43, zak_44, zln_44, zak_45, zln_45, zak_46, zln_46, zak_47, zln_47, zak_48, zln_48, zak_49, zln_49, zak_50, zln_50, zak_51, zln_51, zak_52, zln_52, zak_53, zln_53, zak_54, zln_54, zak_55, zln_55, zak_73, zln_73, zak_74, zln_74, zak_75, zln_75, zak_76, zln_76, zak_77, zln_77, zak_78, zln_78, zak_79, zln_79, zak_80, zln_80, zak_81, zln_81, zak_82, zln_82, zak_83, zln_83, zak_84, zln_84, zak_85, zln_85, zak_86, zln_86, zak_87, zln_87, zak_88, zln_88, zak_89, zln_89, zak_90, zln_90, zak_91, zln_91, zak_92, zln_92, zak_93, zln_93, zak_94, zln_94, zak_95, zln_95, zak_96, zln_96, zak_97, zln_97, zak_98, zln_98, zak_99, zln_99, zak_100, zln_100, zak_101, zln_101, zak_102, zln_102, zak_103, zln_103, zak_104, zln_104, zak_105, zln_105, zak_108, zln_108, zak_109, zln_109, Nat.reduceLeDiff, zup_g, Nat.reduceEqDiff, b1, f1, f1b, f2, f2b, n1, n2]
      by_cases h1 : hi < lo
      · have h1b : (lo ≤ hi) = False := eq_false (by omega)
        simp only [h1, h1b, zclr_I, zclr_R, zclr_L, zclr_U, reduceIte, Int.reduceEq, Int.reduceLT, Int.reduceLE, Int.reduceNeg, not_true_eq_false, not_false_eq_true, or_true, true_or, or_false, false_or, and_true, true_and, and_false, false_and, z01_or]
      · have h1b : (lo ≤ hi) = True := eq_true (by omega)
        by_cases h2 : hi < s 76 0 p
        · have h2b : (s 76 0 p ≤ hi) = False := eq_false (by omega)
          simp only [h1, h1b, h2, h2b, zclr_I, zclr_R, zclr_L, zclr_U, reduceIte, Int.reduceEq, Int.reduceLT, Int.reduceLE, Int.reduceNeg, not_true_eq_false, not_false_eq_true, or_true, true_or, or_false, false_or, and_true, true_and, and_false, false_and, z01_or]
        · have h2b : (s 76 0 p ≤ hi) = True := eq_true (by omega)
          simp only [h1, h1b, h2, h2b, zclr_I, zclr_R, zclr_L, zclr_U, reduceIte, Int.reduceEq, Int.reduceLT, Int.reduceLE, Int.reduceNeg, not_true_eq_false, not_false_eq_true, or_true, true_or, or_false, false_or, and_true, true_and, and_false, false_and, z01_or]
    · have f1 : (s 76 0 p < lo) = False := eq_false c1
      have f1b : (lo ≤ s 76 0 p) = True := eq_true (by omega)
      have n1 : nlo (s 76 0 p) lo = s 76 0 p := if_neg c1
      have f2 : (hi < s 77 0 p) = False := eq_false c2
      have f2b : (s 77 0 p ≤ hi) = True := eq_true (by omega)
      have n2 : nhi (s 77 0 p) hi = s 77 0 p := if_neg c2
      simp only [r133_0, r133_1, r133_2, r133_5, r133_6, r133_7, r133_10, r133_11, r133_14, r133_15, r133_18, r133_19, r133_20, r133_22, r133_23, r133_24, r133_27, r133_28, r133_29, r133_32, r133_33, r133_36, r133_37, r133_40, r133_41, r133_42, r133_44, r133_45, r133_46, r133_49, r133_51, r133_53, r133_56, r133_57, r133_58, r133_59, r133_62, r133_63, r133_65, r133_66, r133_67, r133_70, r133_71, r133_73, r133_74, r133_75, zclr_I, zclr_R, zclr_L, zclr_U, reduceIte, Int.reduceEq, Int.reduceLT, Int.reduceLE, Int.reduceNeg, not_true_eq_false, not_false_eq_true, or_true, true_or, or_false, false_or, and_true, true_and, and_false, false_and, z01_or, zak_40, zln_40, zak_41, zln_41, zak_42, zln_42, zak_43, zln_43, zak_44, zln_44, zak_45, zln_45, zak_46, zln_46, zak_47, zln_47, zak_48, zln_48, zak_49, zln_49, zak_50, zln_50, zak_51, zln_51, zak_52, zln_52, zak_53, zln_53, zak_54, zln_54, zak_55, zln_55, zak_73, zln_73, zak_74, zln_74, zak_75, zln_75, zak_76, zln_76, zak_77, zln_77, zak_78, zln_78, zak_79, zln_79, zak_80, zln_80, zak_81, zln_81, zak_82, zln_82, zak_83, zln_83, zak_84, zln_84, zak_85, zln_85, zak_86, zln_86, zak_87, zln_87, zak_88, zln_88, zak_89, zln_89, zak_90, zln_90, zak_91, zln_91, zak_92, zln_92, zak_93, zln_93, zak_94, zln_94, zak_95, zln_95, zak_96, zln_96, zak_97, zln_97, zak_98, zln_98, zak_99, zln_99, zak_100, zln_100, zak_101, zln_101, zak_102, zln_102, zak_103, zln_103, zak_104, zln_104, zak_105, zln_105, zak_108, zln_108, zak_109, zln_109, Nat.reduceLeDiff, zup_g, Nat.reduceEqDiff, b1, f1, f1b, f2, f2b, n1, n2]
      by_cases h1 : hi < lo
      · have h1b : (lo ≤ hi) = False := eq_false (by omega)
        simp only [h1, h1b, zclr_I, zclr_R, zclr_L, zclr_U, reduceIte, Int.reduceEq, Int.reduceLT, Int.reduceLE, Int.reduceNeg, not_true_eq_false, not_false_eq_true, or_true, true_or, or_false, false_or, and_true, true_and, and_false, false_and, z01_or]
      · have h1b : (lo ≤ hi) = True := eq_true (by omega)
        by_cases h2 : s 77 0 p < s 76 0 p
        · have h2b : (s 76 0 p ≤ s 77 0 p) = False := eq_false (by omega)
          simp only [h1, h1b, h2, h2b, zclr_I, zclr_R, zclr_L, zclr_U, reduceIte, Int.reduceEq, Int.reduceLT, Int.reduceLE, Int.reduceNeg, not_true_eq_false, not_false_eq_true, or_true, true_or, or_false, false_or, and_true, true_and, and_false, false_and, z01_or]
        · have h2b : (s 76 0 p ≤ s 77 0 p) = True := eq_true (by omega)
          simp only [h1, h1b, h2, h2b, zclr_I, zclr_R, zclr_L, zclr_U, reduceIte, Int.reduceEq, Int.reduceLT, Int.reduceLE, Int.reduceNeg, not_true_eq_false, not_false_eq_true, or_true, true_or, or_false, false_or, and_true, true_and, and_false, false_and, z01_or]
end NARROW

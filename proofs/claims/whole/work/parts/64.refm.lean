/-! the reference's mayTeach -/
section
variable {m pc : Nat} {ls st : List zV} {fs : List zFr} {s : zS} {Q : List zV → zS → Prop}
def topM (s : zS) (x : Int) : Int := mxF (fun p => s 76 0 p) x 0 0 (s 11 0 0).toNat
def lvM (s : zS) (x : Int) : Int := if anyF (fun p => tb x p && decide (s 77 0 p < topM s x)) 0 (s 11 0 0).toNat = true then -1 else topM s x
theorem lp138a (x : Int) (x0 : 0 ≤ x) (x1 : x < 1024) (hP : s 11 0 0 ≤ 10) : ∀ (k : Nat) (t a : Int) (F : List zFr), 0 ≤ t → t + k = s 11 0 0 → Ev ((138, 4, [zR 11 0, zI x, zI a, zI t], []) :: F) s Q = Ev ((138, 43, [zR 11 0, zI x, zI (mxF (fun p => s 76 0 p) x a t k), zI (s 11 0 0)], []) :: F) s Q := by
  intro k
  induction k with
  | zero =>
    intro t a F h0 h1
    have e1 : (s 11 0 0 ≤ t) = True := eq_true (by omega)
    have e2 : t = s 11 0 0 := by omega
    rw [r138_4]
    simp only [r138_5, r138_6, r138_9, r138_12, r138_13, r138_14, r138_17, r138_20, r138_21, r138_24, r138_25, r138_26, r138_27, r138_30, r138_31, r138_34, r138_35, r138_36, r138_37, r138_40, e1, mxF, foldI, zclr_I, zclr_R, zclr_L, zclr_U, reduceIte, Int.reduceEq, Int.reduceLT, Int.reduceLE, Int.reduceNeg, not_true_eq_false, not_false_eq_true, or_true, true_or, or_false, false_or, and_true, true_and, and_false, false_and, z01_or]
    rw [e2]
  | succ k ih =>
    intro t a F h0 h1
    have e1 : (s 11 0 0 ≤ t) = False := eq_false (by omega)
    have b1 : (0 ≤ t ∧ t < 10) = True := eq_true (by omega)
    have w1 : w32 (t + 1) = t + 1 := w32_id (by omega) (by omega)
    have c3 := has_m x0 x1 h0 (show t < 10 by omega)
    rw [r138_4, mxF_s]
    by_cases hz : tb x t = true
    · have q : hb x t = 1 := if_pos hz
      rw [if_pos hz]
      by_cases hy : a < s 76 0 t
      · have y2 : (s 76 0 t ≤ a) = False := eq_false (by omega)
        have y3 : nlo a (s 76 0 t) = s 76 0 t := if_pos hy
        rw [y3]
        simp only [r138_5, r138_6, r138_9, r138_12, r138_13, r138_14, r138_17, r138_20, r138_21, r138_24, r138_25, r138_26, r138_27, r138_30, r138_31, r138_34, r138_35, r138_36, r138_37, r138_40, k_hasM, e1, b1, c3, q, y2, w1, zak_40, zln_40, zak_41, zln_41, zak_42, zln_42, zak_43, zln_43, zak_44, zln_44, zak_45, zln_45, zak_46, zln_46, zak_47, zln_47, zak_48, zln_48, zak_49, zln_49, zak_50, zln_50, zak_51, zln_51, zak_52, zln_52, zak_53, zln_53, zak_54, zln_54, zak_55, zln_55, zak_73, zln_73, zak_74, zln_74, zak_75, zln_75, zak_76, zln_76, zak_77, zln_77, zak_78, zln_78, zak_79, zln_79, zak_80, zln_80, zak_81, zln_81, zak_82, zln_82, zak_83, zln_83, zak_84, zln_84, zak_85, zln_85, zak_86, zln_86, zak_87, zln_87, zak_88, zln_88, zak_89, zln_89, zak_90, zln_90, zak_91, zln_91, zak_92, zln_92, zak_93, zln_93, zak_94, zln_94, zak_95, zln_95, zak_96, zln_96, zak_97, zln_97, zak_98, zln_98, zak_99, zln_99, zak_100, zln_100, zak_101, zln_101, zak_102, zln_102, zak_103, zln_103, zak_104, zln_104, zak_105, zln_105, zak_108, zln_108, zak_109, zln_109, Nat.reduceLeDiff, zclr_I, zclr_R, zclr_L, zclr_U, reduceIte, Int.reduceEq, Int.reduceLT, Int.reduceLE, Int.reduceNeg, not_true_eq_false, not_false_eq_true, or_true, true_or, or_false, false_or, and_true, true_and, and_false, false_and, z01_or]
        exact ih (t + 1) _ F (by omega) (by omega)
      · have y2 : (s 76 0 t ≤ a) = True := eq_true (by omega)
        have y3 : nlo a (s 76 0 t) = a := if_neg hy
        rw [y3]
        simp only [r138_5, r138_6, r138_9, r138_12, r138_13, r138_14, r138_17, r138_20, r138_21, r138_24, r138_25, r138_26, r138_27, r138_30, r138_31, r138_34, r138_35, r138_36, r138_37, r138_40, k_hasM, e1, b1, c3, q, y2, w1, zak_40, zln_40, zak_41, zln_41, zak_42, zln_42, zak_43, zln_43, zak_44, zln_44, zak_45, zln_45, zak_46, zln_46, zak_47, zln_47, zak_48, zln_48, zak_49, zln_49, zak_50, zln_50, zak_51, zln_51, zak_52, zln_52, zak_53, zln_53, zak_54, zln_54, zak_55, zln_55, zak_73, zln_73, zak_74, zln_74, zak_75, zln_75, zak_76, zln_76, zak_77, zln_77, zak_78, zln_78, zak_79, zln_79, zak_80, zln_80, zak_81, zln_81, zak_82, zln_82, zak_83, zln_83, zak_84, zln_84, zak_85, zln_85, zak_86, zln_86, zak_87, zln_87, zak_88, zln_88, zak_89, zln_89, zak_90, zln_90, zak_91, zln_91, zak_92, zln_92, zak_93, zln_93, zak_94, zln_94, zak_95, zln_95, zak_96, zln_96, zak_97, zln_97, zak_98, zln_98, zak_99, zln_99, zak_100, zln_100, zak_101, zln_101, zak_102, zln_102, zak_103, zln_103, zak_104, zln_104, zak_105, zln_105, zak_108, zln_108, zak_109, zln_109, Nat.reduceLeDiff, zclr_I, zclr_R, zclr_L, zclr_U, reduceIte, Int.reduceEq, Int.reduceLT, Int.reduceLE, Int.reduceNeg, not_true_eq_false, not_false_eq_true, or_true, true_or, or_false, false_or, and_true, true_and, and_false, false_and, z01_or]
        exact ih (t + 1) _ F (by omega) (by omega)
    · have q : hb x t = 0 := if_neg hz
      rw [if_neg hz]
      simp only [r138_5, r138_6, r138_9, r138_12, r138_13, r138_14, r138_17, r138_20, r138_21, r138_24, r138_25, r138_26, r138_27, r138_30, r138_31, r138_34, r138_35, r138_36, r138_37, r138_40, k_hasM, e1, c3, q, w1, zak_40, zln_40, zak_41, zln_41, zak_42, zln_42, zak_43, zln_43, zak_44, zln_44, zak_45, zln_45, zak_46, zln_46, zak_47, zln_47, zak_48, zln_48, zak_49, zln_49, zak_50, zln_50, zak_51, zln_51, zak_52, zln_52, zak_53, zln_53, zak_54, zln_54, zak_55, zln_55, zak_73, zln_73, zak_74, zln_74, zak_75, zln_75, zak_76, zln_76, zak_77, zln_77, zak_78, zln_78, zak_79, zln_79, zak_80, zln_80, zak_81, zln_81, zak_82, zln_82, zak_83, zln_83, zak_84, zln_84, zak_85, zln_85, zak_86, zln_86, zak_87, zln_87, zak_88, zln_88, zak_89, zln_89, zak_90, zln_90, zak_91, zln_91, zak_92, zln_92, zak_93, zln_93, zak_94, zln_94, zak_95, zln_95, zak_96, zln_96, zak_97, zln_97, zak_98, zln_98, zak_99, zln_99, zak_100, zln_100, zak_101, zln_101, zak_102, zln_102, zak_103, zln_103, zak_104, zln_104, zak_105, zln_105, zak_108, zln_108, zak_109, zln_109, Nat.reduceLeDiff, zclr_I, zclr_R, zclr_L, zclr_U, reduceIte, Int.reduceEq, Int.reduceLT, Int.reduceLE, Int.reduceNeg, not_true_eq_false, not_false_eq_true, or_true, true_or, or_false, false_or, and_true, true_and, and_false, false_and, z01_or]
      exact ih (t + 1) _ F (by omega) (by omega)
theorem lp138b (x a : Int) (x0 : 0 ≤ x) (x1 : x < 1024) (hP : s 11 0 0 ≤ 10) : ∀ (k : Nat) (t : Int), 0 ≤ t → t + k = s 11 0 0 → Ev ((138, 45, [zR 11 0, zI x, zI a, zI t], []) :: (m, pc, ls, st) :: fs) s Q = Ev ((m, pc, ls, zI (if anyF (fun p => tb x p && decide (s 77 0 p < a)) t k = true then -1 else a) :: st) :: fs) s Q := by
  intro k
  induction k with
  | zero =>
    intro t h0 h1
    have e1 : (s 11 0 0 ≤ t) = True := eq_true (by omega)
    rw [r138_45, if_neg (fun z => by cases z)]
    simp only [r138_46, r138_47, r138_50, r138_53, r138_54, r138_55, r138_58, r138_61, r138_62, r138_65, r138_66, r138_67, r138_68, r138_71, r138_72, r138_73, r138_76, r138_79, r138_80, e1, zclr_I, zclr_R, zclr_L, zclr_U, reduceIte, Int.reduceEq, Int.reduceLT, Int.reduceLE, Int.reduceNeg, not_true_eq_false, not_false_eq_true, or_true, true_or, or_false, false_or, and_true, true_and, and_false, false_and, z01_or]
  | succ k ih =>
    intro t h0 h1
    have e1 : (s 11 0 0 ≤ t) = False := eq_false (by omega)
    have b1 : (0 ≤ t ∧ t < 10) = True := eq_true (by omega)
    have w1 : w32 (t + 1) = t + 1 := w32_id (by omega) (by omega)
    have c3 := has_m x0 x1 h0 (show t < 10 by omega)
    have eA : anyF (fun p => tb x p && decide (s 77 0 p < a)) t (k + 1) = ((tb x t && decide (s 77 0 t < a)) || anyF (fun p => tb x p && decide (s 77 0 p < a)) (t + 1) k) := rfl
    rw [r138_45, eA]
    by_cases hz : tb x t = true
    · have q : hb x t = 1 := if_pos hz
      by_cases hy : s 77 0 t < a
      · have y2 : (a ≤ s 77 0 t) = False := eq_false (by omega)
        rw [hz, decide_eq_true hy, if_pos (by rfl)]
        simp only [r138_46, r138_47, r138_50, r138_53, r138_54, r138_55, r138_58, r138_61, r138_62, r138_65, r138_66, r138_67, r138_68, r138_71, r138_72, r138_73, r138_76, r138_79, r138_80, k_hasM, e1, b1, c3, q, y2, w1, zak_40, zln_40, zak_41, zln_41, zak_42, zln_42, zak_43, zln_43, zak_44, zln_44, zak_45, zln_45, zak_46, zln_46, zak_47, zln_47, zak_48, zln_48, zak_49, zln_49, zak_50, zln_50, zak_51, zln_51, zak_52, zln_52, zak_53, zln_53, zak_54, zln_54, zak_55, zln_55, zak_73, zln_73, zak_74, zln_74, zak_75, zln_75, zak_76, zln_76, zak_77, zln_77, zak_78, zln_78, zak_79, zln_79, zak_80, zln_80, zak_81, zln_81, zak_82, zln_82, zak_83, zln_83, zak_84, zln_84, zak_85, zln_85, zak_86, zln_86, zak_87, zln_87, zak_88, zln_88, zak_89, zln_89, zak_90, zln_90, zak_91, zln_91, zak_92, zln_92, zak_93, zln_93, zak_94, zln_94, zak_95, zln_95, zak_96, zln_96, zak_97, zln_97, zak_98, zln_98, zak_99, zln_99, zak_100, zln_100, zak_101, zln_101, zak_102, zln_102, zak_103, zln_103, zak_104, zln_104, zak_105, zln_105, zak_108, zln_108, zak_109, zln_109, Nat.reduceLeDiff, zclr_I, zclr_R, zclr_L, zclr_U, reduceIte, Int.reduceEq, Int.reduceLT, Int.reduceLE, Int.reduceNeg, not_true_eq_false, not_false_eq_true, or_true, true_or, or_false, false_or, and_true, true_and, and_false, false_and, z01_or]
      · have y2 : (a ≤ s 77 0 t) = True := eq_true (by omega)
        rw [hz, decide_eq_false hy, Bool.true_and, Bool.false_or]
        simp only [r138_46, r138_47, r138_50, r138_53, r138_54, r138_55, r138_58, r138_61, r138_62, r138_65, r138_66, r138_67, r138_68, r138_71, r138_72, r138_73, r138_76, r138_79, r138_80, k_hasM, e1, b1, c3, q, y2, w1, zak_40, zln_40, zak_41, zln_41, zak_42, zln_42, zak_43, zln_43, zak_44, zln_44, zak_45, zln_45, zak_46, zln_46, zak_47, zln_47, zak_48, zln_48, zak_49, zln_49, zak_50, zln_50, zak_51, zln_51, zak_52, zln_52, zak_53, zln_53, zak_54, zln_54, zak_55, zln_55, zak_73, zln_73, zak_74, zln_74, zak_75, zln_75, zak_76, zln_76, zak_77, zln_77, zak_78, zln_78, zak_79, zln_79, zak_80, zln_80, zak_81, zln_81, zak_82, zln_82, zak_83, zln_83, zak_84, zln_84, zak_85, zln_85, zak_86, zln_86, zak_87, zln_87, zak_88, zln_88, zak_89, zln_89, zak_90, zln_90, zak_91, zln_91, zak_92, zln_92, zak_93, zln_93, zak_94, zln_94, zak_95, zln_95, zak_96, zln_96, zak_97, zln_97, zak_98, zln_98, zak_99, zln_99, zak_100, zln_100, zak_101, zln_101, zak_102, zln_102, zak_103, zln_103, zak_104, zln_104, zak_105, zln_105, zak_108, zln_108, zak_109, zln_109, Nat.reduceLeDiff, zclr_I, zclr_R, zclr_L, zclr_U, reduceIte, Int.reduceEq, Int.reduceLT, Int.reduceLE, Int.reduceNeg, not_true_eq_false, not_false_eq_true, or_true, true_or, or_false, false_or, and_true, true_and, and_false, false_and, z01_or]
        exact ih (t + 1) (by omega) (by omega)
    · have q : hb x t = 0 := if_neg hz
      rw [Bool.eq_false_iff.mpr hz, Bool.false_and, Bool.false_or]
      simp only [r138_46, r138_47, r138_50, r138_53, r138_54, r138_55, r138_58, r138_61, r138_62, r138_65, r138_66, r138_67, r138_68, r138_71, r138_72, r138_73, r138_76, r138_79, r138_80, k_hasM, e1, c3, q, w1, zak_40, zln_40, zak_41, zln_41, zak_42, zln_42, zak_43, zln_43, zak_44, zln_44, zak_45, zln_45, zak_46, zln_46, zak_47, zln_47, zak_48, zln_48, zak_49, zln_49, zak_50, zln_50, zak_51, zln_51, zak_52, zln_52, zak_53, zln_53, zak_54, zln_54, zak_55, zln_55, zak_73, zln_73, zak_74, zln_74, zak_75, zln_75, zak_76, zln_76, zak_77, zln_77, zak_78, zln_78, zak_79, zln_79, zak_80, zln_80, zak_81, zln_81, zak_82, zln_82, zak_83, zln_83, zak_84, zln_84, zak_85, zln_85, zak_86, zln_86, zak_87, zln_87, zak_88, zln_88, zak_89, zln_89, zak_90, zln_90, zak_91, zln_91, zak_92, zln_92, zak_93, zln_93, zak_94, zln_94, zak_95, zln_95, zak_96, zln_96, zak_97, zln_97, zak_98, zln_98, zak_99, zln_99, zak_100, zln_100, zak_101, zln_101, zak_102, zln_102, zak_103, zln_103, zak_104, zln_104, zak_105, zln_105, zak_108, zln_108, zak_109, zln_109, Nat.reduceLeDiff, zclr_I, zclr_R, zclr_L, zclr_U, reduceIte, Int.reduceEq, Int.reduceLT, Int.reduceLE, Int.reduceNeg, not_true_eq_false, not_false_eq_true, or_true, true_or, or_false, false_or, and_true, true_and, and_false, false_and, z01_or]
      exact ih (t + 1) (by omega) (by omega)
theorem k_levelOf (x : Int) (v1 v2 : zV) (x0 : 0 ≤ x) (x1 : x < 1024) (hn : 0 ≤ s 11 0 0) (hP : s 11 0 0 ≤ 10) : Ev ((138, 0, [zR 11 0, zI x, v1, v2], []) :: (m, pc, ls, st) :: fs) s Q = Ev ((m, pc, ls, zI (lvM s x) :: st) :: fs) s Q := by
  simp only [r138_0, r138_1, r138_2, r138_3, zclr_I, zclr_R, zclr_L, zclr_U, reduceIte, Int.reduceEq, Int.reduceLT, Int.reduceLE, Int.reduceNeg, not_true_eq_false, not_false_eq_true, or_true, true_or, or_false, false_or, and_true, true_and, and_false, false_and, z01_or]
  rw [lp138a x x0 x1 hP (s 11 0 0).toNat 0 0 _ (by omega) (by omega)]
  simp only [r138_43, r138_44, zclr_I, zclr_R, zclr_L, zclr_U, reduceIte, Int.reduceEq, Int.reduceLT, Int.reduceLE, Int.reduceNeg, not_true_eq_false, not_false_eq_true, or_true, true_or, or_false, false_or, and_true, true_and, and_false, false_and, z01_or]
  rw [lp138b x _ x0 x1 hP (s 11 0 0).toNat 0 (by omega) (by omega)]
  rfl
def tgM (s : zS) (t x : Int) : Bool := anyF (fun p => tb x p && decide (zand (s 75 0 p) (s 85 0 t) = 0)) 0 (s 11 0 0).toNat
theorem lp140 (u x : Int) (u0 : 0 ≤ u ∧ u < 5) (x0 : 0 ≤ x) (x1 : x < 1024) (hP : s 11 0 0 ≤ 10) : ∀ (k : Nat) (t : Int), 0 ≤ t → t + k = s 11 0 0 → Ev ((140, 2, [zR 11 0, zI u, zI x, zI t], []) :: (m, pc, ls, st) :: fs) s Q = Ev ((m, pc, ls, zI (if anyF (fun p => tb x p && decide (zand (s 75 0 p) (s 85 0 u) = 0)) t k = true then 0 else 1) :: st) :: fs) s Q := by
  intro k
  have bu : (0 ≤ u ∧ u < 5) = True := eq_true u0
  induction k with
  | zero =>
    intro t h0 h1
    have e1 : (s 11 0 0 ≤ t) = True := eq_true (by omega)
    rw [r140_2, if_neg (fun z => by cases z)]
    simp only [r140_0, r140_1, r140_3, r140_4, r140_7, r140_10, r140_11, r140_12, r140_15, r140_18, r140_19, r140_22, r140_23, r140_24, r140_25, r140_28, r140_29, r140_30, r140_31, r140_34, r140_35, r140_36, r140_39, r140_42, r140_43, e1, zclr_I, zclr_R, zclr_L, zclr_U, reduceIte, Int.reduceEq, Int.reduceLT, Int.reduceLE, Int.reduceNeg, not_true_eq_false, not_false_eq_true, or_true, true_or, or_false, false_or, and_true, true_and, and_false, false_and, z01_or]
  | succ k ih =>
    intro t h0 h1
    have e1 : (s 11 0 0 ≤ t) = False := eq_false (by omega)
    have b1 : (0 ≤ t ∧ t < 10) = True := eq_true (by omega)
    have w1 : w32 (t + 1) = t + 1 := w32_id (by omega) (by omega)
    have c3 := has_m x0 x1 h0 (show t < 10 by omega)
    have eA : anyF (fun p => tb x p && decide (zand (s 75 0 p) (s 85 0 u) = 0)) t (k + 1) = ((tb x t && decide (zand (s 75 0 t) (s 85 0 u) = 0)) || anyF (fun p => tb x p && decide (zand (s 75 0 p) (s 85 0 u) = 0)) (t + 1) k) := rfl
    rw [r140_2, eA]
    by_cases hz : tb x t = true
    · have q : hb x t = 1 := if_pos hz
      by_cases hy : zand (s 75 0 t) (s 85 0 u) = 0
      · rw [hz, decide_eq_true hy, if_pos (by rfl)]
        simp only [r140_0, r140_1, r140_3, r140_4, r140_7, r140_10, r140_11, r140_12, r140_15, r140_18, r140_19, r140_22, r140_23, r140_24, r140_25, r140_28, r140_29, r140_30, r140_31, r140_34, r140_35, r140_36, r140_39, r140_42, r140_43, k_hasM, e1, b1, bu, c3, q, hy, w1, zak_40, zln_40, zak_41, zln_41, zak_42, zln_42, zak_43, zln_43, zak_44, zln_44, zak_45, zln_45, zak_46, zln_46, zak_47, zln_47, zak_48, zln_48, zak_49, zln_49, zak_50, zln_50, zak_51, zln_51, zak_52, zln_52, zak_53, zln_53, zak_54, zln_54, zak_55, zln_55, zak_73, zln_73, zak_74, zln_74, zak_75, zln_75, zak_76, zln_76, zak_77, zln_77, zak_78, zln_78, zak_79, zln_79, zak_80, zln_80, zak_81, zln_81, zak_82, zln_82, zak_83, zln_83, zak_84, zln_84, zak_85, zln_85, zak_86, zln_86, zak_87, zln_87, zak_88, zln_88, zak_89, zln_89, zak_90, zln_90, zak_91, zln_91, zak_92, zln_92, zak_93, zln_93, zak_94, zln_94, zak_95, zln_95, zak_96, zln_96, zak_97, zln_97, zak_98, zln_98, zak_99, zln_99, zak_100, zln_100, zak_101, zln_101, zak_102, zln_102, zak_103, zln_103, zak_104, zln_104, zak_105, zln_105, zak_108, zln_108, zak_109, zln_109, Nat.reduceLeDiff, zclr_I, zclr_R, zclr_L, zclr_U, reduceIte, Int.reduceEq, Int.reduceLT, Int.reduceLE, Int.reduceNeg, not_true_eq_false, not_false_eq_true, or_true, true_or, or_false, false_or, and_true, true_and, and_false, false_and, z01_or]
      · rw [hz, decide_eq_false hy, Bool.true_and, Bool.false_or]
        simp only [r140_0, r140_1, r140_3, r140_4, r140_7, r140_10, r140_11, r140_12, r140_15, r140_18, r140_19, r140_22, r140_23, r140_24, r140_25, r140_28, r140_29, r140_30, r140_31, r140_34, r140_35, r140_36, r140_39, r140_42, r140_43, k_hasM, e1, b1, bu, c3, q, hy, w1, zak_40, zln_40, zak_41, zln_41, zak_42, zln_42, zak_43, zln_43, zak_44, zln_44, zak_45, zln_45, zak_46, zln_46, zak_47, zln_47, zak_48, zln_48, zak_49, zln_49, zak_50, zln_50, zak_51, zln_51, zak_52, zln_52, zak_53, zln_53, zak_54, zln_54, zak_55, zln_55, zak_73, zln_73, zak_74, zln_74, zak_75, zln_75, zak_76, zln_76, zak_77, zln_77, zak_78, zln_78, zak_79, zln_79, zak_80, zln_80, zak_81, zln_81, zak_82, zln_82, zak_83, zln_83, zak_84, zln_84, zak_85, zln_85, zak_86, zln_86, zak_87, zln_87, zak_88, zln_88, zak_89, zln_89, zak_90, zln_90, zak_91, zln_91, zak_92, zln_92, zak_93, zln_93, zak_94, zln_94, zak_95, zln_95, zak_96, zln_96, zak_97, zln_97, zak_98, zln_98, zak_99, zln_99, zak_100, zln_100, zak_101, zln_101, zak_102, zln_102, zak_103, zln_103, zak_104, zln_104, zak_105, zln_105, zak_108, zln_108, zak_109, zln_109, Nat.reduceLeDiff, zclr_I, zclr_R, zclr_L, zclr_U, reduceIte, Int.reduceEq, Int.reduceLT, Int.reduceLE, Int.reduceNeg, not_true_eq_false, not_false_eq_true, or_true, true_or, or_false, false_or, and_true, true_and, and_false, false_and, z01_or]
        exact ih (t + 1) (by omega) (by omega)
    · have q : hb x t = 0 := if_neg hz
      rw [Bool.eq_false_iff.mpr hz, Bool.false_and, Bool.false_or]
      simp only [r140_0, r140_1, r140_3, r140_4, r140_7, r140_10, r140_11, r140_12, r140_15, r140_18, r140_19, r140_22, r140_23, r140_24, r140_25, r140_28, r140_29, r140_30, r140_31, r140_34, r140_35, r140_36, r140_39, r140_42, r140_43, k_hasM, e1, c3, q, w1, zak_40, zln_40, zak_41, zln_41, zak_42, zln_42, zak_43, zln_43, zak_44, zln_44, zak_45, zln_45, zak_46, zln_46, zak_47, zln_47, zak_48, zln_48, zak_49, zln_49, zak_50, zln_50, zak_51, zln_51, zak_52, zln_52, zak_53, zln_53, zak_54, zln_54, zak_55, zln_55, zak_73, zln_73, zak_74, zln_74, zak_75, zln_75, zak_76, zln_76, zak_77, zln_77, zak_78, zln_78, zak_79, zln_79, zak_80, zln_80, zak_81, zln_81, zak_82, zln_82, zak_83, zln_83, zak_84, zln_84, zak_85, zln_85, zak_86, zln_86, zak_87, zln_87, zak_88, zln_88, zak_89, zln_89, zak_90, zln_90, zak_91, zln_91, zak_92, zln_92, zak_93, zln_93, zak_94, zln_94, zak_95, zln_95, zak_96, zln_96, zak_97, zln_97, zak_98, zln_98, zak_99, zln_99, zak_100, zln_100, zak_101, zln_101, zak_102, zln_102, zak_103, zln_103, zak_104, zln_104, zak_105, zln_105, zak_108, zln_108, zak_109, zln_109, Nat.reduceLeDiff, zclr_I, zclr_R, zclr_L, zclr_U, reduceIte, Int.reduceEq, Int.reduceLT, Int.reduceLE, Int.reduceNeg, not_true_eq_false, not_false_eq_true, or_true, true_or, or_false, false_or, and_true, true_and, and_false, false_and, z01_or]
      exact ih (t + 1) (by omega) (by omega)
def kdM (s : zS) (x w : Int) : Bool := anyF (fun p => tb x p && decide (s 73 0 p = w)) 0 (s 11 0 0).toNat
theorem lp141 (x w : Int) (x0 : 0 ≤ x) (x1 : x < 1024) (hP : s 11 0 0 ≤ 10) : ∀ (k : Nat) (t : Int), 0 ≤ t → t + k = s 11 0 0 → Ev ((141, 2, [zR 11 0, zI x, zI w, zI t], []) :: (m, pc, ls, st) :: fs) s Q = Ev ((m, pc, ls, zI (if anyF (fun p => tb x p && decide (s 73 0 p = w)) t k = true then 1 else 0) :: st) :: fs) s Q := by
  intro k
  induction k with
  | zero =>
    intro t h0 h1
    have e1 : (s 11 0 0 ≤ t) = True := eq_true (by omega)
    rw [r141_2, if_neg (fun z => by cases z)]
    simp only [r141_0, r141_1, r141_3, r141_4, r141_7, r141_10, r141_11, r141_12, r141_15, r141_18, r141_19, r141_22, r141_23, r141_24, r141_25, r141_28, r141_29, r141_30, r141_33, r141_36, r141_37, e1, zclr_I, zclr_R, zclr_L, zclr_U, reduceIte, Int.reduceEq, Int.reduceLT, Int.reduceLE, Int.reduceNeg, not_true_eq_false, not_false_eq_true, or_true, true_or, or_false, false_or, and_true, true_and, and_false, false_and, z01_or]
  | succ k ih =>
    intro t h0 h1
    have e1 : (s 11 0 0 ≤ t) = False := eq_false (by omega)
    have b1 : (0 ≤ t ∧ t < 10) = True := eq_true (by omega)
    have w1 : w32 (t + 1) = t + 1 := w32_id (by omega) (by omega)
    have c3 := has_m x0 x1 h0 (show t < 10 by omega)
    have eA : anyF (fun p => tb x p && decide (s 73 0 p = w)) t (k + 1) = ((tb x t && decide (s 73 0 t = w)) || anyF (fun p => tb x p && decide (s 73 0 p = w)) (t + 1) k) := rfl
    rw [r141_2, eA]
    by_cases hz : tb x t = true
    · have q : hb x t = 1 := if_pos hz
      by_cases hy : s 73 0 t = w
      · rw [hz, decide_eq_true hy, if_pos (by rfl)]
        have hy := eq_true hy
        simp only [r141_0, r141_1, r141_3, r141_4, r141_7, r141_10, r141_11, r141_12, r141_15, r141_18, r141_19, r141_22, r141_23, r141_24, r141_25, r141_28, r141_29, r141_30, r141_33, r141_36, r141_37, k_hasM, e1, b1, c3, q, hy, w1, zak_40, zln_40, zak_41, zln_41, zak_42, zln_42, zak_43, zln_43, zak_44, zln_44, zak_45, zln_45, zak_46, zln_46, zak_47, zln_47, zak_48, zln_48, zak_49, zln_49, zak_50, zln_50, zak_51, zln_51, zak_52, zln_52, zak_53, zln_53, zak_54, zln_54, zak_55, zln_55, zak_73, zln_73, zak_74, zln_74, zak_75, zln_75, zak_76, zln_76, zak_77, zln_77, zak_78, zln_78, zak_79, zln_79, zak_80, zln_80, zak_81, zln_81, zak_82, zln_82, zak_83, zln_83, zak_84, zln_84, zak_85, zln_85, zak_86, zln_86, zak_87, zln_87, zak_88, zln_88, zak_89, zln_89, zak_90, zln_90, zak_91, zln_91, zak_92, zln_92, zak_93, zln_93, zak_94, zln_94, zak_95, zln_95, zak_96, zln_96, zak_97, zln_97, zak_98, zln_98, zak_99, zln_99, zak_100, zln_100, zak_101, zln_101, zak_102, zln_102, zak_103, zln_103, zak_104, zln_104, zak_105, zln_105, zak_108, zln_108, zak_109, zln_109, Nat.reduceLeDiff, zclr_I, zclr_R, zclr_L, zclr_U, reduceIte, Int.reduceEq, Int.reduceLT, Int.reduceLE, Int.reduceNeg, not_true_eq_false, not_false_eq_true, or_true, true_or, or_false, false_or, and_true, true_and, and_false, false_and, z01_or]
      · rw [hz, decide_eq_false hy, Bool.true_and, Bool.false_or]
        simp only [r141_0, r141_1, r141_3, r141_4, r141_7, r141_10, r141_11, r141_12, r141_15, r141_18, r141_19, r141_22, r141_23, r141_24, r141_25, r141_28, r141_29, r141_30, r141_33, r141_36, r141_37, k_hasM, e1, b1, c3, q, hy, w1, zak_40, zln_40, zak_41, zln_41, zak_42, zln_42, zak_43, zln_43, zak_44, zln_44, zak_45, zln_45, zak_46, zln_46, zak_47, zln_47, zak_48, zln_48, zak_49, zln_49, zak_50, zln_50, zak_51, zln_51, zak_52, zln_52, zak_53, zln_53, zak_54, zln_54, zak_55, zln_55, zak_73, zln_73, zak_74, zln_74, zak_75, zln_75, zak_76, zln_76, zak_77, zln_77, zak_78, zln_78, zak_79, zln_79, zak_80, zln_80, zak_81, zln_81, zak_82, zln_82, zak_83, zln_83, zak_84, zln_84, zak_85, zln_85, zak_86, zln_86, zak_87, zln_87, zak_88, zln_88, zak_89, zln_89, zak_90, zln_90, zak_91, zln_91, zak_92, zln_92, zak_93, zln_93, zak_94, zln_94, zak_95, zln_95, zak_96, zln_96, zak_97, zln_97, zak_98, zln_98, zak_99, zln_99, zak_100, zln_100, zak_101, zln_101, zak_102, zln_102, zak_103, zln_103, zak_104, zln_104, zak_105, zln_105, zak_108, zln_108, zak_109, zln_109, Nat.reduceLeDiff, zclr_I, zclr_R, zclr_L, zclr_U, reduceIte, Int.reduceEq, Int.reduceLT, Int.reduceLE, Int.reduceNeg, not_true_eq_false, not_false_eq_true, or_true, true_or, or_false, false_or, and_true, true_and, and_false, false_and, z01_or]
        exact ih (t + 1) (by omega) (by omega)
    · have q : hb x t = 0 := if_neg hz
      rw [Bool.eq_false_iff.mpr hz, Bool.false_and, Bool.false_or]
      simp only [r141_0, r141_1, r141_3, r141_4, r141_7, r141_10, r141_11, r141_12, r141_15, r141_18, r141_19, r141_22, r141_23, r141_24, r141_25, r141_28, r141_29, r141_30, r141_33, r141_36, r141_37, k_hasM, e1, c3, q, w1, zak_40, zln_40, zak_41, zln_41, zak_42, zln_42, zak_43, zln_43, zak_44, zln_44, zak_45, zln_45, zak_46, zln_46, zak_47, zln_47, zak_48, zln_48, zak_49, zln_49, zak_50, zln_50, zak_51, zln_51, zak_52, zln_52, zak_53, zln_53, zak_54, zln_54, zak_55, zln_55, zak_73, zln_73, zak_74, zln_74, zak_75, zln_75, zak_76, zln_76, zak_77, zln_77, zak_78, zln_78, zak_79, zln_79, zak_80, zln_80, zak_81, zln_81, zak_82, zln_82, zak_83, zln_83, zak_84, zln_84, zak_85, zln_85, zak_86, zln_86, zak_87, zln_87, zak_88, zln_88, zak_89, zln_89, zak_90, zln_90, zak_91, zln_91, zak_92, zln_92, zak_93, zln_93, zak_94, zln_94, zak_95, zln_95, zak_96, zln_96, zak_97, zln_97, zak_98, zln_98, zak_99, zln_99, zak_100, zln_100, zak_101, zln_101, zak_102, zln_102, zak_103, zln_103, zak_104, zln_104, zak_105, zln_105, zak_108, zln_108, zak_109, zln_109, Nat.reduceLeDiff, zclr_I, zclr_R, zclr_L, zclr_U, reduceIte, Int.reduceEq, Int.reduceLT, Int.reduceLE, Int.reduceNeg, not_true_eq_false, not_false_eq_true, or_true, true_or, or_false, false_or, and_true, true_and, and_false, false_and, z01_or]
      exact ih (t + 1) (by omega) (by omega)
theorem k_hasKind (x w : Int) (v : zV) (x0 : 0 ≤ x) (x1 : x < 1024) (hn : 0 ≤ s 11 0 0) (hP : s 11 0 0 ≤ 10) : Ev ((141, 0, [zR 11 0, zI x, zI w, v], []) :: (m, pc, ls, st) :: fs) s Q = Ev ((m, pc, ls, zI (if kdM s x w = true then 1 else 0) :: st) :: fs) s Q := by
  simp only [r141_0, r141_1, zclr_I, zclr_R, zclr_L, zclr_U, reduceIte, Int.reduceEq, Int.reduceLT, Int.reduceLE, Int.reduceNeg, not_true_eq_false, not_false_eq_true, or_true, true_or, or_false, false_or, and_true, true_and, and_false, false_and, z01_or]
  exact lp141 x w x0 x1 hP (s 11 0 0).toNat 0 (by omega) (by omega)
def yngM (s : zS) (x : Int) : Int := mnF (fun p => s 74 0 p) x 1000 0 (s 11 0 0).toNat
def oldM (s : zS) (x : Int) : Int := mxF (fun p => s 74 0 p) x 0 0 (s 11 0 0).toNat
theorem lp142 (x : Int) (x0 : 0 ≤ x) (x1 : x < 1024) (hP : s 11 0 0 ≤ 10) : ∀ (k : Nat) (t a b : Int) (F : List zFr), 0 ≤ t → t + k = s 11 0 0 → Ev ((142, 9, [zR 11 0, zI x, zI a, zI b, zI t], []) :: F) s Q = Ev ((142, 82, [zR 11 0, zI x, zI (mnF (fun p => s 74 0 p) x a t k), zI (mxF (fun p => s 74 0 p) x b t k), zI (s 11 0 0)], []) :: F) s Q := by
  intro k
  induction k with
  | zero =>
    intro t a b F h0 h1
    have e1 : (s 11 0 0 ≤ t) = True := eq_true (by omega)
    have e2 : t = s 11 0 0 := by omega
    rw [r142_9]
    simp only [r142_11, r142_12, r142_15, r142_18, r142_19, r142_21, r142_24, r142_27, r142_30, r142_31, r142_34, r142_36, r142_37, r142_38, r142_41, r142_42, r142_45, r142_47, r142_48, r142_51, r142_52, r142_53, r142_54, r142_57, r142_59, r142_60, r142_61, r142_64, r142_65, r142_68, r142_70, r142_71, r142_74, r142_75, r142_76, r142_79, e1, mxF, mnF, foldI, zclr_I, zclr_R, zclr_L, zclr_U, reduceIte, Int.reduceEq, Int.reduceLT, Int.reduceLE, Int.reduceNeg, not_true_eq_false, not_false_eq_true, or_true, true_or, or_false, false_or, and_true, true_and, and_false, false_and, z01_or]
    rw [e2]
  | succ k ih =>
    intro t a b F h0 h1
    have e1 : (s 11 0 0 ≤ t) = False := eq_false (by omega)
    have b1 : (0 ≤ t ∧ t < 10) = True := eq_true (by omega)
    have w1 : w32 (t + 1) = t + 1 := w32_id (by omega) (by omega)
    have c3 := has_m x0 x1 h0 (show t < 10 by omega)
    rw [r142_9, mxF_s, mnF_s]
    by_cases hz : tb x t = true
    · have q : hb x t = 1 := if_pos hz
      rw [if_pos hz, if_pos hz]
      by_cases hy : b < s 74 0 t
      · have y2 : (s 74 0 t ≤ b) = False := eq_false (by omega)
        have y3 : nlo b (s 74 0 t) = s 74 0 t := if_pos hy
        rw [y3]
        by_cases hx : s 74 0 t < a
        · have z2 : (a ≤ s 74 0 t) = False := eq_false (by omega)
          have z3 : nhi a (s 74 0 t) = s 74 0 t := if_pos hx
          rw [z3]
          simp only [r142_11, r142_12, r142_15, r142_18, r142_19, r142_21, r142_24, r142_27, r142_30, r142_31, r142_34, r142_36, r142_37, r142_38, r142_41, r142_42, r142_45, r142_47, r142_48, r142_51, r142_52, r142_53, r142_54, r142_57, r142_59, r142_60, r142_61, r142_64, r142_65, r142_68, r142_70, r142_71, r142_74, r142_75, r142_76, r142_79, k_hasM, e1, b1, c3, q, y2, z2, w1, zak_40, zln_40, zak_41, zln_41, zak_42, zln_42, zak_43, zln_43, zak_44, zln_44, zak_45, zln_45, zak_46, zln_46, zak_47, zln_47, zak_48, zln_48, zak_49, zln_49, zak_50, zln_50, zak_51, zln_51, zak_52, zln_52, zak_53, zln_53, zak_54, zln_54, zak_55, zln_55, zak_73, zln_73, zak_74, zln_74, zak_75, zln_75, zak_76, zln_76, zak_77, zln_77, zak_78, zln_78, zak_79, zln_79, zak_80, zln_80, zak_81, zln_81, zak_82, zln_82, zak_83, zln_83, zak_84, zln_84, zak_85, zln_85, zak_86, zln_86, zak_87, zln_87, zak_88, zln_88, zak_89, zln_89, zak_90, zln_90, zak_91, zln_91, zak_92, zln_92, zak_93, zln_93, zak_94, zln_94, zak_95, zln_95, zak_96, zln_96, zak_97, zln_97, zak_98, zln_98, zak_99, zln_99, zak_100, zln_100, zak_101, zln_101, zak_102, zln_102, zak_103, zln_103, zak_104, zln_104, zak_105, zln_105, zak_108, zln_108, zak_109, zln_109, Nat.reduceLeDiff, zclr_I, zclr_R, zclr_L, zclr_U, reduceIte, Int.reduceEq, Int.reduceLT, Int.reduceLE, Int.reduceNeg, not_true_eq_false, not_false_eq_true, or_true, true_or, or_false, false_or, and_true, true_and, and_false, false_and, z01_or]
          exact ih (t + 1) _ _ F (by omega) (by omega)
        · have z2 : (a ≤ s 74 0 t) = True := eq_true (by omega)
          have z3 : nhi a (s 74 0 t) = a := if_neg hx
          rw [z3]
          simp only [r142_11, r142_12, r142_15, r142_18, r142_19, r142_21, r142_24, r142_27, r142_30, r142_31, r142_34, r142_36, r142_37, r142_38, r142_41, r142_42, r142_45, r142_47, r142_48, r142_51, r142_52, r142_53, r142_54, r142_57, r142_59, r142_60, r142_61, r142_64, r142_65, r142_68, r142_70, r142_71, r142_74, r142_75, r142_76, r142_79, k_hasM, e1, b1, c3, q, y2, z2, w1, zak_40, zln_40, zak_41, zln_41, zak_42, zln_42, zak_43, zln_43, zak_44, zln_44, zak_45, zln_45, zak_46, zln_46, zak_47, zln_47, zak_48, zln_48, zak_49, zln_49, zak_50, zln_50, zak_51, zln_51, zak_52, zln_52, zak_53, zln_53, zak_54, zln_54, zak_55, zln_55, zak_73, zln_73, zak_74, zln_74, zak_75, zln_75, zak_76, zln_76, zak_77, zln_77, zak_78, zln_78, zak_79, zln_79, zak_80, zln_80, zak_81, zln_81, zak_82, zln_82, zak_83, zln_83, zak_84, zln_84, zak_85, zln_85, zak_86, zln_86, zak_87, zln_87, zak_88, zln_88, zak_89, zln_89, zak_90, zln_90, zak_91, zln_91, zak_92, zln_92, zak_93, zln_93, zak_94, zln_94, zak_95, zln_95, zak_96, zln_96, zak_97, zln_97, zak_98, zln_98, zak_99, zln_99, zak_100, zln_100, zak_101, zln_101, zak_102, zln_102, zak_103, zln_103, zak_104, zln_104, zak_105, zln_105, zak_108, zln_108, zak_109, zln_109, Nat.reduceLeDiff, zclr_I, zclr_R, zclr_L, zclr_U, reduceIte, Int.reduceEq, Int.reduceLT, Int.reduceLE, Int.reduceNeg, not_true_eq_false, not_false_eq_true, or_true, true_or, or_false, false_or, and_true, true_and, and_false, false_and, z01_or]
          exact ih (t + 1) _ _ F (by omega) (by omega)
      · have y2 : (s 74 0 t ≤ b) = True := eq_true (by omega)
        have y3 : nlo b (s 74 0 t) = b := if_neg hy
        rw [y3]
        by_cases hx : s 74 0 t < a
        · have z2 : (a ≤ s 74 0 t) = False := eq_false (by omega)
          have z3 : nhi a (s 74 0 t) = s 74 0 t := if_pos hx
          rw [z3]
          simp only [r142_11, r142_12, r142_15, r142_18, r142_19, r142_21, r142_24, r142_27, r142_30, r142_31, r142_34, r142_36, r142_37, r142_38, r142_41, r142_42, r142_45, r142_47, r142_48, r142_51, r142_52, r142_53, r142_54, r142_57, r142_59, r142_60, r142_61, r142_64, r142_65, r142_68, r142_70, r142_71, r142_74, r142_75, r142_76, r142_79, k_hasM, e1, b1, c3, q, y2, z2, w1, zak_40, zln_40, zak_41, zln_41, zak_42, zln_42, zak_43, zln_43, zak_44, zln_44, zak_45, zln_45, zak_46, zln_46, zak_47, zln_47, zak_48, zln_48, zak_49, zln_49, zak_50, zln_50, zak_51, zln_51, zak_52, zln_52, zak_53, zln_53, zak_54, zln_54, zak_55, zln_55, zak_73, zln_73, zak_74, zln_74, zak_75, zln_75, zak_76, zln_76, zak_77, zln_77, zak_78, zln_78, zak_79, zln_79, zak_80, zln_80, zak_81, zln_81, zak_82, zln_82, zak_83, zln_83, zak_84, zln_84, zak_85, zln_85, zak_86, zln_86, zak_87, zln_87, zak_88, zln_88, zak_89, zln_89, zak_90, zln_90, zak_91, zln_91, zak_92, zln_92, zak_93, zln_93, zak_94, zln_94, zak_95, zln_95, zak_96, zln_96, zak_97, zln_97, zak_98, zln_98, zak_99, zln_99, zak_100, zln_100, zak_101, zln_101, zak_102, zln_102, zak_103, zln_103, zak_104, zln_104, zak_105, zln_105, zak_108, zln_108, zak_109, zln_109, Nat.reduceLeDiff, zclr_I, zclr_R, zclr_L, zclr_U, reduceIte, Int.reduceEq, Int.reduceLT, Int.reduceLE, Int.reduceNeg, not_true_eq_false, not_false_eq_true, or_true, true_or, or_false, false_or, and_true, true_and, and_false, false_and, z01_or]
          exact ih (t + 1) _ _ F (by omega) (by omega)
        · have z2 : (a ≤ s 74 0 t) = True := eq_true (by omega)
          have z3 : nhi a (s 74 0 t) = a := if_neg hx
          rw [z3]
          simp only [r142_11, r142_12, r142_15, r142_18, r142_19, r142_21, r142_24, r142_27, r142_30, r142_31, r142_34, r142_36, r142_37, r142_38, r142_41, r142_42, r142_45, r142_47, r142_48, r142_51, r142_52, r142_53, r142_54, r142_57, r142_59, r142_60, r142_61, r142_64, r142_65, r142_68, r142_70, r142_71, r142_74, r142_75, r142_76, r142_79, k_hasM, e1, b1, c3, q, y2, z2, w1, zak_40, zln_40, zak_41, zln_41, zak_42, zln_42, zak_43, zln_43, zak_44, zln_44, zak_45, zln_45, zak_46, zln_46, zak_47, zln_47, zak_48, zln_48, zak_49, zln_49, zak_50, zln_50, zak_51, zln_51, zak_52, zln_52, zak_53, zln_53, zak_54, zln_54, zak_55, zln_55, zak_73, zln_73, zak_74, zln_74, zak_75, zln_75, zak_76, zln_76, zak_77, zln_77, zak_78, zln_78, zak_79, zln_79, zak_80, zln_80, zak_81, zln_81, zak_82, zln_82, zak_83, zln_83, zak_84, zln_84, zak_85, zln_85, zak_86, zln_86, zak_87, zln_87, zak_88, zln_88, zak_89, zln_89, zak_90, zln_90, zak_91, zln_91, zak_92, zln_92, zak_93, zln_93, zak_94, zln_94, zak_95, zln_95, zak_96, zln_96, zak_97, zln_97, zak_98, zln_98, zak_99, zln_99, zak_100, zln_100, zak_101, zln_101, zak_102, zln_102, zak_103, zln_103, zak_104, zln_104, zak_105, zln_105, zak_108, zln_108, zak_109, zln_109, Nat.reduceLeDiff, zclr_I, zclr_R, zclr_L, zclr_U, reduceIte, Int.reduceEq, Int.reduceLT, Int.reduceLE, Int.reduceNeg, not_true_eq_false, not_false_eq_true, or_true, true_or, or_false, false_or, and_true, true_and, and_false, false_and, z01_or]
          exact ih (t + 1) _ _ F (by omega) (by omega)
    · have q : hb x t = 0 := if_neg hz
      rw [if_neg hz, if_neg hz]
      simp only [r142_11, r142_12, r142_15, r142_18, r142_19, r142_21, r142_24, r142_27, r142_30, r142_31, r142_34, r142_36, r142_37, r142_38, r142_41, r142_42, r142_45, r142_47, r142_48, r142_51, r142_52, r142_53, r142_54, r142_57, r142_59, r142_60, r142_61, r142_64, r142_65, r142_68, r142_70, r142_71, r142_74, r142_75, r142_76, r142_79, k_hasM, e1, c3, q, w1, zak_40, zln_40, zak_41, zln_41, zak_42, zln_42, zak_43, zln_43, zak_44, zln_44, zak_45, zln_45, zak_46, zln_46, zak_47, zln_47, zak_48, zln_48, zak_49, zln_49, zak_50, zln_50, zak_51, zln_51, zak_52, zln_52, zak_53, zln_53, zak_54, zln_54, zak_55, zln_55, zak_73, zln_73, zak_74, zln_74, zak_75, zln_75, zak_76, zln_76, zak_77, zln_77, zak_78, zln_78, zak_79, zln_79, zak_80, zln_80, zak_81, zln_81, zak_82, zln_82, zak_83, zln_83, zak_84, zln_84, zak_85, zln_85, zak_86, zln_86, zak_87, zln_87, zak_88, zln_88, zak_89, zln_89, zak_90, zln_90, zak_91, zln_91, zak_92, zln_92, zak_93, zln_93, zak_94, zln_94, zak_95, zln_95, zak_96, zln_96, zak_97, zln_97, zak_98, zln_98, zak_99, zln_99, zak_100, zln_100, zak_101, zln_101, zak_102, zln_102, zak_103, zln_103, zak_104, zln_104, zak_105, zln_105, zak_108, zln_108, zak_109, zln_109, Nat.reduceLeDiff, zclr_I, zclr_R, zclr_L, zclr_U, reduceIte, Int.reduceEq, Int.reduceLT, Int.reduceLE, Int.reduceNeg, not_true_eq_false, not_false_eq_true, or_true, true_or, or_false, false_or, and_true, true_and, and_false, false_and, z01_or]
      exact ih (t + 1) _ _ F (by omega) (by omega)
def frM (s : zS) (x : Int) : Bool := anyF (fun p => tb x p && decide (0 ≤ s 78 0 p ∧ ¬ s 83 0 (s 78 0 p) = 0 ∧ ¬ tb x (s 78 0 p) = true)) 0 (s 11 0 0).toNat
theorem lp143 (x : Int) (x0 : 0 ≤ x) (x1 : x < 1024) (hP : s 11 0 0 ≤ 10) (hF : ∀ p : Int, 0 ≤ p → p < s 11 0 0 → s 78 0 p < 10) : ∀ (k : Nat) (t : Int), 0 ≤ t → t + k = s 11 0 0 → Ev ((143, 2, [zR 11 0, zI x, zI t], []) :: (m, pc, ls, st) :: fs) s Q = Ev ((m, pc, ls, zI (if anyF (fun p => tb x p && decide (0 ≤ s 78 0 p ∧ ¬ s 83 0 (s 78 0 p) = 0 ∧ ¬ tb x (s 78 0 p) = true)) t k = true then 0 else 1) :: st) :: fs) s Q := by
  intro k
  induction k with
  | zero =>
    intro t h0 h1
    have e1 : (s 11 0 0 ≤ t) = True := eq_true (by omega)
    rw [r143_2, if_neg (fun z => by cases z)]
    simp only [r143_0, r143_1, r143_3, r143_4, r143_7, r143_10, r143_11, r143_12, r143_15, r143_18, r143_19, r143_22, r143_23, r143_24, r143_27, r143_28, r143_31, r143_32, r143_35, r143_36, r143_37, r143_38, r143_41, r143_42, r143_43, r143_46, r143_47, r143_48, r143_51, r143_54, r143_55, r143_56, r143_59, r143_62, r143_63, e1, zclr_I, zclr_R, zclr_L, zclr_U, reduceIte, Int.reduceEq, Int.reduceLT, Int.reduceLE, Int.reduceNeg, not_true_eq_false, not_false_eq_true, or_true, true_or, or_false, false_or, and_true, true_and, and_false, false_and, z01_or]
  | succ k ih =>
    intro t h0 h1
    have e1 : (s 11 0 0 ≤ t) = False := eq_false (by omega)
    have b1 : (0 ≤ t ∧ t < 10) = True := eq_true (by omega)
    have w1 : w32 (t + 1) = t + 1 := w32_id (by omega) (by omega)
    have c3 := has_m x0 x1 h0 (show t < 10 by omega)
    have hf := hF t h0 (by omega)
    have eA : anyF (fun p => tb x p && decide (0 ≤ s 78 0 p ∧ ¬ s 83 0 (s 78 0 p) = 0 ∧ ¬ tb x (s 78 0 p) = true)) t (k + 1) = ((tb x t && decide (0 ≤ s 78 0 t ∧ ¬ s 83 0 (s 78 0 t) = 0 ∧ ¬ tb x (s 78 0 t) = true)) || anyF (fun p => tb x p && decide (0 ≤ s 78 0 p ∧ ¬ s 83 0 (s 78 0 p) = 0 ∧ ¬ tb x (s 78 0 p) = true)) (t + 1) k) := rfl
    rw [r143_2, eA]
    by_cases hz : tb x t = true
    · have q : hb x t = 1 := if_pos hz
      by_cases hy : s 78 0 t < 0
      · rw [hz, decide_eq_false (by omega), Bool.true_and, Bool.false_or]
        simp only [r143_0, r143_1, r143_3, r143_4, r143_7, r143_10, r143_11, r143_12, r143_15, r143_18, r143_19, r143_22, r143_23, r143_24, r143_27, r143_28, r143_31, r143_32, r143_35, r143_36, r143_37, r143_38, r143_41, r143_42, r143_43, r143_46, r143_47, r143_48, r143_51, r143_54, r143_55, r143_56, r143_59, r143_62, r143_63, k_hasM, e1, b1, c3, q, hy, w1, zak_40, zln_40, zak_41, zln_41, zak_42, zln_42, zak_43, zln_43, zak_44, zln_44, zak_45, zln_45, zak_46, zln_46, zak_47, zln_47, zak_48, zln_48, zak_49, zln_49, zak_50, zln_50, zak_51, zln_51, zak_52, zln_52, zak_53, zln_53, zak_54, zln_54, zak_55, zln_55, zak_73, zln_73, zak_74, zln_74, zak_75, zln_75, zak_76, zln_76, zak_77, zln_77, zak_78, zln_78, zak_79, zln_79, zak_80, zln_80, zak_81, zln_81, zak_82, zln_82, zak_83, zln_83, zak_84, zln_84, zak_85, zln_85, zak_86, zln_86, zak_87, zln_87, zak_88, zln_88, zak_89, zln_89, zak_90, zln_90, zak_91, zln_91, zak_92, zln_92, zak_93, zln_93, zak_94, zln_94, zak_95, zln_95, zak_96, zln_96, zak_97, zln_97, zak_98, zln_98, zak_99, zln_99, zak_100, zln_100, zak_101, zln_101, zak_102, zln_102, zak_103, zln_103, zak_104, zln_104, zak_105, zln_105, zak_108, zln_108, zak_109, zln_109, Nat.reduceLeDiff, zclr_I, zclr_R, zclr_L, zclr_U, reduceIte, Int.reduceEq, Int.reduceLT, Int.reduceLE, Int.reduceNeg, not_true_eq_false, not_false_eq_true, or_true, true_or, or_false, false_or, and_true, true_and, and_false, false_and, z01_or]
        exact ih (t + 1) (by omega) (by omega)
      · have b2 : (0 ≤ s 78 0 t ∧ s 78 0 t < 10) = True := eq_true (by omega)
        have c4 := has_m x0 x1 (show 0 ≤ s 78 0 t by omega) hf
        by_cases hx : s 83 0 (s 78 0 t) = 0
        · rw [hz, decide_eq_false (fun z => z.2.1 hx), Bool.true_and, Bool.false_or]
          simp only [r143_0, r143_1, r143_3, r143_4, r143_7, r143_10, r143_11, r143_12, r143_15, r143_18, r143_19, r143_22, r143_23, r143_24, r143_27, r143_28, r143_31, r143_32, r143_35, r143_36, r143_37, r143_38, r143_41, r143_42, r143_43, r143_46, r143_47, r143_48, r143_51, r143_54, r143_55, r143_56, r143_59, r143_62, r143_63, k_hasM, e1, b1, b2, c3, q, hy, hx, w1, zak_40, zln_40, zak_41, zln_41, zak_42, zln_42, zak_43, zln_43, zak_44, zln_44, zak_45, zln_45, zak_46, zln_46, zak_47, zln_47, zak_48, zln_48, zak_49, zln_49, zak_50, zln_50, zak_51, zln_51, zak_52, zln_52, zak_53, zln_53, zak_54, zln_54, zak_55, zln_55, zak_73, zln_73, zak_74, zln_74, zak_75, zln_75, zak_76, zln_76, zak_77, zln_77, zak_78, zln_78, zak_79, zln_79, zak_80, zln_80, zak_81, zln_81, zak_82, zln_82, zak_83, zln_83, zak_84, zln_84, zak_85, zln_85, zak_86, zln_86, zak_87, zln_87, zak_88, zln_88, zak_89, zln_89, zak_90, zln_90, zak_91, zln_91, zak_92, zln_92, zak_93, zln_93, zak_94, zln_94, zak_95, zln_95, zak_96, zln_96, zak_97, zln_97, zak_98, zln_98, zak_99, zln_99, zak_100, zln_100, zak_101, zln_101, zak_102, zln_102, zak_103, zln_103, zak_104, zln_104, zak_105, zln_105, zak_108, zln_108, zak_109, zln_109, Nat.reduceLeDiff, zclr_I, zclr_R, zclr_L, zclr_U, reduceIte, Int.reduceEq, Int.reduceLT, Int.reduceLE, Int.reduceNeg, not_true_eq_false, not_false_eq_true, or_true, true_or, or_false, false_or, and_true, true_and, and_false, false_and, z01_or]
          exact ih (t + 1) (by omega) (by omega)
        · by_cases hw : tb x (s 78 0 t) = true
          · have q2 : hb x (s 78 0 t) = 1 := if_pos hw
            rw [hz, decide_eq_false (fun z => z.2.2 hw), Bool.true_and, Bool.false_or]
            simp only [r143_0, r143_1, r143_3, r143_4, r143_7, r143_10, r143_11, r143_12, r143_15, r143_18, r143_19, r143_22, r143_23, r143_24, r143_27, r143_28, r143_31, r143_32, r143_35, r143_36, r143_37, r143_38, r143_41, r143_42, r143_43, r143_46, r143_47, r143_48, r143_51, r143_54, r143_55, r143_56, r143_59, r143_62, r143_63, k_hasM, e1, b1, b2, c3, c4, q, q2, hy, hx, w1, zak_40, zln_40, zak_41, zln_41, zak_42, zln_42, zak_43, zln_43, zak_44, zln_44, zak_45, zln_45, zak_46, zln_46, zak_47, zln_47, zak_48, zln_48, zak_49, zln_49, zak_50, zln_50, zak_51, zln_51, zak_52, zln_52, zak_53, zln_53, zak_54, zln_54, zak_55, zln_55, zak_73, zln_73, zak_74, zln_74, zak_75, zln_75, zak_76, zln_76, zak_77, zln_77, zak_78, zln_78, zak_79, zln_79, zak_80, zln_80, zak_81, zln_81, zak_82, zln_82, zak_83, zln_83, zak_84, zln_84, zak_85, zln_85, zak_86, zln_86, zak_87, zln_87, zak_88, zln_88, zak_89, zln_89, zak_90, zln_90, zak_91, zln_91, zak_92, zln_92, zak_93, zln_93, zak_94, zln_94, zak_95, zln_95, zak_96, zln_96, zak_97, zln_97, zak_98, zln_98, zak_99, zln_99, zak_100, zln_100, zak_101, zln_101, zak_102, zln_102, zak_103, zln_103, zak_104, zln_104, zak_105, zln_105, zak_108, zln_108, zak_109, zln_109, Nat.reduceLeDiff, zclr_I, zclr_R, zclr_L, zclr_U, reduceIte, Int.reduceEq, Int.reduceLT, Int.reduceLE, Int.reduceNeg, not_true_eq_false, not_false_eq_true, or_true, true_or, or_false, false_or, and_true, true_and, and_false, false_and, z01_or]
            exact ih (t + 1) (by omega) (by omega)
          · have q2 : hb x (s 78 0 t) = 0 := if_neg hw
            rw [hz, decide_eq_true ⟨by omega, hx, hw⟩, if_pos (by rfl)]
            simp only [r143_0, r143_1, r143_3, r143_4, r143_7, r143_10, r143_11, r143_12, r143_15, r143_18, r143_19, r143_22, r143_23, r143_24, r143_27, r143_28, r143_31, r143_32, r143_35, r143_36, r143_37, r143_38, r143_41, r143_42, r143_43, r143_46, r143_47, r143_48, r143_51, r143_54, r143_55, r143_56, r143_59, r143_62, r143_63, k_hasM, e1, b1, b2, c3, c4, q, q2, hy, hx, w1, zak_40, zln_40, zak_41, zln_41, zak_42, zln_42, zak_43, zln_43, zak_44, zln_44, zak_45, zln_45, zak_46, zln_46, zak_47, zln_47, zak_48, zln_48, zak_49, zln_49, zak_50, zln_50, zak_51, zln_51, zak_52, zln_52, zak_53, zln_53, zak_54, zln_54, zak_55, zln_55, zak_73, zln_73, zak_74, zln_74, zak_75, zln_75, zak_76, zln_76, zak_77, zln_77, zak_78, zln_78, zak_79, zln_79, zak_80, zln_80, zak_81, zln_81, zak_82, zln_82, zak_83, zln_83, zak_84, zln_84, zak_85, zln_85, zak_86, zln_86, zak_87, zln_87, zak_88, zln_88, zak_89, zln_89, zak_90, zln_90, zak_91, zln_91, zak_92, zln_92, zak_93, zln_93, zak_94, zln_94, zak_95, zln_95, zak_96, zln_96, zak_97, zln_97, zak_98, zln_98, zak_99, zln_99, zak_100, zln_100, zak_101, zln_101, zak_102, zln_102, zak_103, zln_103, zak_104, zln_104, zak_105, zln_105, zak_108, zln_108, zak_109, zln_109, Nat.reduceLeDiff, zclr_I, zclr_R, zclr_L, zclr_U, reduceIte, Int.reduceEq, Int.reduceLT, Int.reduceLE, Int.reduceNeg, not_true_eq_false, not_false_eq_true, or_true, true_or, or_false, false_or, and_true, true_and, and_false, false_and, z01_or]
    · have q : hb x t = 0 := if_neg hz
      rw [Bool.eq_false_iff.mpr hz, Bool.false_and, Bool.false_or]
      simp only [r143_0, r143_1, r143_3, r143_4, r143_7, r143_10, r143_11, r143_12, r143_15, r143_18, r143_19, r143_22, r143_23, r143_24, r143_27, r143_28, r143_31, r143_32, r143_35, r143_36, r143_37, r143_38, r143_41, r143_42, r143_43, r143_46, r143_47, r143_48, r143_51, r143_54, r143_55, r143_56, r143_59, r143_62, r143_63, k_hasM, e1, c3, q, w1, zak_40, zln_40, zak_41, zln_41, zak_42, zln_42, zak_43, zln_43, zak_44, zln_44, zak_45, zln_45, zak_46, zln_46, zak_47, zln_47, zak_48, zln_48, zak_49, zln_49, zak_50, zln_50, zak_51, zln_51, zak_52, zln_52, zak_53, zln_53, zak_54, zln_54, zak_55, zln_55, zak_73, zln_73, zak_74, zln_74, zak_75, zln_75, zak_76, zln_76, zak_77, zln_77, zak_78, zln_78, zak_79, zln_79, zak_80, zln_80, zak_81, zln_81, zak_82, zln_82, zak_83, zln_83, zak_84, zln_84, zak_85, zln_85, zak_86, zln_86, zak_87, zln_87, zak_88, zln_88, zak_89, zln_89, zak_90, zln_90, zak_91, zln_91, zak_92, zln_92, zak_93, zln_93, zak_94, zln_94, zak_95, zln_95, zak_96, zln_96, zak_97, zln_97, zak_98, zln_98, zak_99, zln_99, zak_100, zln_100, zak_101, zln_101, zak_102, zln_102, zak_103, zln_103, zak_104, zln_104, zak_105, zln_105, zak_108, zln_108, zak_109, zln_109, Nat.reduceLeDiff, zclr_I, zclr_R, zclr_L, zclr_U, reduceIte, Int.reduceEq, Int.reduceLT, Int.reduceLE, Int.reduceNeg, not_true_eq_false, not_false_eq_true, or_true, true_or, or_false, false_or, and_true, true_and, and_false, false_and, z01_or]
      exact ih (t + 1) (by omega) (by omega)
end

section
variable {m pc : Nat} {ls st : List zV} {fs : List zFr} {s : zS} {Q : List zV → zS → Prop}
theorem lp59 (hk : I_k (s 108) (s 109)) (hP : s 6 0 1 ≤ 10) (hA : ∀ p : Int, 0 ≤ p → p < s 6 0 1 → 0 ≤ s 5 p 0 ∧ s 5 p 0 ≤ 3) : ∀ (k : Nat) (t a : Int), 0 ≤ t → t + k = s 6 0 1 → Ev ((59, 4, [zR 6 0, zI a, zI t], []) :: (m, pc, ls, st) :: fs) s Q = Ev ((m, pc, ls, zI (orF (fun p => decide ((s 5 p 0 = 1 ∨ s 5 p 0 = 3) ∧ s 5 p 8 < 0)) a t k) :: st) :: fs) s Q := by
  intro k
  induction k with
  | zero =>
    intro t a h0 h1
    have e1 : (s 6 0 1 ≤ t) = True := eq_true (by omega)
    rw [r59_4]
    simp only [r59_0, r59_1, r59_2, r59_3, r59_5, r59_6, r59_9, r59_12, r59_13, r59_16, r59_17, r59_18, r59_19, r59_22, r59_25, r59_26, r59_29, r59_30, r59_31, r59_34, r59_37, r59_38, r59_39, r59_40, r59_41, r59_42, r59_43, r59_46, r59_49, r59_50, e1, orF, foldI, zclr_I, zclr_R, zclr_L, zclr_U, reduceIte, Int.reduceEq, Int.reduceLT, Int.reduceLE, Int.reduceNeg, not_true_eq_false, not_false_eq_true, or_true, true_or, or_false, false_or, and_true, true_and, and_false, false_and, z01_or]
  | succ k ih =>
    intro t a h0 h1
    have e1 : (s 6 0 1 ≤ t) = False := eq_false (by omega)
    have b1 : (0 ≤ t ∧ t < 10) = True := eq_true (by omega)
    have w1 : w32 (t + 1) = t + 1 := w32_id (by omega) (by omega)
    have kA := fun (m pc : Nat) (ls st : List zV) (fs : List zFr) (Q : List zV → zS → Prop) => k_isAP (m := m) (pc := pc) (ls := ls) (st := st) (fs := fs) (Q := Q) (s := s) hk t 1 (hA t h0 (by omega)) (by omega)
    rw [r59_4, orF_s]
    by_cases hz : s 5 t 0 = 1 ∨ s 5 t 0 = 3
    · have q1 : z01 ((1 : Int) = 0 ∨ s 5 t 0 = 1 ∨ ((1 : Int) = 1 ∧ s 5 t 0 = 3)) = 1 := z01_t (by omega)
      by_cases hy : s 5 t 8 < 0
      · have q2 := z01_t hy
        rw [if_pos (decide_eq_true ⟨hz, hy⟩)]
        simp only [r59_5, r59_6, r59_9, r59_12, r59_13, r59_16, r59_17, r59_18, r59_19, r59_22, e1, b1, zak_40, zln_40, zak_41, zln_41, zak_42, zln_42, zak_43, zln_43, zak_44, zln_44, zak_45, zln_45, zak_46, zln_46, zak_47, zln_47, zak_48, zln_48, zak_49, zln_49, zak_50, zln_50, zak_51, zln_51, zak_52, zln_52, zak_53, zln_53, zak_54, zln_54, zak_55, zln_55, zak_73, zln_73, zak_74, zln_74, zak_75, zln_75, zak_76, zln_76, zak_77, zln_77, zak_78, zln_78, zak_79, zln_79, zak_80, zln_80, zak_81, zln_81, zak_82, zln_82, zak_83, zln_83, zak_84, zln_84, zak_85, zln_85, zak_86, zln_86, zak_87, zln_87, zak_88, zln_88, zak_89, zln_89, zak_90, zln_90, zak_91, zln_91, zak_92, zln_92, zak_93, zln_93, zak_94, zln_94, zak_95, zln_95, zak_96, zln_96, zak_97, zln_97, zak_98, zln_98, zak_99, zln_99, zak_100, zln_100, zak_101, zln_101, zak_102, zln_102, zak_103, zln_103, zak_104, zln_104, zak_105, zln_105, zak_108, zln_108, zak_109, zln_109, Nat.reduceLeDiff, zclr_I, zclr_R, zclr_L, zclr_U, reduceIte, Int.reduceEq, Int.reduceLT, Int.reduceLE, Int.reduceNeg, not_true_eq_false, not_false_eq_true, or_true, true_or, or_false, false_or, and_true, true_and, and_false, false_and, z01_or]
        rw [kA, q1]
        simp only [r59_22, r59_25, r59_26, r59_29, r59_30, r59_31, r59_34, r59_37, r59_38, r59_39, r59_40, r59_41, r59_42, r59_43, r59_46, k_isAway, e1, b1, q2, w1, zak_40, zln_40, zak_41, zln_41, zak_42, zln_42, zak_43, zln_43, zak_44, zln_44, zak_45, zln_45, zak_46, zln_46, zak_47, zln_47, zak_48, zln_48, zak_49, zln_49, zak_50, zln_50, zak_51, zln_51, zak_52, zln_52, zak_53, zln_53, zak_54, zln_54, zak_55, zln_55, zak_73, zln_73, zak_74, zln_74, zak_75, zln_75, zak_76, zln_76, zak_77, zln_77, zak_78, zln_78, zak_79, zln_79, zak_80, zln_80, zak_81, zln_81, zak_82, zln_82, zak_83, zln_83, zak_84, zln_84, zak_85, zln_85, zak_86, zln_86, zak_87, zln_87, zak_88, zln_88, zak_89, zln_89, zak_90, zln_90, zak_91, zln_91, zak_92, zln_92, zak_93, zln_93, zak_94, zln_94, zak_95, zln_95, zak_96, zln_96, zak_97, zln_97, zak_98, zln_98, zak_99, zln_99, zak_100, zln_100, zak_101, zln_101, zak_102, zln_102, zak_103, zln_103, zak_104, zln_104, zak_105, zln_105, zak_108, zln_108, zak_109, zln_109, Nat.reduceLeDiff, zclr_I, zclr_R, zclr_L, zclr_U, reduceIte, Int.reduceEq, Int.reduceLT, Int.reduceLE, Int.reduceNeg, not_true_eq_false, not_false_eq_true, or_true, true_or, or_false, false_or, and_true, true_and, and_false, false_and, z01_or]
        exact ih (t + 1) _ (by omega) (by omega)
      · have q2 := z01_f hy
        rw [if_neg (fun z => hy (of_decide_eq_true z).2)]
        simp only [r59_5, r59_6, r59_9, r59_12, r59_13, r59_16, r59_17, r59_18, r59_19, r59_22, e1, b1, zak_40, zln_40, zak_41, zln_41, zak_42, zln_42, zak_43, zln_43, zak_44, zln_44, zak_45, zln_45, zak_46, zln_46, zak_47, zln_47, zak_48, zln_48, zak_49, zln_49, zak_50, zln_50, zak_51, zln_51, zak_52, zln_52, zak_53, zln_53, zak_54, zln_54, zak_55, zln_55, zak_73, zln_73, zak_74, zln_74, zak_75, zln_75, zak_76, zln_76, zak_77, zln_77, zak_78, zln_78, zak_79, zln_79, zak_80, zln_80, zak_81, zln_81, zak_82, zln_82, zak_83, zln_83, zak_84, zln_84, zak_85, zln_85, zak_86, zln_86, zak_87, zln_87, zak_88, zln_88, zak_89, zln_89, zak_90, zln_90, zak_91, zln_91, zak_92, zln_92, zak_93, zln_93, zak_94, zln_94, zak_95, zln_95, zak_96, zln_96, zak_97, zln_97, zak_98, zln_98, zak_99, zln_99, zak_100, zln_100, zak_101, zln_101, zak_102, zln_102, zak_103, zln_103, zak_104, zln_104, zak_105, zln_105, zak_108, zln_108, zak_109, zln_109, Nat.reduceLeDiff, zclr_I, zclr_R, zclr_L, zclr_U, reduceIte, Int.reduceEq, Int.reduceLT, Int.reduceLE, Int.reduceNeg, not_true_eq_false, not_false_eq_true, or_true, true_or, or_false, false_or, and_true, true_and, and_false, false_and, z01_or]
        rw [kA, q1]
        simp only [r59_22, r59_25, r59_26, r59_29, r59_30, r59_31, r59_34, r59_37, r59_38, r59_39, r59_40, r59_41, r59_42, r59_43, r59_46, k_isAway, e1, b1, q2, w1, zak_40, zln_40, zak_41, zln_41, zak_42, zln_42, zak_43, zln_43, zak_44, zln_44, zak_45, zln_45, zak_46, zln_46, zak_47, zln_47, zak_48, zln_48, zak_49, zln_49, zak_50, zln_50, zak_51, zln_51, zak_52, zln_52, zak_53, zln_53, zak_54, zln_54, zak_55, zln_55, zak_73, zln_73, zak_74, zln_74, zak_75, zln_75, zak_76, zln_76, zak_77, zln_77, zak_78, zln_78, zak_79, zln_79, zak_80, zln_80, zak_81, zln_81, zak_82, zln_82, zak_83, zln_83, zak_84, zln_84, zak_85, zln_85, zak_86, zln_86, zak_87, zln_87, zak_88, zln_88, zak_89, zln_89, zak_90, zln_90, zak_91, zln_91, zak_92, zln_92, zak_93, zln_93, zak_94, zln_94, zak_95, zln_95, zak_96, zln_96, zak_97, zln_97, zak_98, zln_98, zak_99, zln_99, zak_100, zln_100, zak_101, zln_101, zak_102, zln_102, zak_103, zln_103, zak_104, zln_104, zak_105, zln_105, zak_108, zln_108, zak_109, zln_109, Nat.reduceLeDiff, zclr_I, zclr_R, zclr_L, zclr_U, reduceIte, Int.reduceEq, Int.reduceLT, Int.reduceLE, Int.reduceNeg, not_true_eq_false, not_false_eq_true, or_true, true_or, or_false, false_or, and_true, true_and, and_false, false_and, z01_or]
        exact ih (t + 1) _ (by omega) (by omega)
    · have q1 : z01 ((1 : Int) = 0 ∨ s 5 t 0 = 1 ∨ ((1 : Int) = 1 ∧ s 5 t 0 = 3)) = 0 := z01_f (by omega)
      rw [if_neg (fun z => hz (of_decide_eq_true z).1)]
      simp only [r59_5, r59_6, r59_9, r59_12, r59_13, r59_16, r59_17, r59_18, r59_19, r59_22, e1, b1, zak_40, zln_40, zak_41, zln_41, zak_42, zln_42, zak_43, zln_43, zak_44, zln_44, zak_45, zln_45, zak_46, zln_46, zak_47, zln_47, zak_48, zln_48, zak_49, zln_49, zak_50, zln_50, zak_51, zln_51, zak_52, zln_52, zak_53, zln_53, zak_54, zln_54, zak_55, zln_55, zak_73, zln_73, zak_74, zln_74, zak_75, zln_75, zak_76, zln_76, zak_77, zln_77, zak_78, zln_78, zak_79, zln_79, zak_80, zln_80, zak_81, zln_81, zak_82, zln_82, zak_83, zln_83, zak_84, zln_84, zak_85, zln_85, zak_86, zln_86, zak_87, zln_87, zak_88, zln_88, zak_89, zln_89, zak_90, zln_90, zak_91, zln_91, zak_92, zln_92, zak_93, zln_93, zak_94, zln_94, zak_95, zln_95, zak_96, zln_96, zak_97, zln_97, zak_98, zln_98, zak_99, zln_99, zak_100, zln_100, zak_101, zln_101, zak_102, zln_102, zak_103, zln_103, zak_104, zln_104, zak_105, zln_105, zak_108, zln_108, zak_109, zln_109, Nat.reduceLeDiff, zclr_I, zclr_R, zclr_L, zclr_U, reduceIte, Int.reduceEq, Int.reduceLT, Int.reduceLE, Int.reduceNeg, not_true_eq_false, not_false_eq_true, or_true, true_or, or_false, false_or, and_true, true_and, and_false, false_and, z01_or]
      rw [kA, q1]
      simp only [r59_22, r59_25, r59_26, r59_29, r59_30, r59_31, r59_34, r59_37, r59_38, r59_39, r59_40, r59_41, r59_42, r59_43, r59_46, e1, w1, zak_40, zln_40, zak_41, zln_41, zak_42, zln_42, zak_43, zln_43, zak_44, zln_44, zak_45, zln_45, zak_46, zln_46, zak_47, zln_47, zak_48, zln_48, zak_49, zln_49, zak_50, zln_50, zak_51, zln_51, zak_52, zln_52, zak_53, zln_53, zak_54, zln_54, zak_55, zln_55, zak_73, zln_73, zak_74, zln_74, zak_75, zln_75, zak_76, zln_76, zak_77, zln_77, zak_78, zln_78, zak_79, zln_79, zak_80, zln_80, zak_81, zln_81, zak_82, zln_82, zak_83, zln_83, zak_84, zln_84, zak_85, zln_85, zak_86, zln_86, zak_87, zln_87, zak_88, zln_88, zak_89, zln_89, zak_90, zln_90, zak_91, zln_91, zak_92, zln_92, zak_93, zln_93, zak_94, zln_94, zak_95, zln_95, zak_96, zln_96, zak_97, zln_97, zak_98, zln_98, zak_99, zln_99, zak_100, zln_100, zak_101, zln_101, zak_102, zln_102, zak_103, zln_103, zak_104, zln_104, zak_105, zln_105, zak_108, zln_108, zak_109, zln_109, Nat.reduceLeDiff, zclr_I, zclr_R, zclr_L, zclr_U, reduceIte, Int.reduceEq, Int.reduceLT, Int.reduceLE, Int.reduceNeg, not_true_eq_false, not_false_eq_true, or_true, true_or, or_false, false_or, and_true, true_and, and_false, false_and, z01_or]
      exact ih (t + 1) _ (by omega) (by omega)
theorem lp168 (hP : s 11 0 0 ≤ 10) : ∀ (k : Nat) (t a : Int), 0 ≤ t → t + k = s 11 0 0 → 0 ≤ a → a < 1024 → Ev ((168, 4, [zR 11 0, zI a, zI t], []) :: (m, pc, ls, st) :: fs) s Q = Ev ((m, pc, ls, zI (orF (fun p => decide ((s 73 0 p = 1 ∨ s 73 0 p = 3) ∧ ¬ s 83 0 p = 0 ∧ s 80 0 p < 0)) a t k) :: st) :: fs) s Q := by
  intro k
  induction k with
  | zero =>
    intro t a h0 h1 a0 a1
    have e1 : (s 11 0 0 ≤ t) = True := eq_true (by omega)
    rw [r168_4]
    simp only [r168_0, r168_1, r168_2, r168_3, r168_5, r168_6, r168_9, r168_12, r168_13, r168_14, r168_15, r168_18, r168_21, r168_22, r168_25, r168_26, r168_27, r168_30, r168_31, r168_34, r168_35, r168_36, r168_39, r168_40, r168_41, r168_42, r168_45, r168_46, r168_47, r168_48, r168_51, r168_54, r168_55, e1, orF, foldI, zclr_I, zclr_R, zclr_L, zclr_U, reduceIte, Int.reduceEq, Int.reduceLT, Int.reduceLE, Int.reduceNeg, not_true_eq_false, not_false_eq_true, or_true, true_or, or_false, false_or, and_true, true_and, and_false, false_and, z01_or]
  | succ k ih =>
    intro t a h0 h1 a0 a1
    have e1 : (s 11 0 0 ≤ t) = False := eq_false (by omega)
    have b1 : (0 ≤ t ∧ t < 10) = True := eq_true (by omega)
    have w1 : w32 (t + 1) = t + 1 := w32_id (by omega) (by omega)
    have z0 := zor_0 a0 a1
    obtain ⟨d0, d1, -⟩ := set_bi a0 a1 h0 (show t < 10 by omega)
    have kC := fun (m pc : Nat) (ls st : List zV) (fs : List zFr) (Q : List zV → zS → Prop) => k_isChild (m := m) (pc := pc) (ls := ls) (st := st) (fs := fs) (Q := Q) (s := s) t (by omega)
    rw [r168_4, orF_s]
    by_cases hz : s 73 0 t = 1 ∨ s 73 0 t = 3
    · have q1 := z01_t hz
      by_cases hx : s 83 0 t = 0
      · rw [if_neg (fun z => (of_decide_eq_true z).2.1 hx)]
        simp only [r168_5, r168_6, r168_9, r168_12, r168_13, r168_14, r168_15, r168_18, r168_21, r168_22, r168_25, r168_26, r168_27, r168_30, r168_31, r168_34, r168_35, r168_36, r168_39, r168_40, r168_41, r168_42, r168_45, r168_46, r168_47, r168_48, r168_51, kC, e1, b1, q1, hx, w1, z0, zak_40, zln_40, zak_41, zln_41, zak_42, zln_42, zak_43, zln_43, zak_44, zln_44, zak_45, zln_45, zak_46, zln_46, zak_47, zln_47, zak_48, zln_48, zak_49, zln_49, zak_50, zln_50, zak_51, zln_51, zak_52, zln_52, zak_53, zln_53, zak_54, zln_54, zak_55, zln_55, zak_73, zln_73, zak_74, zln_74, zak_75, zln_75, zak_76, zln_76, zak_77, zln_77, zak_78, zln_78, zak_79, zln_79, zak_80, zln_80, zak_81, zln_81, zak_82, zln_82, zak_83, zln_83, zak_84, zln_84, zak_85, zln_85, zak_86, zln_86, zak_87, zln_87, zak_88, zln_88, zak_89, zln_89, zak_90, zln_90, zak_91, zln_91, zak_92, zln_92, zak_93, zln_93, zak_94, zln_94, zak_95, zln_95, zak_96, zln_96, zak_97, zln_97, zak_98, zln_98, zak_99, zln_99, zak_100, zln_100, zak_101, zln_101, zak_102, zln_102, zak_103, zln_103, zak_104, zln_104, zak_105, zln_105, zak_108, zln_108, zak_109, zln_109, Nat.reduceLeDiff, zclr_I, zclr_R, zclr_L, zclr_U, reduceIte, Int.reduceEq, Int.reduceLT, Int.reduceLE, Int.reduceNeg, not_true_eq_false, not_false_eq_true, or_true, true_or, or_false, false_or, and_true, true_and, and_false, false_and, z01_or]
        exact ih (t + 1) _ (by omega) (by omega) a0 a1
      · by_cases hy : s 80 0 t < 0
        · have y2 : (0 ≤ s 80 0 t) = False := eq_false (by omega)
          rw [if_pos (decide_eq_true ⟨hz, hx, hy⟩)]
          simp only [r168_5, r168_6, r168_9, r168_12, r168_13, r168_14, r168_15, r168_18, r168_21, r168_22, r168_25, r168_26, r168_27, r168_30, r168_31, r168_34, r168_35, r168_36, r168_39, r168_40, r168_41, r168_42, r168_45, r168_46, r168_47, r168_48, r168_51, kC, e1, b1, q1, hx, hy, y2, w1, z0, zak_40, zln_40, zak_41, zln_41, zak_42, zln_42, zak_43, zln_43, zak_44, zln_44, zak_45, zln_45, zak_46, zln_46, zak_47, zln_47, zak_48, zln_48, zak_49, zln_49, zak_50, zln_50, zak_51, zln_51, zak_52, zln_52, zak_53, zln_53, zak_54, zln_54, zak_55, zln_55, zak_73, zln_73, zak_74, zln_74, zak_75, zln_75, zak_76, zln_76, zak_77, zln_77, zak_78, zln_78, zak_79, zln_79, zak_80, zln_80, zak_81, zln_81, zak_82, zln_82, zak_83, zln_83, zak_84, zln_84, zak_85, zln_85, zak_86, zln_86, zak_87, zln_87, zak_88, zln_88, zak_89, zln_89, zak_90, zln_90, zak_91, zln_91, zak_92, zln_92, zak_93, zln_93, zak_94, zln_94, zak_95, zln_95, zak_96, zln_96, zak_97, zln_97, zak_98, zln_98, zak_99, zln_99, zak_100, zln_100, zak_101, zln_101, zak_102, zln_102, zak_103, zln_103, zak_104, zln_104, zak_105, zln_105, zak_108, zln_108, zak_109, zln_109, Nat.reduceLeDiff, zclr_I, zclr_R, zclr_L, zclr_U, reduceIte, Int.reduceEq, Int.reduceLT, Int.reduceLE, Int.reduceNeg, not_true_eq_false, not_false_eq_true, or_true, true_or, or_false, false_or, and_true, true_and, and_false, false_and, z01_or]
          exact ih (t + 1) _ (by omega) (by omega) d0 d1
        · have y2 : (0 ≤ s 80 0 t) = True := eq_true (by omega)
          rw [if_neg (fun z => hy (of_decide_eq_true z).2.2)]
          simp only [r168_5, r168_6, r168_9, r168_12, r168_13, r168_14, r168_15, r168_18, r168_21, r168_22, r168_25, r168_26, r168_27, r168_30, r168_31, r168_34, r168_35, r168_36, r168_39, r168_40, r168_41, r168_42, r168_45, r168_46, r168_47, r168_48, r168_51, kC, e1, b1, q1, hx, y2, w1, z0, zak_40, zln_40, zak_41, zln_41, zak_42, zln_42, zak_43, zln_43, zak_44, zln_44, zak_45, zln_45, zak_46, zln_46, zak_47, zln_47, zak_48, zln_48, zak_49, zln_49, zak_50, zln_50, zak_51, zln_51, zak_52, zln_52, zak_53, zln_53, zak_54, zln_54, zak_55, zln_55, zak_73, zln_73, zak_74, zln_74, zak_75, zln_75, zak_76, zln_76, zak_77, zln_77, zak_78, zln_78, zak_79, zln_79, zak_80, zln_80, zak_81, zln_81, zak_82, zln_82, zak_83, zln_83, zak_84, zln_84, zak_85, zln_85, zak_86, zln_86, zak_87, zln_87, zak_88, zln_88, zak_89, zln_89, zak_90, zln_90, zak_91, zln_91, zak_92, zln_92, zak_93, zln_93, zak_94, zln_94, zak_95, zln_95, zak_96, zln_96, zak_97, zln_97, zak_98, zln_98, zak_99, zln_99, zak_100, zln_100, zak_101, zln_101, zak_102, zln_102, zak_103, zln_103, zak_104, zln_104, zak_105, zln_105, zak_108, zln_108, zak_109, zln_109, Nat.reduceLeDiff, zclr_I, zclr_R, zclr_L, zclr_U, reduceIte, Int.reduceEq, Int.reduceLT, Int.reduceLE, Int.reduceNeg, not_true_eq_false, not_false_eq_true, or_true, true_or, or_false, false_or, and_true, true_and, and_false, false_and, z01_or]
          exact ih (t + 1) _ (by omega) (by omega) a0 a1
    · have q1 := z01_f hz
      rw [if_neg (fun z => hz (of_decide_eq_true z).1)]
      simp only [r168_5, r168_6, r168_9, r168_12, r168_13, r168_14, r168_15, r168_18, r168_21, r168_22, r168_25, r168_26, r168_27, r168_30, r168_31, r168_34, r168_35, r168_36, r168_39, r168_40, r168_41, r168_42, r168_45, r168_46, r168_47, r168_48, r168_51, kC, e1, q1, w1, z0, zak_40, zln_40, zak_41, zln_41, zak_42, zln_42, zak_43, zln_43, zak_44, zln_44, zak_45, zln_45, zak_46, zln_46, zak_47, zln_47, zak_48, zln_48, zak_49, zln_49, zak_50, zln_50, zak_51, zln_51, zak_52, zln_52, zak_53, zln_53, zak_54, zln_54, zak_55, zln_55, zak_73, zln_73, zak_74, zln_74, zak_75, zln_75, zak_76, zln_76, zak_77, zln_77, zak_78, zln_78, zak_79, zln_79, zak_80, zln_80, zak_81, zln_81, zak_82, zln_82, zak_83, zln_83, zak_84, zln_84, zak_85, zln_85, zak_86, zln_86, zak_87, zln_87, zak_88, zln_88, zak_89, zln_89, zak_90, zln_90, zak_91, zln_91, zak_92, zln_92, zak_93, zln_93, zak_94, zln_94, zak_95, zln_95, zak_96, zln_96, zak_97, zln_97, zak_98, zln_98, zak_99, zln_99, zak_100, zln_100, zak_101, zln_101, zak_102, zln_102, zak_103, zln_103, zak_104, zln_104, zak_105, zln_105, zak_108, zln_108, zak_109, zln_109, Nat.reduceLeDiff, zclr_I, zclr_R, zclr_L, zclr_U, reduceIte, Int.reduceEq, Int.reduceLT, Int.reduceLE, Int.reduceNeg, not_true_eq_false, not_false_eq_true, or_true, true_or, or_false, false_or, and_true, true_and, and_false, false_and, z01_or]
      exact ih (t + 1) _ (by omega) (by omega) a0 a1
end
theorem pr_left (L : Nat) : Pr_left (Inv L) := by
  intro s hs
  obtain ⟨h1, h2, h3, h4, h5, h6, h7, h8, h9, h10, h11, h12, h13, h14, h15, h16, h17⟩ := id hs
  have eP := h4.1
  have h40 := h4.2
  obtain ⟨u0, u1, u2⟩ := id h14
  obtain ⟨d0, d1, d2⟩ := orF_bi (fun p => decide ((s 5 p 0 = 1 ∨ s 5 p 0 = 3) ∧ s 5 p 8 < 0)) (s 6 0 1).toNat 0 0 (by omega) (by omega) (by omega) (by omega)
  obtain ⟨f0, f1, f2⟩ := orF_bi (fun p => decide ((s 73 0 p = 1 ∨ s 73 0 p = 3) ∧ ¬ s 83 0 p = 0 ∧ s 80 0 p < 0)) (s 11 0 0).toNat 0 0 (by omega) (by omega) (by omega) (by omega)
  obtain ⟨g0, g1, g2⟩ := zand_bi d0 d1 u0 u1
  have e : zand (orF (fun p => decide ((s 5 p 0 = 1 ∨ s 5 p 0 = 3) ∧ s 5 p 8 < 0)) 0 0 (s 6 0 1).toNat) (s 6 0 4) = orF (fun p => decide ((s 73 0 p = 1 ∨ s 73 0 p = 3) ∧ ¬ s 83 0 p = 0 ∧ s 80 0 p < 0)) 0 0 (s 11 0 0).toNat := by
    refine bi_ext g0 f0 (fun p p0 => ?_)
    rw [g2 p p0, d2 p p0, f2 p p0, u2 p p0]
    simp only [decide_eq_true_eq]
    constructor
    · rintro ⟨z1 | ⟨z1, z2, z3, z4⟩, z5, z6⟩
      · exact absurd z1 (bi_0 p)
      · obtain ⟨k1, k2, k3, k4, k5, k6, k7, k8⟩ := h12 p p0 z5
        exact Or.inr ⟨by omega, by omega, by omega, by omega, by omega⟩
    · rintro (z1 | ⟨z1, z2, z3, z4, z5⟩)
      · exact absurd z1 (bi_0 p)
      · obtain ⟨k1, k2, k3, k4, k5, k6, k7, k8, k9⟩ := h12 p p0 (by omega)
        exact ⟨Or.inr ⟨by omega, by omega, by omega, by omega⟩, by omega, by omega⟩
  refine ⟨orF (fun p => decide ((s 73 0 p = 1 ∨ s 73 0 p = 3) ∧ ¬ s 83 0 p = 0 ∧ s 80 0 p < 0)) 0 0 (s 11 0 0).toNat, s, s, ?_, ?_, hs, rfl, rfl⟩ <;> intro m pc ls st fs Q
  · simp only [r97_0, r97_1, r97_4, r97_7, r97_8, r97_11, r97_14, r97_15, r59_0, r59_1, r59_2, r59_3, zclr_I, zclr_R, zclr_L, zclr_U, reduceIte, Int.reduceEq, Int.reduceLT, Int.reduceLE, Int.reduceNeg, not_true_eq_false, not_false_eq_true, or_true, true_or, or_false, false_or, and_true, true_and, and_false, false_and, z01_or]
    rw [lp59 h2 (by omega) (fun p p0 p1 => by have := (h12 p p0 (by omega)).1; omega) (s 6 0 1).toNat 0 0 (by omega) (by omega)]
    simp only [r97_0, r97_1, r97_4, r97_7, r97_8, r97_11, r97_14, r97_15, zclr_I, zclr_R, zclr_L, zclr_U, reduceIte, Int.reduceEq, Int.reduceLT, Int.reduceLE, Int.reduceNeg, not_true_eq_false, not_false_eq_true, or_true, true_or, or_false, false_or, and_true, true_and, and_false, false_and, z01_or]
    rw [e]
  · simp only [r168_0, r168_1, r168_2, r168_3, zclr_I, zclr_R, zclr_L, zclr_U, reduceIte, Int.reduceEq, Int.reduceLT, Int.reduceLE, Int.reduceNeg, not_true_eq_false, not_false_eq_true, or_true, true_or, or_false, false_or, and_true, true_and, and_false, false_and, z01_or]
    rw [lp168 (by omega) (s 11 0 0).toNat 0 0 (by omega) (by omega) (by omega) (by omega)]

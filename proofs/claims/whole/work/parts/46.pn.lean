section CNT2
variable {m pc : Nat} {ls st : List zV} {fs : List zFr} {s : zS} {Q : List zV → zS → Prop}
theorem lq13 (hT : s 1 0 1 ≤ 10) : ∀ (k : Nat) (t c : Int), 0 ≤ t → t + k = s 1 0 1 → 0 ≤ c → c ≤ t → Ev ((13, 4, [zR 1 0, zI c, zI t], []) :: (m, pc, ls, st) :: fs) s Q = Ev ((m, pc, ls, zI (c + sumF (fun i => if s 0 i 4 = 0 then 0 else 1) t k) :: st) :: fs) s Q := by
  intro k
  induction k with
  | zero =>
    intro t c h0 h1 h2 h3
    have e1 : (s 1 0 1 ≤ t) = True := eq_true (by omega)
    rw [r13_4]
    simp only [r13_0, r13_1, r13_2, r13_3, r13_5, r13_6, r13_9, r13_12, r13_13, r13_16, r13_17, r13_18, r13_21, r13_24, r13_27, r13_30, r13_33, r13_34, e1, sumF, Int.add_zero, zclr_I, zclr_R, zclr_L, zclr_U, reduceIte, Int.reduceEq, Int.reduceLT, Int.reduceLE, Int.reduceNeg, not_true_eq_false, not_false_eq_true, or_true, true_or, or_false, false_or, and_true, true_and, and_false, false_and, z01_or]
  | succ k ih =>
    intro t c h0 h1 h2 h3
    have e1 : (s 1 0 1 ≤ t) = False := eq_false (by omega)
    have b1 : (0 ≤ t ∧ t < 10) = True := eq_true (by omega)
    have w1 : w32 (t + 1) = t + 1 := w32_id (by omega) (by omega)
    have w2 : w32 (c + 1) = c + 1 := w32_id (by omega) (by omega)
    rw [r13_4]
    by_cases hz : s 0 t 4 = 0
    · simp only [r13_0, r13_1, r13_2, r13_3, r13_5, r13_6, r13_9, r13_12, r13_13, r13_16, r13_17, r13_18, r13_21, r13_24, r13_27, r13_30, r13_33, r13_34, e1, b1, hz, w1, zak_40, zln_40, zak_41, zln_41, zak_42, zln_42, zak_43, zln_43, zak_44, zln_44, zak_45, zln_45, zak_46, zln_46, zak_47, zln_47, zak_48, zln_48, zak_49, zln_49, zak_50, zln_50, zak_51, zln_51, zak_52, zln_52, zak_53, zln_53, zak_54, zln_54, zak_55, zln_55, zak_73, zln_73, zak_74, zln_74, zak_75, zln_75, zak_76, zln_76, zak_77, zln_77, zak_78, zln_78, zak_79, zln_79, zak_80, zln_80, zak_81, zln_81, zak_82, zln_82, zak_83, zln_83, zak_84, zln_84, zak_85, zln_85, zak_86, zln_86, zak_87, zln_87, zak_88, zln_88, zak_89, zln_89, zak_90, zln_90, zak_91, zln_91, zak_92, zln_92, zak_93, zln_93, zak_94, zln_94, zak_95, zln_95, zak_96, zln_96, zak_97, zln_97, zak_98, zln_98, zak_99, zln_99, zak_100, zln_100, zak_101, zln_101, zak_102, zln_102, zak_103, zln_103, zak_104, zln_104, zak_105, zln_105, zak_108, zln_108, zak_109, zln_109, Nat.reduceLeDiff, zclr_I, zclr_R, zclr_L, zclr_U, reduceIte, Int.reduceEq, Int.reduceLT, Int.reduceLE, Int.reduceNeg, not_true_eq_false, not_false_eq_true, or_true, true_or, or_false, false_or, and_true, true_and, and_false, false_and, z01_or]
      rw [ih (t + 1) c (by omega) (by omega) h2 (by omega)]
      have : c + sumF (fun i => if s 0 i 4 = 0 then 0 else 1) t (k + 1) = c + sumF (fun i => if s 0 i 4 = 0 then 0 else 1) (t + 1) k := by
        show c + ((if s 0 t 4 = 0 then 0 else 1) + _) = _
        rw [if_pos hz]
        omega
      rw [this]
    · simp only [r13_0, r13_1, r13_2, r13_3, r13_5, r13_6, r13_9, r13_12, r13_13, r13_16, r13_17, r13_18, r13_21, r13_24, r13_27, r13_30, r13_33, r13_34, e1, b1, hz, w1, w2, zak_40, zln_40, zak_41, zln_41, zak_42, zln_42, zak_43, zln_43, zak_44, zln_44, zak_45, zln_45, zak_46, zln_46, zak_47, zln_47, zak_48, zln_48, zak_49, zln_49, zak_50, zln_50, zak_51, zln_51, zak_52, zln_52, zak_53, zln_53, zak_54, zln_54, zak_55, zln_55, zak_73, zln_73, zak_74, zln_74, zak_75, zln_75, zak_76, zln_76, zak_77, zln_77, zak_78, zln_78, zak_79, zln_79, zak_80, zln_80, zak_81, zln_81, zak_82, zln_82, zak_83, zln_83, zak_84, zln_84, zak_85, zln_85, zak_86, zln_86, zak_87, zln_87, zak_88, zln_88, zak_89, zln_89, zak_90, zln_90, zak_91, zln_91, zak_92, zln_92, zak_93, zln_93, zak_94, zln_94, zak_95, zln_95, zak_96, zln_96, zak_97, zln_97, zak_98, zln_98, zak_99, zln_99, zak_100, zln_100, zak_101, zln_101, zak_102, zln_102, zak_103, zln_103, zak_104, zln_104, zak_105, zln_105, zak_108, zln_108, zak_109, zln_109, Nat.reduceLeDiff, zclr_I, zclr_R, zclr_L, zclr_U, reduceIte, Int.reduceEq, Int.reduceLT, Int.reduceLE, Int.reduceNeg, not_true_eq_false, not_false_eq_true, or_true, true_or, or_false, false_or, and_true, true_and, and_false, false_and, z01_or]
      rw [ih (t + 1) (c + 1) (by omega) (by omega) (by omega) (by omega)]
      have : c + sumF (fun i => if s 0 i 4 = 0 then 0 else 1) t (k + 1) = c + 1 + sumF (fun i => if s 0 i 4 = 0 then 0 else 1) (t + 1) k := by
        show c + ((if s 0 t 4 = 0 then 0 else 1) + _) = _
        rw [if_neg hz]
        omega
      rw [this]
theorem k_countBooked (hT : 0 ≤ s 1 0 1 ∧ s 1 0 1 ≤ 10) : Ev ((13, 0, [zR 1 0, zU, zU], []) :: (m, pc, ls, st) :: fs) s Q = Ev ((m, pc, ls, zI (sumF (fun i => if s 0 i 4 = 0 then 0 else 1) 0 (s 1 0 1).toNat) :: st) :: fs) s Q := by
  simp only [r13_0, r13_1, r13_2, r13_3, r13_5, r13_6, r13_9, r13_12, r13_13, r13_16, r13_17, r13_18, r13_21, r13_24, r13_27, r13_30, r13_33, r13_34, zclr_I, zclr_R, zclr_L, zclr_U, reduceIte, Int.reduceEq, Int.reduceLT, Int.reduceLE, Int.reduceNeg, not_true_eq_false, not_false_eq_true, or_true, true_or, or_false, false_or, and_true, true_and, and_false, false_and, z01_or]
  rw [lq13 hT.2 (s 1 0 1).toNat 0 0 (by omega) (by omega) (by omega) (by omega), Int.zero_add]
theorem lpM2 (hT : s 11 0 1 ≤ 5) (v0 : zV) : ∀ (k : Nat) (t c : Int), 0 ≤ t → t + k = s 11 0 1 → 0 ≤ c → c ≤ t → Ev ((186, 56, [zR 11 0, zI 2, zI c, zI t], []) :: (m, pc, ls, st) :: fs) s Q = Ev ((m, pc, ls, zI (c + sumF (fun i => if s 86 0 i = 0 then 0 else 1) t k) :: st) :: fs) s Q := by
  intro k
  induction k with
  | zero =>
    intro t c h0 h1 h2 h3
    have e1 : (s 11 0 1 ≤ t) = True := eq_true (by omega)
    rw [r186_56]
    simp only [r186_54, r186_55, r186_57, r186_58, r186_61, r186_64, r186_65, r186_66, r186_69, r186_70, r186_71, r186_74, r186_75, r186_78, r186_79, r186_80, r186_81, r186_84, r186_87, r186_88, e1, sumF, Int.add_zero, zclr_I, zclr_R, zclr_L, zclr_U, reduceIte, Int.reduceEq, Int.reduceLT, Int.reduceLE, Int.reduceNeg, not_true_eq_false, not_false_eq_true, or_true, true_or, or_false, false_or, and_true, true_and, and_false, false_and, z01_or]
  | succ k ih =>
    intro t c h0 h1 h2 h3
    have e1 : (s 11 0 1 ≤ t) = False := eq_false (by omega)
    have b1 : (0 ≤ t ∧ t < 5) = True := eq_true (by omega)
    have w1 : w32 (t + 1) = t + 1 := w32_id (by omega) (by omega)
    have w2 : w32 (c + 1) = c + 1 := w32_id (by omega) (by omega)
    have w3 : w32 (c + 0) = c := by rw [Int.add_zero]; exact w32_id (by omega) (by omega)
    rw [r186_56]
    by_cases hz : s 86 0 t = 0
    · simp only [r186_54, r186_55, r186_57, r186_58, r186_61, r186_64, r186_65, r186_66, r186_69, r186_70, r186_71, r186_74, r186_75, r186_78, r186_79, r186_80, r186_81, r186_84, r186_87, r186_88, e1, b1, hz, w1, w3, zak_40, zln_40, zak_41, zln_41, zak_42, zln_42, zak_43, zln_43, zak_44, zln_44, zak_45, zln_45, zak_46, zln_46, zak_47, zln_47, zak_48, zln_48, zak_49, zln_49, zak_50, zln_50, zak_51, zln_51, zak_52, zln_52, zak_53, zln_53, zak_54, zln_54, zak_55, zln_55, zak_73, zln_73, zak_74, zln_74, zak_75, zln_75, zak_76, zln_76, zak_77, zln_77, zak_78, zln_78, zak_79, zln_79, zak_80, zln_80, zak_81, zln_81, zak_82, zln_82, zak_83, zln_83, zak_84, zln_84, zak_85, zln_85, zak_86, zln_86, zak_87, zln_87, zak_88, zln_88, zak_89, zln_89, zak_90, zln_90, zak_91, zln_91, zak_92, zln_92, zak_93, zln_93, zak_94, zln_94, zak_95, zln_95, zak_96, zln_96, zak_97, zln_97, zak_98, zln_98, zak_99, zln_99, zak_100, zln_100, zak_101, zln_101, zak_102, zln_102, zak_103, zln_103, zak_104, zln_104, zak_105, zln_105, zak_108, zln_108, zak_109, zln_109, Nat.reduceLeDiff, zclr_I, zclr_R, zclr_L, zclr_U, reduceIte, Int.reduceEq, Int.reduceLT, Int.reduceLE, Int.reduceNeg, not_true_eq_false, not_false_eq_true, or_true, true_or, or_false, false_or, and_true, true_and, and_false, false_and, z01_or]
      rw [ih (t + 1) c (by omega) (by omega) h2 (by omega)]
      have : c + sumF (fun i => if s 86 0 i = 0 then 0 else 1) t (k + 1) = c + sumF (fun i => if s 86 0 i = 0 then 0 else 1) (t + 1) k := by
        show c + ((if s 86 0 t = 0 then 0 else 1) + _) = _
        rw [if_pos hz]
        omega
      rw [this]
    · simp only [r186_54, r186_55, r186_57, r186_58, r186_61, r186_64, r186_65, r186_66, r186_69, r186_70, r186_71, r186_74, r186_75, r186_78, r186_79, r186_80, r186_81, r186_84, r186_87, r186_88, e1, b1, hz, w1, w2, zak_40, zln_40, zak_41, zln_41, zak_42, zln_42, zak_43, zln_43, zak_44, zln_44, zak_45, zln_45, zak_46, zln_46, zak_47, zln_47, zak_48, zln_48, zak_49, zln_49, zak_50, zln_50, zak_51, zln_51, zak_52, zln_52, zak_53, zln_53, zak_54, zln_54, zak_55, zln_55, zak_73, zln_73, zak_74, zln_74, zak_75, zln_75, zak_76, zln_76, zak_77, zln_77, zak_78, zln_78, zak_79, zln_79, zak_80, zln_80, zak_81, zln_81, zak_82, zln_82, zak_83, zln_83, zak_84, zln_84, zak_85, zln_85, zak_86, zln_86, zak_87, zln_87, zak_88, zln_88, zak_89, zln_89, zak_90, zln_90, zak_91, zln_91, zak_92, zln_92, zak_93, zln_93, zak_94, zln_94, zak_95, zln_95, zak_96, zln_96, zak_97, zln_97, zak_98, zln_98, zak_99, zln_99, zak_100, zln_100, zak_101, zln_101, zak_102, zln_102, zak_103, zln_103, zak_104, zln_104, zak_105, zln_105, zak_108, zln_108, zak_109, zln_109, Nat.reduceLeDiff, zclr_I, zclr_R, zclr_L, zclr_U, reduceIte, Int.reduceEq, Int.reduceLT, Int.reduceLE, Int.reduceNeg, not_true_eq_false, not_false_eq_true, or_true, true_or, or_false, false_or, and_true, true_and, and_false, false_and, z01_or]
      rw [ih (t + 1) (c + 1) (by omega) (by omega) (by omega) (by omega)]
      have : c + sumF (fun i => if s 86 0 i = 0 then 0 else 1) t (k + 1) = c + 1 + sumF (fun i => if s 86 0 i = 0 then 0 else 1) (t + 1) k := by
        show c + ((if s 86 0 t = 0 then 0 else 1) + _) = _
        rw [if_neg hz]
        omega
      rw [this]
theorem lpM5 (hT : s 11 0 4 ≤ 10) (v0 : zV) : ∀ (k : Nat) (t c : Int), 0 ≤ t → t + k = s 11 0 4 → 0 ≤ c → c ≤ t → Ev ((186, 101, [zR 11 0, zI 5, zI c, zI t], []) :: (m, pc, ls, st) :: fs) s Q = Ev ((m, pc, ls, zI (c + sumF (fun i => if s 98 0 i = 0 then 0 else 1) t k) :: st) :: fs) s Q := by
  intro k
  induction k with
  | zero =>
    intro t c h0 h1 h2 h3
    have e1 : (s 11 0 4 ≤ t) = True := eq_true (by omega)
    rw [r186_101]
    simp only [r186_99, r186_100, r186_102, r186_103, r186_106, r186_109, r186_110, r186_111, r186_114, r186_115, r186_116, r186_119, r186_120, r186_123, r186_124, r186_125, r186_126, r186_129, r186_132, r186_133, e1, sumF, Int.add_zero, zclr_I, zclr_R, zclr_L, zclr_U, reduceIte, Int.reduceEq, Int.reduceLT, Int.reduceLE, Int.reduceNeg, not_true_eq_false, not_false_eq_true, or_true, true_or, or_false, false_or, and_true, true_and, and_false, false_and, z01_or]
  | succ k ih =>
    intro t c h0 h1 h2 h3
    have e1 : (s 11 0 4 ≤ t) = False := eq_false (by omega)
    have b1 : (0 ≤ t ∧ t < 10) = True := eq_true (by omega)
    have w1 : w32 (t + 1) = t + 1 := w32_id (by omega) (by omega)
    have w2 : w32 (c + 1) = c + 1 := w32_id (by omega) (by omega)
    have w3 : w32 (c + 0) = c := by rw [Int.add_zero]; exact w32_id (by omega) (by omega)
    rw [r186_101]
    by_cases hz : s 98 0 t = 0
    · simp only [r186_99, r186_100, r186_102, r186_103, r186_106, r186_109, r186_110, r186_111, r186_114, r186_115, r186_116, r186_119, r186_120, r186_123, r186_124, r186_125, r186_126, r186_129, r186_132, r186_133, e1, b1, hz, w1, w3, zak_40, zln_40, zak_41, zln_41, zak_42, zln_42, zak_43, zln_43, zak_44, zln_44, zak_45, zln_45, zak_46, zln_46, zak_47, zln_47, zak_48, zln_48, zak_49, zln_49, zak_50, zln_50, zak_51, zln_51, zak_52, zln_52, zak_53, zln_53, zak_54, zln_54, zak_55, zln_55, zak_73, zln_73, zak_74, zln_74, zak_75, zln_75, zak_76, zln_76, zak_77, zln_77, zak_78, zln_78, zak_79, zln_79, zak_80, zln_80, zak_81, zln_81, zak_82, zln_82, zak_83, zln_83, zak_84, zln_84, zak_85, zln_85, zak_86, zln_86, zak_87, zln_87, zak_88, zln_88, zak_89, zln_89, zak_90, zln_90, zak_91, zln_91, zak_92, zln_92, zak_93, zln_93, zak_94, zln_94, zak_95, zln_95, zak_96, zln_96, zak_97, zln_97, zak_98, zln_98, zak_99, zln_99, zak_100, zln_100, zak_101, zln_101, zak_102, zln_102, zak_103, zln_103, zak_104, zln_104, zak_105, zln_105, zak_108, zln_108, zak_109, zln_109, Nat.reduceLeDiff, zclr_I, zclr_R, zclr_L, zclr_U, reduceIte, Int.reduceEq, Int.reduceLT, Int.reduceLE, Int.reduceNeg, not_true_eq_false, not_false_eq_true, or_true, true_or, or_false, false_or, and_true, true_and, and_false, false_and, z01_or]
      rw [ih (t + 1) c (by omega) (by omega) h2 (by omega)]
      have : c + sumF (fun i => if s 98 0 i = 0 then 0 else 1) t (k + 1) = c + sumF (fun i => if s 98 0 i = 0 then 0 else 1) (t + 1) k := by
        show c + ((if s 98 0 t = 0 then 0 else 1) + _) = _
        rw [if_pos hz]
        omega
      rw [this]
    · simp only [r186_99, r186_100, r186_102, r186_103, r186_106, r186_109, r186_110, r186_111, r186_114, r186_115, r186_116, r186_119, r186_120, r186_123, r186_124, r186_125, r186_126, r186_129, r186_132, r186_133, e1, b1, hz, w1, w2, zak_40, zln_40, zak_41, zln_41, zak_42, zln_42, zak_43, zln_43, zak_44, zln_44, zak_45, zln_45, zak_46, zln_46, zak_47, zln_47, zak_48, zln_48, zak_49, zln_49, zak_50, zln_50, zak_51, zln_51, zak_52, zln_52, zak_53, zln_53, zak_54, zln_54, zak_55, zln_55, zak_73, zln_73, zak_74, zln_74, zak_75, zln_75, zak_76, zln_76, zak_77, zln_77, zak_78, zln_78, zak_79, zln_79, zak_80, zln_80, zak_81, zln_81, zak_82, zln_82, zak_83, zln_83, zak_84, zln_84, zak_85, zln_85, zak_86, zln_86, zak_87, zln_87, zak_88, zln_88, zak_89, zln_89, zak_90, zln_90, zak_91, zln_91, zak_92, zln_92, zak_93, zln_93, zak_94, zln_94, zak_95, zln_95, zak_96, zln_96, zak_97, zln_97, zak_98, zln_98, zak_99, zln_99, zak_100, zln_100, zak_101, zln_101, zak_102, zln_102, zak_103, zln_103, zak_104, zln_104, zak_105, zln_105, zak_108, zln_108, zak_109, zln_109, Nat.reduceLeDiff, zclr_I, zclr_R, zclr_L, zclr_U, reduceIte, Int.reduceEq, Int.reduceLT, Int.reduceLE, Int.reduceNeg, not_true_eq_false, not_false_eq_true, or_true, true_or, or_false, false_or, and_true, true_and, and_false, false_and, z01_or]
      rw [ih (t + 1) (c + 1) (by omega) (by omega) (by omega) (by omega)]
      have : c + sumF (fun i => if s 98 0 i = 0 then 0 else 1) t (k + 1) = c + 1 + sumF (fun i => if s 98 0 i = 0 then 0 else 1) (t + 1) k := by
        show c + ((if s 98 0 t = 0 then 0 else 1) + _) = _
        rw [if_neg hz]
        omega
      rw [this]
end CNT2
theorem pr_told (L : Nat) : Pr_told (Inv L) := by
  intro a ha s hs
  obtain ⟨h1, h2, h3, h4, h5, h6, h7, h8, h9, h10, h11, h12, h13, h14, h15, h16, h17, h18, h19, h20⟩ := id hs
  have h50 := h5.2
  have h80 := h8.2
  by_cases hc : 0 ≤ a ∧ a ≤ 6
  · rcases (show a = 0 ∨ a = 1 ∨ a = 2 ∨ a = 3 ∨ a = 4 ∨ a = 5 ∨ a = 6 by omega) with rfl | rfl | rfl | rfl | rfl | rfl | rfl
    · refine ⟨s 11 0 0, s, s, ?_, ?_, hs, rfl, rfl⟩ <;> intro m pc ls st fs Q
      · simp only [r108_0, r108_1_0, r108_1_1, r108_1_2, r108_1_3, r108_1_4, r108_1_5, r108_1_6, r108_1_d, r108_44, r108_45, r108_48, r108_51, r108_52, r108_53, r108_56, r108_59, r108_60, r108_61, r108_64, r108_67, r108_68, r108_69, r108_72, r108_75, r108_76, r108_77, r108_80, r108_83, r108_84, r108_85, r108_88, r108_91, r108_92, r108_93, r108_96, r108_97, r108_98, r108_100, r108_103, h4.1, zclr_I, zclr_R, zclr_L, zclr_U, reduceIte, Int.reduceEq, Int.reduceLT, Int.reduceLE, Int.reduceNeg, not_true_eq_false, not_false_eq_true, or_true, true_or, or_false, false_or, and_true, true_and, and_false, false_and, z01_or]
      · simp only [r186_0, r186_1, r186_2, r186_3_0, r186_3_1, r186_3_2, r186_3_3, r186_3_4, r186_3_5, r186_3_6, r186_3_d, r186_44, r186_45, r186_48, r186_49, r186_50, r186_53, zclr_I, zclr_R, zclr_L, zclr_U, reduceIte, Int.reduceEq, Int.reduceLT, Int.reduceLE, Int.reduceNeg, not_true_eq_false, not_false_eq_true, or_true, true_or, or_false, false_or, and_true, true_and, and_false, false_and, z01_or]
    · refine ⟨s 11 0 1, s, s, ?_, ?_, hs, rfl, rfl⟩ <;> intro m pc ls st fs Q
      · simp only [r108_0, r108_1_0, r108_1_1, r108_1_2, r108_1_3, r108_1_4, r108_1_5, r108_1_6, r108_1_d, r108_44, r108_45, r108_48, r108_51, r108_52, r108_53, r108_56, r108_59, r108_60, r108_61, r108_64, r108_67, r108_68, r108_69, r108_72, r108_75, r108_76, r108_77, r108_80, r108_83, r108_84, r108_85, r108_88, r108_91, r108_92, r108_93, r108_96, r108_97, r108_98, r108_100, r108_103, h5.1, zclr_I, zclr_R, zclr_L, zclr_U, reduceIte, Int.reduceEq, Int.reduceLT, Int.reduceLE, Int.reduceNeg, not_true_eq_false, not_false_eq_true, or_true, true_or, or_false, false_or, and_true, true_and, and_false, false_and, z01_or]
      · simp only [r186_0, r186_1, r186_2, r186_3_0, r186_3_1, r186_3_2, r186_3_3, r186_3_4, r186_3_5, r186_3_6, r186_3_d, r186_44, r186_45, r186_48, r186_49, r186_50, r186_53, zclr_I, zclr_R, zclr_L, zclr_U, reduceIte, Int.reduceEq, Int.reduceLT, Int.reduceLE, Int.reduceNeg, not_true_eq_false, not_false_eq_true, or_true, true_or, or_false, false_or, and_true, true_and, and_false, false_and, z01_or]
    · refine ⟨sumF (fun i => if s 86 0 i = 0 then 0 else 1) 0 (s 11 0 1).toNat, s, s, ?_, ?_, hs, rfl, rfl⟩ <;> intro m pc ls st fs Q
      · simp only [r108_0, r108_1_0, r108_1_1, r108_1_2, r108_1_3, r108_1_4, r108_1_5, r108_1_6, r108_1_d, r108_44, r108_45, r108_48, r108_51, r108_52, r108_53, r108_56, r108_59, r108_60, r108_61, r108_64, r108_67, r108_68, r108_69, r108_72, r108_75, r108_76, r108_77, r108_80, r108_83, r108_84, r108_85, r108_88, r108_91, r108_92, r108_93, r108_96, r108_97, r108_98, r108_100, r108_103, zclr_I, zclr_R, zclr_L, zclr_U, reduceIte, Int.reduceEq, Int.reduceLT, Int.reduceLE, Int.reduceNeg, not_true_eq_false, not_false_eq_true, or_true, true_or, or_false, false_or, and_true, true_and, and_false, false_and, z01_or]
        rw [k_countClasses (by rw [h5.1]; omega), h5.1, sumF_c (g := fun i => if s 86 0 i = 0 then 0 else 1) _ _ (fun i i0 i1 => by rw [(h15 i (by omega) (by omega)).2.2.2.1.1])]
        simp only [r108_0, r108_1_0, r108_1_1, r108_1_2, r108_1_3, r108_1_4, r108_1_5, r108_1_6, r108_1_d, r108_44, r108_45, r108_48, r108_51, r108_52, r108_53, r108_56, r108_59, r108_60, r108_61, r108_64, r108_67, r108_68, r108_69, r108_72, r108_75, r108_76, r108_77, r108_80, r108_83, r108_84, r108_85, r108_88, r108_91, r108_92, r108_93, r108_96, r108_97, r108_98, r108_100, r108_103, zclr_I, zclr_R, zclr_L, zclr_U, reduceIte, Int.reduceEq, Int.reduceLT, Int.reduceLE, Int.reduceNeg, not_true_eq_false, not_false_eq_true, or_true, true_or, or_false, false_or, and_true, true_and, and_false, false_and, z01_or]
      · simp only [r186_0, r186_1, r186_2, r186_3_0, r186_3_1, r186_3_2, r186_3_3, r186_3_4, r186_3_5, r186_3_6, r186_3_d, r186_44, r186_45, r186_48, r186_49, r186_50, r186_53, r186_54, r186_55, zclr_I, zclr_R, zclr_L, zclr_U, reduceIte, Int.reduceEq, Int.reduceLT, Int.reduceLE, Int.reduceNeg, not_true_eq_false, not_false_eq_true, or_true, true_or, or_false, false_or, and_true, true_and, and_false, false_and, z01_or]
        rw [lpM2 (by omega) zU (s 11 0 1).toNat 0 0 (by omega) (by omega) (by omega) (by omega), Int.zero_add]
    · refine ⟨s 11 0 2, s, s, ?_, ?_, hs, rfl, rfl⟩ <;> intro m pc ls st fs Q
      · simp only [r108_0, r108_1_0, r108_1_1, r108_1_2, r108_1_3, r108_1_4, r108_1_5, r108_1_6, r108_1_d, r108_44, r108_45, r108_48, r108_51, r108_52, r108_53, r108_56, r108_59, r108_60, r108_61, r108_64, r108_67, r108_68, r108_69, r108_72, r108_75, r108_76, r108_77, r108_80, r108_83, r108_84, r108_85, r108_88, r108_91, r108_92, r108_93, r108_96, r108_97, r108_98, r108_100, r108_103, h6.1, zclr_I, zclr_R, zclr_L, zclr_U, reduceIte, Int.reduceEq, Int.reduceLT, Int.reduceLE, Int.reduceNeg, not_true_eq_false, not_false_eq_true, or_true, true_or, or_false, false_or, and_true, true_and, and_false, false_and, z01_or]
      · simp only [r186_0, r186_1, r186_2, r186_3_0, r186_3_1, r186_3_2, r186_3_3, r186_3_4, r186_3_5, r186_3_6, r186_3_d, r186_44, r186_45, r186_48, r186_49, r186_50, r186_53, r186_89, r186_90, r186_93, r186_94, r186_95, r186_98, zclr_I, zclr_R, zclr_L, zclr_U, reduceIte, Int.reduceEq, Int.reduceLT, Int.reduceLE, Int.reduceNeg, not_true_eq_false, not_false_eq_true, or_true, true_or, or_false, false_or, and_true, true_and, and_false, false_and, z01_or]
    · refine ⟨s 11 0 3, s, s, ?_, ?_, hs, rfl, rfl⟩ <;> intro m pc ls st fs Q
      · simp only [r108_0, r108_1_0, r108_1_1, r108_1_2, r108_1_3, r108_1_4, r108_1_5, r108_1_6, r108_1_d, r108_44, r108_45, r108_48, r108_51, r108_52, r108_53, r108_56, r108_59, r108_60, r108_61, r108_64, r108_67, r108_68, r108_69, r108_72, r108_75, r108_76, r108_77, r108_80, r108_83, r108_84, r108_85, r108_88, r108_91, r108_92, r108_93, r108_96, r108_97, r108_98, r108_100, r108_103, h7.1, zclr_I, zclr_R, zclr_L, zclr_U, reduceIte, Int.reduceEq, Int.reduceLT, Int.reduceLE, Int.reduceNeg, not_true_eq_false, not_false_eq_true, or_true, true_or, or_false, false_or, and_true, true_and, and_false, false_and, z01_or]
      · simp only [r186_0, r186_1, r186_2, r186_3_0, r186_3_1, r186_3_2, r186_3_3, r186_3_4, r186_3_5, r186_3_6, r186_3_d, r186_44, r186_45, r186_48, r186_49, r186_50, r186_53, r186_89, r186_90, r186_93, r186_94, r186_95, r186_98, zclr_I, zclr_R, zclr_L, zclr_U, reduceIte, Int.reduceEq, Int.reduceLT, Int.reduceLE, Int.reduceNeg, not_true_eq_false, not_false_eq_true, or_true, true_or, or_false, false_or, and_true, true_and, and_false, false_and, z01_or]
    · refine ⟨sumF (fun i => if s 98 0 i = 0 then 0 else 1) 0 (s 11 0 4).toNat, s, s, ?_, ?_, hs, rfl, rfl⟩ <;> intro m pc ls st fs Q
      · simp only [r108_0, r108_1_0, r108_1_1, r108_1_2, r108_1_3, r108_1_4, r108_1_5, r108_1_6, r108_1_d, r108_44, r108_45, r108_48, r108_51, r108_52, r108_53, r108_56, r108_59, r108_60, r108_61, r108_64, r108_67, r108_68, r108_69, r108_72, r108_75, r108_76, r108_77, r108_80, r108_83, r108_84, r108_85, r108_88, r108_91, r108_92, r108_93, r108_96, r108_97, r108_98, r108_100, r108_103, zclr_I, zclr_R, zclr_L, zclr_U, reduceIte, Int.reduceEq, Int.reduceLT, Int.reduceLE, Int.reduceNeg, not_true_eq_false, not_false_eq_true, or_true, true_or, or_false, false_or, and_true, true_and, and_false, false_and, z01_or]
        rw [k_countBooked (by rw [h8.1]; omega), h8.1, sumF_c (g := fun i => if s 98 0 i = 0 then 0 else 1) _ _ (fun i i0 i1 => by rw [(h19.1 i (by omega) (by omega)).2.2.2.1])]
        simp only [r108_0, r108_1_0, r108_1_1, r108_1_2, r108_1_3, r108_1_4, r108_1_5, r108_1_6, r108_1_d, r108_44, r108_45, r108_48, r108_51, r108_52, r108_53, r108_56, r108_59, r108_60, r108_61, r108_64, r108_67, r108_68, r108_69, r108_72, r108_75, r108_76, r108_77, r108_80, r108_83, r108_84, r108_85, r108_88, r108_91, r108_92, r108_93, r108_96, r108_97, r108_98, r108_100, r108_103, zclr_I, zclr_R, zclr_L, zclr_U, reduceIte, Int.reduceEq, Int.reduceLT, Int.reduceLE, Int.reduceNeg, not_true_eq_false, not_false_eq_true, or_true, true_or, or_false, false_or, and_true, true_and, and_false, false_and, z01_or]
      · simp only [r186_0, r186_1, r186_2, r186_3_0, r186_3_1, r186_3_2, r186_3_3, r186_3_4, r186_3_5, r186_3_6, r186_3_d, r186_44, r186_45, r186_48, r186_49, r186_50, r186_53, r186_99, r186_100, zclr_I, zclr_R, zclr_L, zclr_U, reduceIte, Int.reduceEq, Int.reduceLT, Int.reduceLE, Int.reduceNeg, not_true_eq_false, not_false_eq_true, or_true, true_or, or_false, false_or, and_true, true_and, and_false, false_and, z01_or]
        rw [lpM5 (by omega) zU (s 11 0 4).toNat 0 0 (by omega) (by omega) (by omega) (by omega), Int.zero_add]
    · refine ⟨s 11 0 5, s, s, ?_, ?_, hs, rfl, rfl⟩ <;> intro m pc ls st fs Q
      · simp only [r108_0, r108_1_0, r108_1_1, r108_1_2, r108_1_3, r108_1_4, r108_1_5, r108_1_6, r108_1_d, r108_44, r108_45, r108_48, r108_51, r108_52, r108_53, r108_56, r108_59, r108_60, r108_61, r108_64, r108_67, r108_68, r108_69, r108_72, r108_75, r108_76, r108_77, r108_80, r108_83, r108_84, r108_85, r108_88, r108_91, r108_92, r108_93, r108_96, r108_97, r108_98, r108_100, r108_103, h3.1, zclr_I, zclr_R, zclr_L, zclr_U, reduceIte, Int.reduceEq, Int.reduceLT, Int.reduceLE, Int.reduceNeg, not_true_eq_false, not_false_eq_true, or_true, true_or, or_false, false_or, and_true, true_and, and_false, false_and, z01_or]
      · simp only [r186_0, r186_1, r186_2, r186_3_0, r186_3_1, r186_3_2, r186_3_3, r186_3_4, r186_3_5, r186_3_6, r186_3_d, r186_44, r186_45, r186_48, r186_49, r186_50, r186_53, r186_134, r186_135, r186_138, r186_139, r186_140, r186_142, r186_145, zclr_I, zclr_R, zclr_L, zclr_U, reduceIte, Int.reduceEq, Int.reduceLT, Int.reduceLE, Int.reduceNeg, not_true_eq_false, not_false_eq_true, or_true, true_or, or_false, false_or, and_true, true_and, and_false, false_and, z01_or]
  · refine pf (-1000001) hs ?_ ?_ <;> intro m pc ls st fs Q
    · simp only [r108_0]
      rw [r108_1_d _ _ (by omega)]
      simp only [r108_0, r108_1_0, r108_1_1, r108_1_2, r108_1_3, r108_1_4, r108_1_5, r108_1_6, r108_1_d, r108_44, r108_45, r108_48, r108_51, r108_52, r108_53, r108_56, r108_59, r108_60, r108_61, r108_64, r108_67, r108_68, r108_69, r108_72, r108_75, r108_76, r108_77, r108_80, r108_83, r108_84, r108_85, r108_88, r108_91, r108_92, r108_93, r108_96, r108_97, r108_98, r108_100, r108_103, k_finding, zclr_I, zclr_R, zclr_L, zclr_U, reduceIte, Int.reduceEq, Int.reduceLT, Int.reduceLE, Int.reduceNeg, not_true_eq_false, not_false_eq_true, or_true, true_or, or_false, false_or, and_true, true_and, and_false, false_and, z01_or]
    · simp only [r186_0, r186_1, r186_2, zclr_I, zclr_R, zclr_L, zclr_U, reduceIte, Int.reduceEq, Int.reduceLT, Int.reduceLE, Int.reduceNeg, not_true_eq_false, not_false_eq_true, or_true, true_or, or_false, false_or, and_true, true_and, and_false, false_and, z01_or]
      rw [r186_3_d _ _ _ _ (by omega)]
      simp only [r186_134, r186_135, r186_138, r186_139, r186_140, r186_142, r186_145, k_finds, zup_g, Nat.reduceEqDiff, zclr_I, zclr_R, zclr_L, zclr_U, reduceIte, Int.reduceEq, Int.reduceLT, Int.reduceLE, Int.reduceNeg, not_true_eq_false, not_false_eq_true, or_true, true_or, or_false, false_or, and_true, true_and, and_false, false_and, z01_or]

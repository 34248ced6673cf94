section
variable {m pc : Nat} {ls st : List zV} {fs : List zFr} {s : zS} {Q : List zV → zS → Prop}
/-- whom a pupil asks for: w -/
theorem lp48 (p w : Int) (p0 : 0 ≤ p) (p1 : p < 10) (hT : s 6 0 3 ≤ 5) (hA : ∀ t : Int, 0 ≤ t → t < s 6 0 3 → 0 ≤ s 8 t 4 ∧ s 8 t 4 < 1024 ∧ (bi (s 8 t 4) p ↔ w = t)) (hw : w = -1 ∨ 0 ≤ w ∧ w < s 6 0 3) : ∀ (k : Nat) (t : Int), 0 ≤ t → t + k = s 6 0 3 → (w = -1 ∨ t ≤ w) → Ev ((48, 2, [zR 6 0, zI p, zI t], []) :: (m, pc, ls, st) :: fs) s Q = Ev ((m, pc, ls, zI w :: st) :: fs) s Q := by
  intro k
  induction k with
  | zero =>
    intro t h0 h1 h2
    have e1 : (s 6 0 3 ≤ t) = True := eq_true (by omega)
    have ew : w = -1 := by omega
    rw [r48_2]
    simp only [r48_0, r48_1, r48_3, r48_4, r48_7, r48_10, r48_11, r48_14, r48_15, r48_16, r48_19, r48_20, r48_23, r48_26, r48_27, r48_28, r48_31, r48_34, r48_35, e1, ew, zclr_I, zclr_R, zclr_L, zclr_U, reduceIte, Int.reduceEq, Int.reduceLT, Int.reduceLE, Int.reduceNeg, not_true_eq_false, not_false_eq_true, or_true, true_or, or_false, false_or, and_true, true_and, and_false, false_and, z01_or]
  | succ k ih =>
    intro t h0 h1 h2
    have e1 : (s 6 0 3 ≤ t) = False := eq_false (by omega)
    have b1 : (0 ≤ t ∧ t < 5) = True := eq_true (by omega)
    have w1 : w32 (t + 1) = t + 1 := w32_id (by omega) (by omega)
    obtain ⟨c0, c1, c2⟩ := hA t h0 (by omega)
    have c3 := (has_bi c0 c1 p0 p1).trans c2
    rw [r48_2]
    by_cases hz : w = t
    · have q : z01 (¬ zand (zshr (s 8 t 4) p) 1 = 0) = 1 := z01_t (c3.2 hz)
      simp only [r48_0, r48_1, r48_3, r48_4, r48_7, r48_10, r48_11, r48_14, r48_15, r48_16, r48_19, r48_20, r48_23, r48_26, r48_27, r48_28, r48_31, r48_34, r48_35, k_has, e1, b1, q, zak_40, zln_40, zak_41, zln_41, zak_42, zln_42, zak_43, zln_43, zak_44, zln_44, zak_45, zln_45, zak_46, zln_46, zak_47, zln_47, zak_48, zln_48, zak_49, zln_49, zak_50, zln_50, zak_51, zln_51, zak_52, zln_52, zak_53, zln_53, zak_54, zln_54, zak_55, zln_55, zak_73, zln_73, zak_74, zln_74, zak_75, zln_75, zak_76, zln_76, zak_77, zln_77, zak_78, zln_78, zak_79, zln_79, zak_80, zln_80, zak_81, zln_81, zak_82, zln_82, zak_83, zln_83, zak_84, zln_84, zak_85, zln_85, zak_86, zln_86, zak_87, zln_87, zak_88, zln_88, zak_89, zln_89, zak_90, zln_90, zak_91, zln_91, zak_92, zln_92, zak_93, zln_93, zak_94, zln_94, zak_95, zln_95, zak_96, zln_96, zak_97, zln_97, zak_98, zln_98, zak_99, zln_99, zak_100, zln_100, zak_101, zln_101, zak_102, zln_102, zak_103, zln_103, zak_104, zln_104, zak_105, zln_105, zak_108, zln_108, zak_109, zln_109, Nat.reduceLeDiff, zclr_I, zclr_R, zclr_L, zclr_U, reduceIte, Int.reduceEq, Int.reduceLT, Int.reduceLE, Int.reduceNeg, not_true_eq_false, not_false_eq_true, or_true, true_or, or_false, false_or, and_true, true_and, and_false, false_and, z01_or]
      rw [hz]
    · have q : z01 (¬ zand (zshr (s 8 t 4) p) 1 = 0) = 0 := z01_f (fun z => hz (c3.1 z))
      simp only [r48_0, r48_1, r48_3, r48_4, r48_7, r48_10, r48_11, r48_14, r48_15, r48_16, r48_19, r48_20, r48_23, r48_26, r48_27, r48_28, r48_31, r48_34, r48_35, k_has, e1, b1, q, w1, zak_40, zln_40, zak_41, zln_41, zak_42, zln_42, zak_43, zln_43, zak_44, zln_44, zak_45, zln_45, zak_46, zln_46, zak_47, zln_47, zak_48, zln_48, zak_49, zln_49, zak_50, zln_50, zak_51, zln_51, zak_52, zln_52, zak_53, zln_53, zak_54, zln_54, zak_55, zln_55, zak_73, zln_73, zak_74, zln_74, zak_75, zln_75, zak_76, zln_76, zak_77, zln_77, zak_78, zln_78, zak_79, zln_79, zak_80, zln_80, zak_81, zln_81, zak_82, zln_82, zak_83, zln_83, zak_84, zln_84, zak_85, zln_85, zak_86, zln_86, zak_87, zln_87, zak_88, zln_88, zak_89, zln_89, zak_90, zln_90, zak_91, zln_91, zak_92, zln_92, zak_93, zln_93, zak_94, zln_94, zak_95, zln_95, zak_96, zln_96, zak_97, zln_97, zak_98, zln_98, zak_99, zln_99, zak_100, zln_100, zak_101, zln_101, zak_102, zln_102, zak_103, zln_103, zak_104, zln_104, zak_105, zln_105, zak_108, zln_108, zak_109, zln_109, Nat.reduceLeDiff, zclr_I, zclr_R, zclr_L, zclr_U, reduceIte, Int.reduceEq, Int.reduceLT, Int.reduceLE, Int.reduceNeg, not_true_eq_false, not_false_eq_true, or_true, true_or, or_false, false_or, and_true, true_and, and_false, false_and, z01_or]
      exact ih (t + 1) (by omega) (by omega) (by omega)
theorem k_askedBy (p w : Int) (v : zV) (p0 : 0 ≤ p) (p1 : p < 10) (hn : 0 ≤ s 6 0 3) (hT : s 6 0 3 ≤ 5) (hA : ∀ t : Int, 0 ≤ t → t < s 6 0 3 → 0 ≤ s 8 t 4 ∧ s 8 t 4 < 1024 ∧ (bi (s 8 t 4) p ↔ w = t)) (hw : w = -1 ∨ 0 ≤ w ∧ w < s 6 0 3) : Ev ((48, 0, [zR 6 0, zI p, v], []) :: (m, pc, ls, st) :: fs) s Q = Ev ((m, pc, ls, zI w :: st) :: fs) s Q := by
  simp only [r48_0, r48_1, zclr_I, zclr_R, zclr_L, zclr_U, reduceIte, Int.reduceEq, Int.reduceLT, Int.reduceLE, Int.reduceNeg, not_true_eq_false, not_false_eq_true, or_true, true_or, or_false, false_or, and_true, true_and, and_false, false_and, z01_or]
  exact lp48 p w p0 p1 hT hA hw (s 6 0 3).toNat 0 (by omega) (by omega) (by omega)
end

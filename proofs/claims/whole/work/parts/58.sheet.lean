/-! Arrays.fill, sheet -/
section
variable {m pc : Nat} {ls st : List zV} {fs : List zFr} {Q : List zV → zS → Prop}
theorem lpF2 (g : Nat) (i n x : Int) (hk : zak g = 0) (hg : g ≤ 107) (hn : ∀ s : zS, zln s g = n) (n1 : n < 1000000) : ∀ (k : Nat) (t : Int) (s : zS), 0 ≤ t → t + k = n → Ev ((2, 5, [zR g i, zI x, zI t, zI n], []) :: (m, pc, ls, st) :: fs) s Q = Ev ((m, pc, ls, st) :: fs) (zfl s g i t n x) Q := by
  intro k
  induction k with
  | zero =>
    intro t s h0 h1
    have e1 : (n ≤ t) = True := eq_true (by omega)
    rw [r2_5, zfl_0 (by omega)]
    simp only [r2_0, r2_1, r2_2, r2_3, r2_4, r2_6, r2_7, r2_10, r2_11, r2_12, r2_13, r2_14, r2_17, r2_20, e1, zclr_I, zclr_R, zclr_L, zclr_U, reduceIte, Int.reduceEq, Int.reduceLT, Int.reduceLE, Int.reduceNeg, not_true_eq_false, not_false_eq_true, or_true, true_or, or_false, false_or, and_true, true_and, and_false, false_and, z01_or]
  | succ k ih =>
    intro t s h0 h1
    have e1 : (n ≤ t) = False := eq_false (by omega)
    have b1 : (0 ≤ t ∧ t < n) = True := eq_true (by omega)
    have b2 : ((zak g = 0 ∧ g ≤ 107) ∧ 0 ≤ t ∧ t < zln s g) = True := eq_true ⟨⟨hk, hg⟩, h0, by rw [hn]; omega⟩
    have w1 : w32 (t + 1) = t + 1 := w32_id (by omega) (by omega)
    rw [r2_5]
    simp only [r2_0, r2_1, r2_2, r2_3, r2_4, r2_6, r2_7, r2_10, r2_11, r2_12, r2_13, r2_14, r2_17, r2_20, e1, b2, w1, zclr_I, zclr_R, zclr_L, zclr_U, reduceIte, Int.reduceEq, Int.reduceLT, Int.reduceLE, Int.reduceNeg, not_true_eq_false, not_false_eq_true, or_true, true_or, or_false, false_or, and_true, true_and, and_false, false_and, z01_or]
    rw [ih (t + 1) _ (by omega) (by omega), zfl_s (by omega)]
theorem k_fill (g : Nat) (i n x : Int) (v1 v2 : zV) (s : zS) (hk : zak g = 0) (hg : g ≤ 107) (hn : ∀ s : zS, zln s g = n) (n0 : 0 ≤ n) (n1 : n < 1000000) : Ev ((2, 0, [zR g i, zI x, v1, v2], []) :: (m, pc, ls, st) :: fs) s Q = Ev ((m, pc, ls, st) :: fs) (zfl s g i 0 n x) Q := by
  have b2 : (zak g ≤ 3 ∧ 0 ≤ zln s g) = True := eq_true ⟨by omega, by rw [hn]; exact n0⟩
  simp only [r2_0, r2_1, r2_2, r2_3, r2_4, b2, zclr_I, zclr_R, zclr_L, zclr_U, reduceIte, Int.reduceEq, Int.reduceLT, Int.reduceLE, Int.reduceNeg, not_true_eq_false, not_false_eq_true, or_true, true_or, or_false, false_or, and_true, true_and, and_false, false_and, z01_or]
  rw [hn]
  exact lpF2 g i n x hk hg hn n1 n.toNat 0 s (by omega) (by omega)
theorem lpF1 (g : Nat) (i n x : Int) (hk : zak g = 2) (hn : ∀ s : zS, zln s g = n) (n1 : n < 1000000) : ∀ (k : Nat) (t : Int) (s : zS), 0 ≤ t → t + k = n → Ev ((1, 6, [zR g i, zL x, zU, zI t, zI n], []) :: (m, pc, ls, st) :: fs) s Q = Ev ((m, pc, ls, st) :: fs) (zfl s g i t n x) Q := by
  intro k
  induction k with
  | zero =>
    intro t s h0 h1
    have e1 : (n ≤ t) = True := eq_true (by omega)
    rw [r1_6, zfl_0 (by omega)]
    simp only [r1_0, r1_1, r1_2, r1_3, r1_4, r1_7, r1_9, r1_12, r1_13, r1_14, r1_15, r1_16, r1_19, r1_22, e1, zclr_I, zclr_R, zclr_L, zclr_U, reduceIte, Int.reduceEq, Int.reduceLT, Int.reduceLE, Int.reduceNeg, not_true_eq_false, not_false_eq_true, or_true, true_or, or_false, false_or, and_true, true_and, and_false, false_and, z01_or]
  | succ k ih =>
    intro t s h0 h1
    have e1 : (n ≤ t) = False := eq_false (by omega)
    have b2 : (zak g = 2 ∧ 0 ≤ t ∧ t < zln s g) = True := eq_true ⟨hk, h0, by rw [hn]; omega⟩
    have w1 : w32 (t + 1) = t + 1 := w32_id (by omega) (by omega)
    rw [r1_6]
    simp only [r1_0, r1_1, r1_2, r1_3, r1_4, r1_7, r1_9, r1_12, r1_13, r1_14, r1_15, r1_16, r1_19, r1_22, e1, b2, w1, zclr_I, zclr_R, zclr_L, zclr_U, reduceIte, Int.reduceEq, Int.reduceLT, Int.reduceLE, Int.reduceNeg, not_true_eq_false, not_false_eq_true, or_true, true_or, or_false, false_or, and_true, true_and, and_false, false_and, z01_or]
    rw [ih (t + 1) _ (by omega) (by omega), zfl_s (by omega)]
theorem k_fillL (g : Nat) (i n x : Int) (v1 v2 : zV) (s : zS) (hk : zak g = 2) (hn : ∀ s : zS, zln s g = n) (n0 : 0 ≤ n) (n1 : n < 1000000) : Ev ((1, 0, [zR g i, zL x, zU, v1, v2], []) :: (m, pc, ls, st) :: fs) s Q = Ev ((m, pc, ls, st) :: fs) (zfl s g i 0 n x) Q := by
  have b2 : (zak g ≤ 3 ∧ 0 ≤ zln s g) = True := eq_true ⟨by omega, by rw [hn]; exact n0⟩
  simp only [r1_0, r1_1, r1_2, r1_3, r1_4, b2, zclr_I, zclr_R, zclr_L, zclr_U, reduceIte, Int.reduceEq, Int.reduceLT, Int.reduceLE, Int.reduceNeg, not_true_eq_false, not_false_eq_true, or_true, true_or, or_false, false_or, and_true, true_and, and_false, false_and, z01_or]
  rw [hn]
  exact lpF1 g i n x hk hn n1 n.toNat 0 s (by omega) (by omega)
theorem lp182 (a c : Int) (v2 : zV) (a0 : 0 ≤ a) (a1 : a ≤ 3) : ∀ (k : Nat) (t : Int) (s : zS), 0 ≤ t → t + k = 10 → ∀ (F : List zFr), Ev ((182, 85, [zR 11 0, zI a, v2, zI c, zI t], []) :: F) s Q = Ev ((182, 111, [zR 11 0, zI a, v2, zI c, zI 10], []) :: F) (zfl s 101 0 (10 * a + t) (10 * a + 10) 0) Q := by
  intro k
  induction k with
  | zero =>
    intro t s h0 h1 F
    have e1 : ((10 : Int) ≤ t) = True := eq_true (by omega)
    have e2 : t = 10 := by omega
    rw [r182_85, zfl_0 (by omega)]
    simp only [r182_87, r182_89, r182_92, r182_93, r182_96, r182_98, r182_99, r182_100, r182_102, r182_103, r182_104, r182_105, r182_108, e1, zclr_I, zclr_R, zclr_L, zclr_U, reduceIte, Int.reduceEq, Int.reduceLT, Int.reduceLE, Int.reduceNeg, not_true_eq_false, not_false_eq_true, or_true, true_or, or_false, false_or, and_true, true_and, and_false, false_and, z01_or]
    rw [e2]
  | succ k ih =>
    intro t s h0 h1 F
    have e1 : ((10 : Int) ≤ t) = False := eq_false (by omega)
    have b2 : (0 ≤ 10 * a + t ∧ 10 * a + t < 40) = True := eq_true (by omega)
    have w1 : w32 (t + 1) = t + 1 := w32_id (by omega) (by omega)
    have w2 : w32 (10 * a) = 10 * a := w32_id (by omega) (by omega)
    have w3 : w32 (10 * a + t) = 10 * a + t := w32_id (by omega) (by omega)
    rw [r182_85]
    simp only [r182_87, r182_89, r182_92, r182_93, r182_96, r182_98, r182_99, r182_100, r182_102, r182_103, r182_104, r182_105, r182_108, e1, b2, w1, w2, w3, zak_40, zln_40, zak_41, zln_41, zak_42, zln_42, zak_43, zln_43, zak_44, zln_44, zak_45, zln_45, zak_46, zln_46, zak_47, zln_47, zak_48, zln_48, zak_49, zln_49, zak_50, zln_50, zak_51, zln_51, zak_52, zln_52, zak_53, zln_53, zak_54, zln_54, zak_55, zln_55, zak_73, zln_73, zak_74, zln_74, zak_75, zln_75, zak_76, zln_76, zak_77, zln_77, zak_78, zln_78, zak_79, zln_79, zak_80, zln_80, zak_81, zln_81, zak_82, zln_82, zak_83, zln_83, zak_84, zln_84, zak_85, zln_85, zak_86, zln_86, zak_87, zln_87, zak_88, zln_88, zak_89, zln_89, zak_90, zln_90, zak_91, zln_91, zak_92, zln_92, zak_93, zln_93, zak_94, zln_94, zak_95, zln_95, zak_96, zln_96, zak_97, zln_97, zak_98, zln_98, zak_99, zln_99, zak_100, zln_100, zak_101, zln_101, zak_102, zln_102, zak_103, zln_103, zak_104, zln_104, zak_105, zln_105, zak_108, zln_108, zak_109, zln_109, Nat.reduceLeDiff, zclr_I, zclr_R, zclr_L, zclr_U, reduceIte, Int.reduceEq, Int.reduceLT, Int.reduceLE, Int.reduceNeg, not_true_eq_false, not_false_eq_true, or_true, true_or, or_false, false_or, and_true, true_and, and_false, false_and, z01_or]
    rw [ih (t + 1) _ (by omega) (by omega), ← Int.add_assoc, zfl_s (by omega)]
end
theorem pr_sheet (L : Nat) : Pr_sheet (Inv L) := by
  intro a b c ha hb hc0 s hs
  obtain ⟨h1, h2, h3, h4, h5, h6, h7, h8, h9, h10, h11, h12, h13, h14, h15, h16, h17, h18, h19, h20⟩ := id hs
  by_cases hc : 0 ≤ a ∧ a < 4
  · have q1 := z01_t hc
    have q2 : z01 (0 ≤ a ∧ a ≤ 3) = 1 := z01_t (by omega)
    have b1 : (0 ≤ a ∧ a < 4) = True := eq_true hc
    by_cases hbb : b = 0 ∨ b = 8 ∨ b = 16 ∨ b = 32
    · by_cases hn : c < 0
      · have n1 : (0 ≤ c) = False := eq_false (by omega)
        refine pf (-1000007) hs ?_ ?_ <;> intro m pc ls st fs Q
        · rcases hbb with rfl | rfl | rfl | rfl <;> simp only [r104_0, r104_1, r104_2, r104_5, r104_8, r104_9, r104_12, r104_13, r104_15, r104_18, r104_19, r104_21, r104_24, r104_25, r104_27, r104_30, r104_31, r104_33, r104_36, r104_37, r104_38, r104_41, r104_42, r104_44, r104_47, r104_48, r104_49, r104_51, r104_54, r104_55, r104_57, r104_60, r104_61, r104_62, r104_65, r104_66, r104_67, r104_69, r104_71, r104_72, r104_73, r104_76, r104_77, r104_80, r104_81, r104_84, r104_86, r104_89, k_isBelow, k_finding, q1, n1, hn, zclr_I, zclr_R, zclr_L, zclr_U, reduceIte, Int.reduceEq, Int.reduceLT, Int.reduceLE, Int.reduceNeg, not_true_eq_false, not_false_eq_true, or_true, true_or, or_false, false_or, and_true, true_and, and_false, false_and, z01_or]
        · rcases hbb with rfl | rfl | rfl | rfl <;> simp only [r182_0, r182_1, r182_4, r182_7, r182_8, r182_11, r182_12, r182_14, r182_17, r182_18, r182_20, r182_23, r182_24, r182_26, r182_29, r182_30, r182_32, r182_35, r182_36, r182_37, r182_40, r182_41, r182_43, r182_46, r182_47, r182_48, r182_50, r182_53, r182_54, r182_56, r182_59, k_isSheet, k_finds, q2, n1, hn, zup_g, Nat.reduceEqDiff, zclr_I, zclr_R, zclr_L, zclr_U, reduceIte, Int.reduceEq, Int.reduceLT, Int.reduceLE, Int.reduceNeg, not_true_eq_false, not_false_eq_true, or_true, true_or, or_false, false_or, and_true, true_and, and_false, false_and, z01_or]
      · have n1 : (0 ≤ c) = True := eq_true (by omega)
        by_cases hm : c ≤ 10
        · have m1 : (10 < c) = False := eq_false (by omega)
          have fill := fun (s : zS) (m pc : Nat) (ls st : List zV) (fs : List zFr) (Q : List zV → zS → Prop) => k_fill (m := m) (pc := pc) (ls := ls) (st := st) (fs := fs) (Q := Q) 54 a 10 0 zU zU s zak_54 (by omega) zln_54 (by omega) (by omega)
          have main : ∀ n : Int, n = (if b = 0 then 0 else c) → ∃ (r : Int) (s1 s2 : zS), Call 104 [zR 10 0, zI a, zI b, zI c, zU] s r s1 ∧ Call 182 [zR 11 0, zI a, zI b, zI c, zU] s1 r s2 ∧ Inv L s2 ∧ s1 110 = s 110 ∧ s1 111 = s 111 := by
            intro n hn2
            refine ⟨n, zfl (zup (zup s 7 a 0 b) 7 a 1 n) 54 a 0 10 0, zfl (zup (zup (zfl (zup (zup s 7 a 0 b) 7 a 1 n) 54 a 0 10 0) 99 0 a b) 100 0 a n) 101 0 (10 * a + 0) (10 * a + 10) 0, ?_, ?_, ?_, ?_, ?_⟩
            · intro m pc ls st fs Q
              have fg : zfl (zup (zup s 7 a 0 b) 7 a 1 n) 54 a 0 10 0 7 a 1 = n := by rw [zfl_ng (by omega), zup_eq]
              rcases hbb with rfl | rfl | rfl | rfl
              · have en : n = 0 := hn2
                subst en
                simp only [r104_0, r104_1, r104_2, r104_5, r104_8, r104_9, r104_12, r104_13, r104_15, r104_18, r104_19, r104_21, r104_24, r104_25, r104_27, r104_30, r104_31, r104_33, r104_36, r104_37, r104_38, r104_41, r104_42, r104_44, r104_47, r104_48, r104_49, r104_51, r104_54, r104_55, r104_57, r104_60, r104_61, r104_62, r104_65, r104_66, r104_67, r104_69, r104_71, r104_72, r104_73, r104_76, r104_77, r104_80, r104_81, r104_84, r104_86, r104_89, r61_0, r61_1, r61_2, r61_5, r61_6, r61_7, r61_10, r61_11, r61_14, r61_15, r61_18, k_isBelow, fill, z01_True, q1, b1, n1, hn, hm, m1, fg, zak_40, zln_40, zak_41, zln_41, zak_42, zln_42, zak_43, zln_43, zak_44, zln_44, zak_45, zln_45, zak_46, zln_46, zak_47, zln_47, zak_48, zln_48, zak_49, zln_49, zak_50, zln_50, zak_51, zln_51, zak_52, zln_52, zak_53, zln_53, zak_54, zln_54, zak_55, zln_55, zak_73, zln_73, zak_74, zln_74, zak_75, zln_75, zak_76, zln_76, zak_77, zln_77, zak_78, zln_78, zak_79, zln_79, zak_80, zln_80, zak_81, zln_81, zak_82, zln_82, zak_83, zln_83, zak_84, zln_84, zak_85, zln_85, zak_86, zln_86, zak_87, zln_87, zak_88, zln_88, zak_89, zln_89, zak_90, zln_90, zak_91, zln_91, zak_92, zln_92, zak_93, zln_93, zak_94, zln_94, zak_95, zln_95, zak_96, zln_96, zak_97, zln_97, zak_98, zln_98, zak_99, zln_99, zak_100, zln_100, zak_101, zln_101, zak_102, zln_102, zak_103, zln_103, zak_104, zln_104, zak_105, zln_105, zak_108, zln_108, zak_109, zln_109, Nat.reduceLeDiff, zclr_I, zclr_R, zclr_L, zclr_U, reduceIte, Int.reduceEq, Int.reduceLT, Int.reduceLE, Int.reduceNeg, not_true_eq_false, not_false_eq_true, or_true, true_or, or_false, false_or, and_true, true_and, and_false, false_and, z01_or]
              · have en : n = c := hn2
                subst en
                simp only [r104_0, r104_1, r104_2, r104_5, r104_8, r104_9, r104_12, r104_13, r104_15, r104_18, r104_19, r104_21, r104_24, r104_25, r104_27, r104_30, r104_31, r104_33, r104_36, r104_37, r104_38, r104_41, r104_42, r104_44, r104_47, r104_48, r104_49, r104_51, r104_54, r104_55, r104_57, r104_60, r104_61, r104_62, r104_65, r104_66, r104_67, r104_69, r104_71, r104_72, r104_73, r104_76, r104_77, r104_80, r104_81, r104_84, r104_86, r104_89, r61_0, r61_1, r61_2, r61_5, r61_6, r61_7, r61_10, r61_11, r61_14, r61_15, r61_18, k_isBelow, fill, z01_True, q1, b1, n1, hn, hm, m1, fg, zak_40, zln_40, zak_41, zln_41, zak_42, zln_42, zak_43, zln_43, zak_44, zln_44, zak_45, zln_45, zak_46, zln_46, zak_47, zln_47, zak_48, zln_48, zak_49, zln_49, zak_50, zln_50, zak_51, zln_51, zak_52, zln_52, zak_53, zln_53, zak_54, zln_54, zak_55, zln_55, zak_73, zln_73, zak_74, zln_74, zak_75, zln_75, zak_76, zln_76, zak_77, zln_77, zak_78, zln_78, zak_79, zln_79, zak_80, zln_80, zak_81, zln_81, zak_82, zln_82, zak_83, zln_83, zak_84, zln_84, zak_85, zln_85, zak_86, zln_86, zak_87, zln_87, zak_88, zln_88, zak_89, zln_89, zak_90, zln_90, zak_91, zln_91, zak_92, zln_92, zak_93, zln_93, zak_94, zln_94, zak_95, zln_95, zak_96, zln_96, zak_97, zln_97, zak_98, zln_98, zak_99, zln_99, zak_100, zln_100, zak_101, zln_101, zak_102, zln_102, zak_103, zln_103, zak_104, zln_104, zak_105, zln_105, zak_108, zln_108, zak_109, zln_109, Nat.reduceLeDiff, zclr_I, zclr_R, zclr_L, zclr_U, reduceIte, Int.reduceEq, Int.reduceLT, Int.reduceLE, Int.reduceNeg, not_true_eq_false, not_false_eq_true, or_true, true_or, or_false, false_or, and_true, true_and, and_false, false_and, z01_or]
              · have en : n = c := hn2
                subst en
                simp only [r104_0, r104_1, r104_2, r104_5, r104_8, r104_9, r104_12, r104_13, r104_15, r104_18, r104_19, r104_21, r104_24, r104_25, r104_27, r104_30, r104_31, r104_33, r104_36, r104_37, r104_38, r104_41, r104_42, r104_44, r104_47, r104_48, r104_49, r104_51, r104_54, r104_55, r104_57, r104_60, r104_61, r104_62, r104_65, r104_66, r104_67, r104_69, r104_71, r104_72, r104_73, r104_76, r104_77, r104_80, r104_81, r104_84, r104_86, r104_89, r61_0, r61_1, r61_2, r61_5, r61_6, r61_7, r61_10, r61_11, r61_14, r61_15, r61_18, k_isBelow, fill, z01_True, q1, b1, n1, hn, hm, m1, fg, zak_40, zln_40, zak_41, zln_41, zak_42, zln_42, zak_43, zln_43, zak_44, zln_44, zak_45, zln_45, zak_46, zln_46, zak_47, zln_47, zak_48, zln_48, zak_49, zln_49, zak_50, zln_50, zak_51, zln_51, zak_52, zln_52, zak_53, zln_53, zak_54, zln_54, zak_55, zln_55, zak_73, zln_73, zak_74, zln_74, zak_75, zln_75, zak_76, zln_76, zak_77, zln_77, zak_78, zln_78, zak_79, zln_79, zak_80, zln_80, zak_81, zln_81, zak_82, zln_82, zak_83, zln_83, zak_84, zln_84, zak_85, zln_85, zak_86, zln_86, zak_87, zln_87, zak_88, zln_88, zak_89, zln_89, zak_90, zln_90, zak_91, zln_91, zak_92, zln_92, zak_93, zln_93, zak_94, zln_94, zak_95, zln_95, zak_96, zln_96, zak_97, zln_97, zak_98, zln_98, zak_99, zln_99, zak_100, zln_100, zak_101, zln_101, zak_102, zln_102, zak_103, zln_103, zak_104, zln_104, zak_105, zln_105, zak_108, zln_108, zak_109, zln_109, Nat.reduceLeDiff, zclr_I, zclr_R, zclr_L, zclr_U, reduceIte, Int.reduceEq, Int.reduceLT, Int.reduceLE, Int.reduceNeg, not_true_eq_false, not_false_eq_true, or_true, true_or, or_false, false_or, and_true, true_and, and_false, false_and, z01_or]
              · have en : n = c := hn2
                subst en
                simp only [r104_0, r104_1, r104_2, r104_5, r104_8, r104_9, r104_12, r104_13, r104_15, r104_18, r104_19, r104_21, r104_24, r104_25, r104_27, r104_30, r104_31, r104_33, r104_36, r104_37, r104_38, r104_41, r104_42, r104_44, r104_47, r104_48, r104_49, r104_51, r104_54, r104_55, r104_57, r104_60, r104_61, r104_62, r104_65, r104_66, r104_67, r104_69, r104_71, r104_72, r104_73, r104_76, r104_77, r104_80, r104_81, r104_84, r104_86, r104_89, r61_0, r61_1, r61_2, r61_5, r61_6, r61_7, r61_10, r61_11, r61_14, r61_15, r61_18, k_isBelow, fill, z01_True, q1, b1, n1, hn, hm, m1, fg, zak_40, zln_40, zak_41, zln_41, zak_42, zln_42, zak_43, zln_43, zak_44, zln_44, zak_45, zln_45, zak_46, zln_46, zak_47, zln_47, zak_48, zln_48, zak_49, zln_49, zak_50, zln_50, zak_51, zln_51, zak_52, zln_52, zak_53, zln_53, zak_54, zln_54, zak_55, zln_55, zak_73, zln_73, zak_74, zln_74, zak_75, zln_75, zak_76, zln_76, zak_77, zln_77, zak_78, zln_78, zak_79, zln_79, zak_80, zln_80, zak_81, zln_81, zak_82, zln_82, zak_83, zln_83, zak_84, zln_84, zak_85, zln_85, zak_86, zln_86, zak_87, zln_87, zak_88, zln_88, zak_89, zln_89, zak_90, zln_90, zak_91, zln_91, zak_92, zln_92, zak_93, zln_93, zak_94, zln_94, zak_95, zln_95, zak_96, zln_96, zak_97, zln_97, zak_98, zln_98, zak_99, zln_99, zak_100, zln_100, zak_101, zln_101, zak_102, zln_102, zak_103, zln_103, zak_104, zln_104, zak_105, zln_105, zak_108, zln_108, zak_109, zln_109, Nat.reduceLeDiff, zclr_I, zclr_R, zclr_L, zclr_U, reduceIte, Int.reduceEq, Int.reduceLT, Int.reduceLE, Int.reduceNeg, not_true_eq_false, not_false_eq_true, or_true, true_or, or_false, false_or, and_true, true_and, and_false, false_and, z01_or]
            · intro m pc ls st fs Q
              have fg : zfl (zup (zup (zfl (zup (zup s 7 a 0 b) 7 a 1 n) 54 a 0 10 0) 99 0 a b) 100 0 a n) 101 0 (10 * a + 0) (10 * a + 10) 0 100 0 a = n := by rw [zfl_ng (by omega), zup_eq]
              rcases hbb with rfl | rfl | rfl | rfl
              · have en : n = 0 := hn2
                subst en
                simp only [r182_0, r182_1, r182_4, r182_7, r182_8, r182_11, r182_12, r182_14, r182_17, r182_18, r182_20, r182_23, r182_24, r182_26, r182_29, r182_30, r182_32, r182_35, r182_36, r182_37, r182_40, r182_41, r182_43, r182_46, r182_47, r182_48, r182_50, r182_53, r182_54, r182_56, r182_59, r182_60, r182_61, r182_64, r182_65, r182_66, r182_67, r182_68, r182_71, r182_72, r182_73, r182_76, r182_77, r182_80, r182_81, r182_82, r182_83, k_isSheet, q2, b1, n1, hn, hm, m1, zak_40, zln_40, zak_41, zln_41, zak_42, zln_42, zak_43, zln_43, zak_44, zln_44, zak_45, zln_45, zak_46, zln_46, zak_47, zln_47, zak_48, zln_48, zak_49, zln_49, zak_50, zln_50, zak_51, zln_51, zak_52, zln_52, zak_53, zln_53, zak_54, zln_54, zak_55, zln_55, zak_73, zln_73, zak_74, zln_74, zak_75, zln_75, zak_76, zln_76, zak_77, zln_77, zak_78, zln_78, zak_79, zln_79, zak_80, zln_80, zak_81, zln_81, zak_82, zln_82, zak_83, zln_83, zak_84, zln_84, zak_85, zln_85, zak_86, zln_86, zak_87, zln_87, zak_88, zln_88, zak_89, zln_89, zak_90, zln_90, zak_91, zln_91, zak_92, zln_92, zak_93, zln_93, zak_94, zln_94, zak_95, zln_95, zak_96, zln_96, zak_97, zln_97, zak_98, zln_98, zak_99, zln_99, zak_100, zln_100, zak_101, zln_101, zak_102, zln_102, zak_103, zln_103, zak_104, zln_104, zak_105, zln_105, zak_108, zln_108, zak_109, zln_109, Nat.reduceLeDiff, zclr_I, zclr_R, zclr_L, zclr_U, reduceIte, Int.reduceEq, Int.reduceLT, Int.reduceLE, Int.reduceNeg, not_true_eq_false, not_false_eq_true, or_true, true_or, or_false, false_or, and_true, true_and, and_false, false_and, z01_or]
                rw [lp182 a _ _ (by omega) (by omega) 10 0 _ (by omega) (by omega)]
                simp only [r182_111, r182_112, r182_115, r182_116, r182_117, b1, fg, zak_40, zln_40, zak_41, zln_41, zak_42, zln_42, zak_43, zln_43, zak_44, zln_44, zak_45, zln_45, zak_46, zln_46, zak_47, zln_47, zak_48, zln_48, zak_49, zln_49, zak_50, zln_50, zak_51, zln_51, zak_52, zln_52, zak_53, zln_53, zak_54, zln_54, zak_55, zln_55, zak_73, zln_73, zak_74, zln_74, zak_75, zln_75, zak_76, zln_76, zak_77, zln_77, zak_78, zln_78, zak_79, zln_79, zak_80, zln_80, zak_81, zln_81, zak_82, zln_82, zak_83, zln_83, zak_84, zln_84, zak_85, zln_85, zak_86, zln_86, zak_87, zln_87, zak_88, zln_88, zak_89, zln_89, zak_90, zln_90, zak_91, zln_91, zak_92, zln_92, zak_93, zln_93, zak_94, zln_94, zak_95, zln_95, zak_96, zln_96, zak_97, zln_97, zak_98, zln_98, zak_99, zln_99, zak_100, zln_100, zak_101, zln_101, zak_102, zln_102, zak_103, zln_103, zak_104, zln_104, zak_105, zln_105, zak_108, zln_108, zak_109, zln_109, Nat.reduceLeDiff, zclr_I, zclr_R, zclr_L, zclr_U, reduceIte, Int.reduceEq, Int.reduceLT, Int.reduceLE, Int.reduceNeg, not_true_eq_false, not_false_eq_true, or_true, true_or, or_false, false_or, and_true, true_and, and_false, false_and, z01_or]
              · have en : n = c := hn2
                subst en
                simp only [r182_0, r182_1, r182_4, r182_7, r182_8, r182_11, r182_12, r182_14, r182_17, r182_18, r182_20, r182_23, r182_24, r182_26, r182_29, r182_30, r182_32, r182_35, r182_36, r182_37, r182_40, r182_41, r182_43, r182_46, r182_47, r182_48, r182_50, r182_53, r182_54, r182_56, r182_59, r182_60, r182_61, r182_64, r182_65, r182_66, r182_67, r182_68, r182_71, r182_72, r182_73, r182_76, r182_77, r182_80, r182_81, r182_82, r182_83, k_isSheet, q2, b1, n1, hn, hm, m1, zak_40, zln_40, zak_41, zln_41, zak_42, zln_42, zak_43, zln_43, zak_44, zln_44, zak_45, zln_45, zak_46, zln_46, zak_47, zln_47, zak_48, zln_48, zak_49, zln_49, zak_50, zln_50, zak_51, zln_51, zak_52, zln_52, zak_53, zln_53, zak_54, zln_54, zak_55, zln_55, zak_73, zln_73, zak_74, zln_74, zak_75, zln_75, zak_76, zln_76, zak_77, zln_77, zak_78, zln_78, zak_79, zln_79, zak_80, zln_80, zak_81, zln_81, zak_82, zln_82, zak_83, zln_83, zak_84, zln_84, zak_85, zln_85, zak_86, zln_86, zak_87, zln_87, zak_88, zln_88, zak_89, zln_89, zak_90, zln_90, zak_91, zln_91, zak_92, zln_92, zak_93, zln_93, zak_94, zln_94, zak_95, zln_95, zak_96, zln_96, zak_97, zln_97, zak_98, zln_98, zak_99, zln_99, zak_100, zln_100, zak_101, zln_101, zak_102, zln_102, zak_103, zln_103, zak_104, zln_104, zak_105, zln_105, zak_108, zln_108, zak_109, zln_109, Nat.reduceLeDiff, zclr_I, zclr_R, zclr_L, zclr_U, reduceIte, Int.reduceEq, Int.reduceLT, Int.reduceLE, Int.reduceNeg, not_true_eq_false, not_false_eq_true, or_true, true_or, or_false, false_or, and_true, true_and, and_false, false_and, z01_or]
                rw [lp182 a _ _ (by omega) (by omega) 10 0 _ (by omega) (by omega)]
                simp only [r182_111, r182_112, r182_115, r182_116, r182_117, b1, fg, zak_40, zln_40, zak_41, zln_41, zak_42, zln_42, zak_43, zln_43, zak_44, zln_44, zak_45, zln_45, zak_46, zln_46, zak_47, zln_47, zak_48, zln_48, zak_49, zln_49, zak_50, zln_50, zak_51, zln_51, zak_52, zln_52, zak_53, zln_53, zak_54, zln_54, zak_55, zln_55, zak_73, zln_73, zak_74, zln_74, zak_75, zln_75, zak_76, zln_76, zak_77, zln_77, zak_78, zln_78, zak_79, zln_79, zak_80, zln_80, zak_81, zln_81, zak_82, zln_82, zak_83, zln_83, zak_84, zln_84, zak_85, zln_85, zak_86, zln_86, zak_87, zln_87, zak_88, zln_88, zak_89, zln_89, zak_90, zln_90, zak_91, zln_91, zak_92, zln_92, zak_93, zln_93, zak_94, zln_94, zak_95, zln_95, zak_96, zln_96, zak_97, zln_97, zak_98, zln_98, zak_99, zln_99, zak_100, zln_100, zak_101, zln_101, zak_102, zln_102, zak_103, zln_103, zak_104, zln_104, zak_105, zln_105, zak_108, zln_108, zak_109, zln_109, Nat.reduceLeDiff, zclr_I, zclr_R, zclr_L, zclr_U, reduceIte, Int.reduceEq, Int.reduceLT, Int.reduceLE, Int.reduceNeg, not_true_eq_false, not_false_eq_true, or_true, true_or, or_false, false_or, and_true, true_and, and_false, false_and, z01_or]
              · have en : n = c := hn2
                subst en
                simp only [r182_0, r182_1, r182_4, r182_7, r182_8, r182_11, r182_12, r182_14, r182_17, r182_18, r182_20, r182_23, r182_24, r182_26, r182_29, r182_30, r182_32, r182_35, r182_36, r182_37, r182_40, r182_41, r182_43, r182_46, r182_47, r182_48, r182_50, r182_53, r182_54, r182_56, r182_59, r182_60, r182_61, r182_64, r182_65, r182_66, r182_67, r182_68, r182_71, r182_72, r182_73, r182_76, r182_77, r182_80, r182_81, r182_82, r182_83, k_isSheet, q2, b1, n1, hn, hm, m1, zak_40, zln_40, zak_41, zln_41, zak_42, zln_42, zak_43, zln_43, zak_44, zln_44, zak_45, zln_45, zak_46, zln_46, zak_47, zln_47, zak_48, zln_48, zak_49, zln_49, zak_50, zln_50, zak_51, zln_51, zak_52, zln_52, zak_53, zln_53, zak_54, zln_54, zak_55, zln_55, zak_73, zln_73, zak_74, zln_74, zak_75, zln_75, zak_76, zln_76, zak_77, zln_77, zak_78, zln_78, zak_79, zln_79, zak_80, zln_80, zak_81, zln_81, zak_82, zln_82, zak_83, zln_83, zak_84, zln_84, zak_85, zln_85, zak_86, zln_86, zak_87, zln_87, zak_88, zln_88, zak_89, zln_89, zak_90, zln_90, zak_91, zln_91, zak_92, zln_92, zak_93, zln_93, zak_94, zln_94, zak_95, zln_95, zak_96, zln_96, zak_97, zln_97, zak_98, zln_98, zak_99, zln_99, zak_100, zln_100, zak_101, zln_101, zak_102, zln_102, zak_103, zln_103, zak_104, zln_104, zak_105, zln_105, zak_108, zln_108, zak_109, zln_109, Nat.reduceLeDiff, zclr_I, zclr_R, zclr_L, zclr_U, reduceIte, Int.reduceEq, Int.reduceLT, Int.reduceLE, Int.reduceNeg, not_true_eq_false, not_false_eq_true, or_true, true_or, or_false, false_or, and_true, true_and, and_false, false_and, z01_or]
                rw [lp182 a _ _ (by omega) (by omega) 10 0 _ (by omega) (by omega)]
                simp only [r182_111, r182_112, r182_115, r182_116, r182_117, b1, fg, zak_40, zln_40, zak_41, zln_41, zak_42, zln_42, zak_43, zln_43, zak_44, zln_44, zak_45, zln_45, zak_46, zln_46, zak_47, zln_47, zak_48, zln_48, zak_49, zln_49, zak_50, zln_50, zak_51, zln_51, zak_52, zln_52, zak_53, zln_53, zak_54, zln_54, zak_55, zln_55, zak_73, zln_73, zak_74, zln_74, zak_75, zln_75, zak_76, zln_76, zak_77, zln_77, zak_78, zln_78, zak_79, zln_79, zak_80, zln_80, zak_81, zln_81, zak_82, zln_82, zak_83, zln_83, zak_84, zln_84, zak_85, zln_85, zak_86, zln_86, zak_87, zln_87, zak_88, zln_88, zak_89, zln_89, zak_90, zln_90, zak_91, zln_91, zak_92, zln_92, zak_93, zln_93, zak_94, zln_94, zak_95, zln_95, zak_96, zln_96, zak_97, zln_97, zak_98, zln_98, zak_99, zln_99, zak_100, zln_100, zak_101, zln_101, zak_102, zln_102, zak_103, zln_103, zak_104, zln_104, zak_105, zln_105, zak_108, zln_108, zak_109, zln_109, Nat.reduceLeDiff, zclr_I, zclr_R, zclr_L, zclr_U, reduceIte, Int.reduceEq, Int.reduceLT, Int.reduceLE, Int.reduceNeg, not_true_eq_false, not_false_eq_true, or_true, true_or, or_false, false_or, and_true, true_and, and_false, false_and, z01_or]
              · have en : n = c := hn2
                subst en
                simp only [r182_0, r182_1, r182_4, r182_7, r182_8, r182_11, r182_12, r182_14, r182_17, r182_18, r182_20, r182_23, r182_24, r182_26, r182_29, r182_30, r182_32, r182_35, r182_36, r182_37, r182_40, r182_41, r182_43, r182_46, r182_47, r182_48, r182_50, r182_53, r182_54, r182_56, r182_59, r182_60, r182_61, r182_64, r182_65, r182_66, r182_67, r182_68, r182_71, r182_72, r182_73, r182_76, r182_77, r182_80, r182_81, r182_82, r182_83, k_isSheet, q2, b1, n1, hn, hm, m1, zak_40, zln_40, zak_41, zln_41, zak_42, zln_42, zak_43, zln_43, zak_44, zln_44, zak_45, zln_45, zak_46, zln_46, zak_47, zln_47, zak_48, zln_48, zak_49, zln_49, zak_50, zln_50, zak_51, zln_51, zak_52, zln_52, zak_53, zln_53, zak_54, zln_54, zak_55, zln_55, zak_73, zln_73, zak_74, zln_74, zak_75, zln_75, zak_76, zln_76, zak_77, zln_77, zak_78, zln_78, zak_79, zln_79, zak_80, zln_80, zak_81, zln_81, zak_82, zln_82, zak_83, zln_83, zak_84, zln_84, zak_85, zln_85, zak_86, zln_86, zak_87, zln_87, zak_88, zln_88, zak_89, zln_89, zak_90, zln_90, zak_91, zln_91, zak_92, zln_92, zak_93, zln_93, zak_94, zln_94, zak_95, zln_95, zak_96, zln_96, zak_97, zln_97, zak_98, zln_98, zak_99, zln_99, zak_100, zln_100, zak_101, zln_101, zak_102, zln_102, zak_103, zln_103, zak_104, zln_104, zak_105, zln_105, zak_108, zln_108, zak_109, zln_109, Nat.reduceLeDiff, zclr_I, zclr_R, zclr_L, zclr_U, reduceIte, Int.reduceEq, Int.reduceLT, Int.reduceLE, Int.reduceNeg, not_true_eq_false, not_false_eq_true, or_true, true_or, or_false, false_or, and_true, true_and, and_false, false_and, z01_or]
                rw [lp182 a _ _ (by omega) (by omega) 10 0 _ (by omega) (by omega)]
                simp only [r182_111, r182_112, r182_115, r182_116, r182_117, b1, fg, zak_40, zln_40, zak_41, zln_41, zak_42, zln_42, zak_43, zln_43, zak_44, zln_44, zak_45, zln_45, zak_46, zln_46, zak_47, zln_47, zak_48, zln_48, zak_49, zln_49, zak_50, zln_50, zak_51, zln_51, zak_52, zln_52, zak_53, zln_53, zak_54, zln_54, zak_55, zln_55, zak_73, zln_73, zak_74, zln_74, zak_75, zln_75, zak_76, zln_76, zak_77, zln_77, zak_78, zln_78, zak_79, zln_79, zak_80, zln_80, zak_81, zln_81, zak_82, zln_82, zak_83, zln_83, zak_84, zln_84, zak_85, zln_85, zak_86, zln_86, zak_87, zln_87, zak_88, zln_88, zak_89, zln_89, zak_90, zln_90, zak_91, zln_91, zak_92, zln_92, zak_93, zln_93, zak_94, zln_94, zak_95, zln_95, zak_96, zln_96, zak_97, zln_97, zak_98, zln_98, zak_99, zln_99, zak_100, zln_100, zak_101, zln_101, zak_102, zln_102, zak_103, zln_103, zak_104, zln_104, zak_105, zln_105, zak_108, zln_108, zak_109, zln_109, Nat.reduceLeDiff, zclr_I, zclr_R, zclr_L, zclr_U, reduceIte, Int.reduceEq, Int.reduceLT, Int.reduceLE, Int.reduceNeg, not_true_eq_false, not_false_eq_true, or_true, true_or, or_false, false_or, and_true, true_and, and_false, false_and, z01_or]
            · have hn3 : 0 ≤ n ∧ n ≤ 10 := by
                rw [hn2]
                by_cases e : b = 0
                · rw [if_pos e]; omega
                · rw [if_neg e]; omega
              have hg : ∀ g : Nat, ¬ (g = 54 ∨ g = 7 ∨ g = 99 ∨ g = 100 ∨ g = 101) → zfl (zup (zup (zfl (zup (zup s 7 a 0 b) 7 a 1 n) 54 a 0 10 0) 99 0 a b) 100 0 a n) 101 0 (10 * a + 0) (10 * a + 10) 0 g = s g := by
                intro g hg
                rw [zfl_ng (by omega), zup_ng (by omega), zup_ng (by omega), zfl_ng (by omega), zup_ng (by omega), zup_ng (by omega)]
              have g7 : zfl (zup (zup (zfl (zup (zup s 7 a 0 b) 7 a 1 n) 54 a 0 10 0) 99 0 a b) 100 0 a n) 101 0 (10 * a + 0) (10 * a + 10) 0 7 = zup (zup s 7 a 0 b) 7 a 1 n 7 := by
                rw [zfl_ng (by omega), zup_ng (by omega), zup_ng (by omega), zfl_ng (by omega)]
              have g54 : zfl (zup (zup (zfl (zup (zup s 7 a 0 b) 7 a 1 n) 54 a 0 10 0) 99 0 a b) 100 0 a n) 101 0 (10 * a + 0) (10 * a + 10) 0 54 = zfl s 54 a 0 10 0 54 := by
                rw [zfl_ng (by omega), zup_ng (by omega), zup_ng (by omega)]
                funext i k
                unfold zfl
                rw [zup_ng (by omega), zup_ng (by omega)]
              have g99 : zfl (zup (zup (zfl (zup (zup s 7 a 0 b) 7 a 1 n) 54 a 0 10 0) 99 0 a b) 100 0 a n) 101 0 (10 * a + 0) (10 * a + 10) 0 99 = zup s 99 0 a b 99 := by
                rw [zfl_ng (by omega), zup_ng (by omega)]
                funext i k
                unfold zup
                rw [zfl_ng (by omega)]
                simp only [zclr_I, zclr_R, zclr_L, zclr_U, reduceIte, Int.reduceEq, Int.reduceLT, Int.reduceLE, Int.reduceNeg, not_true_eq_false, not_false_eq_true, or_true, true_or, or_false, false_or, and_true, true_and, and_false, false_and, z01_or, Nat.reduceEqDiff]
              have g100 : zfl (zup (zup (zfl (zup (zup s 7 a 0 b) 7 a 1 n) 54 a 0 10 0) 99 0 a b) 100 0 a n) 101 0 (10 * a + 0) (10 * a + 10) 0 100 = zup s 100 0 a n 100 := by
                rw [zfl_ng (by omega)]
                funext i k
                unfold zup
                rw [zfl_ng (by omega)]
                simp only [zclr_I, zclr_R, zclr_L, zclr_U, reduceIte, Int.reduceEq, Int.reduceLT, Int.reduceLE, Int.reduceNeg, not_true_eq_false, not_false_eq_true, or_true, true_or, or_false, false_or, and_true, true_and, and_false, false_and, z01_or, Nat.reduceEqDiff]
              have g101 : zfl (zup (zup (zfl (zup (zup s 7 a 0 b) 7 a 1 n) 54 a 0 10 0) 99 0 a b) 100 0 a n) 101 0 (10 * a + 0) (10 * a + 10) 0 101 = zfl s 101 0 (10 * a + 0) (10 * a + 10) 0 101 := by
                funext i k
                unfold zfl
                rw [zup_ng (by omega), zup_ng (by omega)]
                simp only [zclr_I, zclr_R, zclr_L, zclr_U, reduceIte, Int.reduceEq, Int.reduceLT, Int.reduceLE, Int.reduceNeg, not_true_eq_false, not_false_eq_true, or_true, true_or, or_false, false_or, and_true, true_and, and_false, false_and, z01_or, zup_g, Nat.reduceEqDiff]
              generalize zfl (zup (zup (zfl (zup (zup s 7 a 0 b) 7 a 1 n) 54 a 0 10 0) 99 0 a b) 100 0 a n) 101 0 (10 * a + 0) (10 * a + 10) 0 = X at hg g7 g54 g99 g100 g101
              unfold Inv
              rw [g7, g54, g99, g100, g101]
              simp only [hg, zup_g, Nat.reduceEqDiff, zclr_I, zclr_R, zclr_L, zclr_U, reduceIte, Int.reduceEq, Int.reduceLT, Int.reduceLE, Int.reduceNeg, not_true_eq_false, not_false_eq_true, or_true, true_or, or_false, false_or, and_true, true_and, and_false, false_and, z01_or]
              refine ⟨h1, h2, h3, h4, h5, h6, h7, h8, h9, h10, h11, h12, h13, h14, h15, h16, h17, h18, h19, fun i i0 i1 => ?_⟩
              obtain ⟨k1, k2, k3⟩ := h20 i i0 i1
              by_cases e : i = a
              · subst e
                simp only [zclr_I, zclr_R, zclr_L, zclr_U, reduceIte, Int.reduceEq, Int.reduceLT, Int.reduceLE, Int.reduceNeg, not_true_eq_false, not_false_eq_true, or_true, true_or, or_false, false_or, and_true, true_and, and_false, false_and, z01_or]
                refine ⟨by omega, by omega, fun j j0 j1 => ?_⟩
                rw [zfl_in j0 j1, zfl_in (by omega) (by omega)]
                unfold rI
                omega
              · simp only [e, zclr_I, zclr_R, zclr_L, zclr_U, reduceIte, Int.reduceEq, Int.reduceLT, Int.reduceLE, Int.reduceNeg, not_true_eq_false, not_false_eq_true, or_true, true_or, or_false, false_or, and_true, true_and, and_false, false_and, z01_or]
                refine ⟨k1, k2, fun j j0 j1 => ?_⟩
                rw [zfl_ni e, zfl_out (by omega)]
                exact k3 j j0 j1
            · rw [zfl_ng (by omega), zup_ng (by omega), zup_ng (by omega)]
            · rw [zfl_ng (by omega), zup_ng (by omega), zup_ng (by omega)]
          exact main _ rfl
        · have m1 : (10 < c) = True := eq_true (by omega)
          have m2 : (c ≤ 10) = False := eq_false (by omega)
          refine pf (-1000001) hs ?_ ?_ <;> intro m pc ls st fs Q
          · rcases hbb with rfl | rfl | rfl | rfl <;> simp only [r104_0, r104_1, r104_2, r104_5, r104_8, r104_9, r104_12, r104_13, r104_15, r104_18, r104_19, r104_21, r104_24, r104_25, r104_27, r104_30, r104_31, r104_33, r104_36, r104_37, r104_38, r104_41, r104_42, r104_44, r104_47, r104_48, r104_49, r104_51, r104_54, r104_55, r104_57, r104_60, r104_61, r104_62, r104_65, r104_66, r104_67, r104_69, r104_71, r104_72, r104_73, r104_76, r104_77, r104_80, r104_81, r104_84, r104_86, r104_89, k_isBelow, k_finding, q1, n1, hn, m1, m2, zclr_I, zclr_R, zclr_L, zclr_U, reduceIte, Int.reduceEq, Int.reduceLT, Int.reduceLE, Int.reduceNeg, not_true_eq_false, not_false_eq_true, or_true, true_or, or_false, false_or, and_true, true_and, and_false, false_and, z01_or]
          · rcases hbb with rfl | rfl | rfl | rfl <;> simp only [r182_0, r182_1, r182_4, r182_7, r182_8, r182_11, r182_12, r182_14, r182_17, r182_18, r182_20, r182_23, r182_24, r182_26, r182_29, r182_30, r182_32, r182_35, r182_36, r182_37, r182_40, r182_41, r182_43, r182_46, r182_47, r182_48, r182_50, r182_53, r182_54, r182_56, r182_59, k_isSheet, k_finds, q2, n1, hn, m1, m2, zup_g, Nat.reduceEqDiff, zclr_I, zclr_R, zclr_L, zclr_U, reduceIte, Int.reduceEq, Int.reduceLT, Int.reduceLE, Int.reduceNeg, not_true_eq_false, not_false_eq_true, or_true, true_or, or_false, false_or, and_true, true_and, and_false, false_and, z01_or]
    · have e1 : (b = 0) = False := eq_false (by omega)
      have e2 : (b = 8) = False := eq_false (by omega)
      have e3 : (b = 16) = False := eq_false (by omega)
      have e4 : (b = 32) = False := eq_false (by omega)
      refine pf (-1000001) hs ?_ ?_ <;> intro m pc ls st fs Q
      · simp only [r104_0, r104_1, r104_2, r104_5, r104_8, r104_9, r104_12, r104_13, r104_15, r104_18, r104_19, r104_21, r104_24, r104_25, r104_27, r104_30, r104_31, r104_33, r104_36, r104_37, r104_38, r104_41, r104_42, r104_44, r104_47, r104_48, r104_49, r104_51, r104_54, r104_55, r104_57, r104_60, r104_61, r104_62, r104_65, r104_66, r104_67, r104_69, r104_71, r104_72, r104_73, r104_76, r104_77, r104_80, r104_81, r104_84, r104_86, r104_89, k_isBelow, k_finding, q1, e1, e2, e3, e4, zclr_I, zclr_R, zclr_L, zclr_U, reduceIte, Int.reduceEq, Int.reduceLT, Int.reduceLE, Int.reduceNeg, not_true_eq_false, not_false_eq_true, or_true, true_or, or_false, false_or, and_true, true_and, and_false, false_and, z01_or]
      · simp only [r182_0, r182_1, r182_4, r182_7, r182_8, r182_11, r182_12, r182_14, r182_17, r182_18, r182_20, r182_23, r182_24, r182_26, r182_29, r182_30, r182_32, r182_35, r182_36, r182_37, r182_40, r182_41, r182_43, r182_46, r182_47, r182_48, r182_50, r182_53, r182_54, r182_56, r182_59, k_isSheet, k_finds, q2, e1, e2, e3, e4, zup_g, Nat.reduceEqDiff, zclr_I, zclr_R, zclr_L, zclr_U, reduceIte, Int.reduceEq, Int.reduceLT, Int.reduceLE, Int.reduceNeg, not_true_eq_false, not_false_eq_true, or_true, true_or, or_false, false_or, and_true, true_and, and_false, false_and, z01_or]
  · have q1 := z01_f hc
    have q2 : z01 (0 ≤ a ∧ a ≤ 3) = 0 := z01_f (by omega)
    refine pf (-1000001) hs ?_ ?_ <;> intro m pc ls st fs Q
    · simp only [r104_0, r104_1, r104_2, r104_5, r104_8, r104_9, r104_12, r104_13, r104_15, r104_18, r104_19, r104_21, r104_24, r104_25, r104_27, r104_30, r104_31, r104_33, r104_36, r104_37, r104_38, r104_41, r104_42, r104_44, r104_47, r104_48, r104_49, r104_51, r104_54, r104_55, r104_57, r104_60, r104_61, r104_62, r104_65, r104_66, r104_67, r104_69, r104_71, r104_72, r104_73, r104_76, r104_77, r104_80, r104_81, r104_84, r104_86, r104_89, k_isBelow, k_finding, q1, zclr_I, zclr_R, zclr_L, zclr_U, reduceIte, Int.reduceEq, Int.reduceLT, Int.reduceLE, Int.reduceNeg, not_true_eq_false, not_false_eq_true, or_true, true_or, or_false, false_or, and_true, true_and, and_false, false_and, z01_or]
    · simp only [r182_0, r182_1, r182_4, r182_7, r182_8, r182_11, r182_12, r182_14, r182_17, r182_18, r182_20, r182_23, r182_24, r182_26, r182_29, r182_30, r182_32, r182_35, r182_36, r182_37, r182_40, r182_41, r182_43, r182_46, r182_47, r182_48, r182_50, r182_53, r182_54, r182_56, r182_59, k_isSheet, k_finds, q2, zup_g, Nat.reduceEqDiff, zclr_I, zclr_R, zclr_L, zclr_U, reduceIte, Int.reduceEq, Int.reduceLT, Int.reduceLE, Int.reduceNeg, not_true_eq_false, not_false_eq_true, or_true, true_or, or_false, false_or, and_true, true_and, and_false, false_and, z01_or]

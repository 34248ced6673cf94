theorem lp185 (a : Int) (a0 : 0 ≤ a ∧ a ≤ 3) : ∀ (k : Nat) (t : Int) (s : zS), 0 ≤ t → t + k = s 100 0 a → s 100 0 a ≤ 10 → ∃ s1 : zS, (∀ (F : List zFr) (Q : List zV → zS → Prop), Ev ((185, 98, [zR 11 0, zI a, zI t], []) :: F) s Q = Ev ((185, 150, [zR 11 0, zI a, zI (t + cntF (fun i => okR (s 76 0 i) (s 77 0 i) (s 101 0 (10 * a + i))) t k)], []) :: F) s1 Q) ∧ (∀ g : Nat, ¬ (g = 76 ∨ g = 77) → s1 g = s g) ∧ (∀ i : Int, s1 76 0 i = if t ≤ i ∧ i < t + cntF (fun i => okR (s 76 0 i) (s 77 0 i) (s 101 0 (10 * a + i))) t k then nlo (s 76 0 i) (zdiv (s 101 0 (10 * a + i)) 10) else s 76 0 i) ∧ (∀ i : Int, s1 77 0 i = if t ≤ i ∧ i < t + cntF (fun i => okR (s 76 0 i) (s 77 0 i) (s 101 0 (10 * a + i))) t k then nhi (s 77 0 i) (zrem (s 101 0 (10 * a + i)) 10) else s 77 0 i) := by
  intro k
  have ba : (0 ≤ a ∧ a < 4) = True := eq_true (by omega)
  induction k with
  | zero =>
    intro t s h0 h1 h2
    have e0 : cntF (fun i => okR (s 76 0 i) (s 77 0 i) (s 101 0 (10 * a + i))) t 0 = 0 := rfl
    rw [e0]
    refine ⟨s, fun F Q => ?_, fun _ _ => rfl, fun i => by rw [if_neg (by omega)], fun i => by rw [if_neg (by omega)]⟩
    have e1 : (s 100 0 a ≤ t) = True := eq_true (by omega)
    rw [r185_98]
    simp only [r185_99, r185_100, r185_103, r185_104, r185_105, r185_108, r185_109, r185_110, r185_111, r185_114, r185_116, r185_117, r185_118, r185_119, r185_120, r185_121, r185_123, r185_124, r185_125, r185_128, r185_130, r185_131, r185_132, r185_133, r185_134, r185_135, r185_137, r185_138, r185_141, r185_144, r185_147, e1, ba, zak_40, zln_40, zak_41, zln_41, zak_42, zln_42, zak_43, zln_43, zak_44, zln_44, zak_45, zln_45, zak_46, zln_46, zak_47, zln_47, zak_48, zln_48, zak_49, zln_49, zak_50, zln_50, zak_51, zln_51, zak_52, zln_52, zak_53, zln_53, zak_54, zln_54, zak_55, zln_55, zak_73, zln_73, zak_74, zln_74, zak_75, zln_75, zak_76, zln_76, zak_77, zln_77, zak_78, zln_78, zak_79, zln_79, zak_80, zln_80, zak_81, zln_81, zak_82, zln_82, zak_83, zln_83, zak_84, zln_84, zak_85, zln_85, zak_86, zln_86, zak_87, zln_87, zak_88, zln_88, zak_89, zln_89, zak_90, zln_90, zak_91, zln_91, zak_92, zln_92, zak_93, zln_93, zak_94, zln_94, zak_95, zln_95, zak_96, zln_96, zak_97, zln_97, zak_98, zln_98, zak_99, zln_99, zak_100, zln_100, zak_101, zln_101, zak_102, zln_102, zak_103, zln_103, zak_104, zln_104, zak_105, zln_105, zak_108, zln_108, zak_109, zln_109, Nat.reduceLeDiff, zclr_I, zclr_R, zclr_L, zclr_U, reduceIte, Int.reduceEq, Int.reduceLT, Int.reduceLE, Int.reduceNeg, not_true_eq_false, not_false_eq_true, or_true, true_or, or_false, false_or, and_true, true_and, and_false, false_and, z01_or]
    rw [Int.add_zero]
  | succ k ih =>
    intro t s h0 h1 h2
    have e1 : (s 100 0 a ≤ t) = False := eq_false (by omega)
    have b1 : (0 ≤ 10 * a + t ∧ 10 * a + t < 40) = True := eq_true (by omega)
    have w1 : w32 (t + 1) = t + 1 := w32_id (by omega) (by omega)
    have w2 : w32 (10 * a) = 10 * a := w32_id (by omega) (by omega)
    have w3 : w32 (10 * a + t) = 10 * a + t := w32_id (by omega) (by omega)
    have ten : ((10 : Int) = 0) = False := eq_false (by omega)
    by_cases c : zrem (s 101 0 (10 * a + t)) 10 < zdiv (s 101 0 (10 * a + t)) 10 ∨ nhi (s 77 0 t) (zrem (s 101 0 (10 * a + t)) 10) < nlo (s 76 0 t) (zdiv (s 101 0 (10 * a + t)) 10)
    · have e0 : cntF (fun i => okR (s 76 0 i) (s 77 0 i) (s 101 0 (10 * a + i))) t (k + 1) = 0 := if_neg (fun z => (of_decide_eq_true z) c)
      rw [e0]
      refine ⟨s, fun F Q => ?_, fun _ _ => rfl, fun i => by rw [if_neg (by omega)], fun i => by rw [if_neg (by omega)]⟩
      rw [r185_98]
      simp only [r185_99, r185_100, r185_103, r185_104, r185_105, r185_108, r185_109, r185_110, r185_111, r185_114, r185_116, r185_117, r185_118, r185_119, r185_120, r185_121, r185_123, r185_124, r185_125, r185_128, r185_130, r185_131, r185_132, r185_133, r185_134, r185_135, r185_137, r185_138, e1, ba, b1, w2, w3, ten, zak_40, zln_40, zak_41, zln_41, zak_42, zln_42, zak_43, zln_43, zak_44, zln_44, zak_45, zln_45, zak_46, zln_46, zak_47, zln_47, zak_48, zln_48, zak_49, zln_49, zak_50, zln_50, zak_51, zln_51, zak_52, zln_52, zak_53, zln_53, zak_54, zln_54, zak_55, zln_55, zak_73, zln_73, zak_74, zln_74, zak_75, zln_75, zak_76, zln_76, zak_77, zln_77, zak_78, zln_78, zak_79, zln_79, zak_80, zln_80, zak_81, zln_81, zak_82, zln_82, zak_83, zln_83, zak_84, zln_84, zak_85, zln_85, zak_86, zln_86, zak_87, zln_87, zak_88, zln_88, zak_89, zln_89, zak_90, zln_90, zak_91, zln_91, zak_92, zln_92, zak_93, zln_93, zak_94, zln_94, zak_95, zln_95, zak_96, zln_96, zak_97, zln_97, zak_98, zln_98, zak_99, zln_99, zak_100, zln_100, zak_101, zln_101, zak_102, zln_102, zak_103, zln_103, zak_104, zln_104, zak_105, zln_105, zak_108, zln_108, zak_109, zln_109, Nat.reduceLeDiff, zclr_I, zclr_R, zclr_L, zclr_U, reduceIte, Int.reduceEq, Int.reduceLT, Int.reduceLE, Int.reduceNeg, not_true_eq_false, not_false_eq_true, or_true, true_or, or_false, false_or, and_true, true_and, and_false, false_and, z01_or]
      rw [k_sees t _ _ (by omega), if_pos c]
      simp only [r185_141, r185_144, r185_147, zclr_I, zclr_R, zclr_L, zclr_U, reduceIte, Int.reduceEq, Int.reduceLT, Int.reduceLE, Int.reduceNeg, not_true_eq_false, not_false_eq_true, or_true, true_or, or_false, false_or, and_true, true_and, and_false, false_and, z01_or]
      rw [Int.add_zero]
    · have hk : okR (s 76 0 t) (s 77 0 t) (s 101 0 (10 * a + t)) = true := decide_eq_true c
      have e0 : cntF (fun i => okR (s 76 0 i) (s 77 0 i) (s 101 0 (10 * a + i))) t (k + 1) = 1 + cntF (fun i => okR (s 76 0 i) (s 77 0 i) (s 101 0 (10 * a + i))) (t + 1) k := if_pos hk
      have e6 : zup (zup s 76 0 t (nlo (s 76 0 t) (zdiv (s 101 0 (10 * a + t)) 10))) 77 0 t (nhi (s 77 0 t) (zrem (s 101 0 (10 * a + t)) 10)) 100 = s 100 := by rw [zup_ng (by omega), zup_ng (by omega)]
      have e54 : zup (zup s 76 0 t (nlo (s 76 0 t) (zdiv (s 101 0 (10 * a + t)) 10))) 77 0 t (nhi (s 77 0 t) (zrem (s 101 0 (10 * a + t)) 10)) 101 = s 101 := by rw [zup_ng (by omega), zup_ng (by omega)]
      have e5 : ∀ i : Int, ¬ i = t → zup (zup s 76 0 t (nlo (s 76 0 t) (zdiv (s 101 0 (10 * a + t)) 10))) 77 0 t (nhi (s 77 0 t) (zrem (s 101 0 (10 * a + t)) 10)) 76 0 i = s 76 0 i := fun i hi => by rw [zup_ng (by omega), zup_nk hi]
      have e5b : ∀ i : Int, ¬ i = t → zup (zup s 76 0 t (nlo (s 76 0 t) (zdiv (s 101 0 (10 * a + t)) 10))) 77 0 t (nhi (s 77 0 t) (zrem (s 101 0 (10 * a + t)) 10)) 77 0 i = s 77 0 i := fun i hi => by rw [zup_nk hi, zup_ng (by omega)]
      have e53 : zup (zup s 76 0 t (nlo (s 76 0 t) (zdiv (s 101 0 (10 * a + t)) 10))) 77 0 t (nhi (s 77 0 t) (zrem (s 101 0 (10 * a + t)) 10)) 76 0 t = nlo (s 76 0 t) (zdiv (s 101 0 (10 * a + t)) 10) := by rw [zup_ng (by omega), zup_eq]
      have e5g : zup (zup s 76 0 t (nlo (s 76 0 t) (zdiv (s 101 0 (10 * a + t)) 10))) 77 0 t (nhi (s 77 0 t) (zrem (s 101 0 (10 * a + t)) 10)) 77 0 t = nhi (s 77 0 t) (zrem (s 101 0 (10 * a + t)) 10) := by rw [zup_eq]
      have eg : ∀ g : Nat, ¬ (g = 76 ∨ g = 77) → zup (zup s 76 0 t (nlo (s 76 0 t) (zdiv (s 101 0 (10 * a + t)) 10))) 77 0 t (nhi (s 77 0 t) (zrem (s 101 0 (10 * a + t)) 10)) g = s g := fun g hg => by rw [zup_ng (by omega), zup_ng (by omega)]
      have kn := fun (m pc : Nat) (ls st : List zV) (fs : List zFr) (Q : List zV → zS → Prop) => k_sees (m := m) (pc := pc) (ls := ls) (st := st) (fs := fs) (Q := Q) (s := s) t (zdiv (s 101 0 (10 * a + t)) 10) (zrem (s 101 0 (10 * a + t)) 10) (by omega)
      simp only [if_neg c] at kn
      generalize hX : zup (zup s 76 0 t (nlo (s 76 0 t) (zdiv (s 101 0 (10 * a + t)) 10))) 77 0 t (nhi (s 77 0 t) (zrem (s 101 0 (10 * a + t)) 10)) = X at *
      obtain ⟨s1, c1, c2, c4, c5⟩ := ih (t + 1) X (by omega) (by rw [e6]; omega) (by rw [e6]; exact h2)
      have ec : cntF (fun i => okR (X 76 0 i) (X 77 0 i) (X 101 0 (10 * a + i))) (t + 1) k = cntF (fun i => okR (s 76 0 i) (s 77 0 i) (s 101 0 (10 * a + i))) (t + 1) k := cntF_c _ _ (fun i i0 i1 => by rw [e5 i (by omega), e5b i (by omega), e54])
      rw [ec] at c1 c4 c5
      rw [e54] at c4 c5
      rw [e0]
      obtain ⟨n0, -⟩ := cntF_b (f := fun i => okR (s 76 0 i) (s 77 0 i) (s 101 0 (10 * a + i))) k (t + 1)
      generalize cntF (fun i => okR (s 76 0 i) (s 77 0 i) (s 101 0 (10 * a + i))) (t + 1) k = N at *
      refine ⟨s1, fun F Q => ?_, fun g hg => by rw [c2 g hg, eg g hg], fun i => ?_, fun i => ?_⟩
      · rw [r185_98]
        simp only [r185_99, r185_100, r185_103, r185_104, r185_105, r185_108, r185_109, r185_110, r185_111, r185_114, r185_116, r185_117, r185_118, r185_119, r185_120, r185_121, r185_123, r185_124, r185_125, r185_128, r185_130, r185_131, r185_132, r185_133, r185_134, r185_135, r185_137, r185_138, e1, ba, b1, w2, w3, ten, zak_40, zln_40, zak_41, zln_41, zak_42, zln_42, zak_43, zln_43, zak_44, zln_44, zak_45, zln_45, zak_46, zln_46, zak_47, zln_47, zak_48, zln_48, zak_49, zln_49, zak_50, zln_50, zak_51, zln_51, zak_52, zln_52, zak_53, zln_53, zak_54, zln_54, zak_55, zln_55, zak_73, zln_73, zak_74, zln_74, zak_75, zln_75, zak_76, zln_76, zak_77, zln_77, zak_78, zln_78, zak_79, zln_79, zak_80, zln_80, zak_81, zln_81, zak_82, zln_82, zak_83, zln_83, zak_84, zln_84, zak_85, zln_85, zak_86, zln_86, zak_87, zln_87, zak_88, zln_88, zak_89, zln_89, zak_90, zln_90, zak_91, zln_91, zak_92, zln_92, zak_93, zln_93, zak_94, zln_94, zak_95, zln_95, zak_96, zln_96, zak_97, zln_97, zak_98, zln_98, zak_99, zln_99, zak_100, zln_100, zak_101, zln_101, zak_102, zln_102, zak_103, zln_103, zak_104, zln_104, zak_105, zln_105, zak_108, zln_108, zak_109, zln_109, Nat.reduceLeDiff, zclr_I, zclr_R, zclr_L, zclr_U, reduceIte, Int.reduceEq, Int.reduceLT, Int.reduceLE, Int.reduceNeg, not_true_eq_false, not_false_eq_true, or_true, true_or, or_false, false_or, and_true, true_and, and_false, false_and, z01_or]
        rw [kn]
        simp only [r185_141, r185_144, r185_147, w1, zclr_I, zclr_R, zclr_L, zclr_U, reduceIte, Int.reduceEq, Int.reduceLT, Int.reduceLE, Int.reduceNeg, not_true_eq_false, not_false_eq_true, or_true, true_or, or_false, false_or, and_true, true_and, and_false, false_and, z01_or]
        rw [c1, Int.add_assoc]
      · rw [c4 i]
        by_cases ei : i = t
        · subst ei
          rw [if_neg (by omega), if_pos (by omega), e53]
        · rw [e5 i ei]
          by_cases r : t + 1 ≤ i ∧ i < t + 1 + N
          · rw [if_pos r, if_pos (by omega)]
          · rw [if_neg r, if_neg (by omega)]
      · rw [c5 i]
        by_cases ei : i = t
        · subst ei
          rw [if_neg (by omega), if_pos (by omega), e5g]
        · rw [e5b i ei]
          by_cases r : t + 1 ≤ i ∧ i < t + 1 + N
          · rw [if_pos r, if_pos (by omega)]
          · rw [if_neg r, if_neg (by omega)]
theorem nl_b {x y : Int} : x ≤ nlo x y ∧ y ≤ nlo x y ∧ (nlo x y = x ∨ nlo x y = y) := by
  unfold nlo
  by_cases h : x < y
  · rw [if_pos h]; omega
  · rw [if_neg h]; omega
theorem nh_b {x y : Int} : nhi x y ≤ x ∧ nhi x y ≤ y ∧ (nhi x y = x ∨ nhi x y = y) := by
  unfold nhi
  by_cases h : y < x
  · rw [if_pos h]; omega
  · rw [if_neg h]; omega
theorem pr_read (L : Nat) : Pr_read (Inv L) := by
  intro a ha s hs
  obtain ⟨h1, h2, h3, h4, h5, h6, h7, h8, h9, h10, h11, h12, h13, h14, h15, h16, h17, h18, h19, h20⟩ := id hs
  have eP := h4.1
  have h40 := h4.2
  by_cases hc : 0 ≤ a ∧ a < 4
  · have q1 := z01_t hc
    have q2 : z01 (0 ≤ a ∧ a ≤ 3) = 1 := z01_t (by omega)
    have b1 : (0 ≤ a ∧ a < 4) = True := eq_true hc
    obtain ⟨⟨k1, k1b⟩, ⟨k2, k2b⟩, k3⟩ := h20 a hc.1 hc.2
    by_cases hm : s 99 0 a = 0
    · have p1 : z01 (s 7 a 0 = 0) = 1 := z01_t (k1.trans hm)
      refine pf (-1000006) hs ?_ ?_ <;> intro m pc ls st fs Q
      · simp only [r107_0, r107_1, r107_2, r107_5, r107_8, r107_9, r107_11, r107_14, r107_15, r107_16, r107_19, r107_20, r107_21, r107_22, r107_23, r107_26, r107_29, r107_30, r107_33, r107_36, r107_37, r107_38, r107_41, r107_42, r107_45, r107_48, r107_51, r107_52, r107_55, r107_58, r107_59, r107_61, r107_64, r107_65, r107_66, k_isBelow, k_isMissing, k_finding, z01_True, b1, p1, zak_40, zln_40, zak_41, zln_41, zak_42, zln_42, zak_43, zln_43, zak_44, zln_44, zak_45, zln_45, zak_46, zln_46, zak_47, zln_47, zak_48, zln_48, zak_49, zln_49, zak_50, zln_50, zak_51, zln_51, zak_52, zln_52, zak_53, zln_53, zak_54, zln_54, zak_55, zln_55, zak_73, zln_73, zak_74, zln_74, zak_75, zln_75, zak_76, zln_76, zak_77, zln_77, zak_78, zln_78, zak_79, zln_79, zak_80, zln_80, zak_81, zln_81, zak_82, zln_82, zak_83, zln_83, zak_84, zln_84, zak_85, zln_85, zak_86, zln_86, zak_87, zln_87, zak_88, zln_88, zak_89, zln_89, zak_90, zln_90, zak_91, zln_91, zak_92, zln_92, zak_93, zln_93, zak_94, zln_94, zak_95, zln_95, zak_96, zln_96, zak_97, zln_97, zak_98, zln_98, zak_99, zln_99, zak_100, zln_100, zak_101, zln_101, zak_102, zln_102, zak_103, zln_103, zak_104, zln_104, zak_105, zln_105, zak_108, zln_108, zak_109, zln_109, Nat.reduceLeDiff, zclr_I, zclr_R, zclr_L, zclr_U, reduceIte, Int.reduceEq, Int.reduceLT, Int.reduceLE, Int.reduceNeg, not_true_eq_false, not_false_eq_true, or_true, true_or, or_false, false_or, and_true, true_and, and_false, false_and, z01_or]
      · simp only [r185_0, r185_1, r185_4, r185_7, r185_8, r185_10, r185_13, r185_14, r185_15, r185_18, r185_19, r185_20, r185_23, r185_24, r185_27, r185_30, r185_31, r185_32, r185_35, r185_36, r185_37, r185_38, r185_41, r185_44, r185_45, r185_47, r185_50, r185_51, r185_52, k_isSheet, k_finds, q2, b1, hm, zak_40, zln_40, zak_41, zln_41, zak_42, zln_42, zak_43, zln_43, zak_44, zln_44, zak_45, zln_45, zak_46, zln_46, zak_47, zln_47, zak_48, zln_48, zak_49, zln_49, zak_50, zln_50, zak_51, zln_51, zak_52, zln_52, zak_53, zln_53, zak_54, zln_54, zak_55, zln_55, zak_73, zln_73, zak_74, zln_74, zak_75, zln_75, zak_76, zln_76, zak_77, zln_77, zak_78, zln_78, zak_79, zln_79, zak_80, zln_80, zak_81, zln_81, zak_82, zln_82, zak_83, zln_83, zak_84, zln_84, zak_85, zln_85, zak_86, zln_86, zak_87, zln_87, zak_88, zln_88, zak_89, zln_89, zak_90, zln_90, zak_91, zln_91, zak_92, zln_92, zak_93, zln_93, zak_94, zln_94, zak_95, zln_95, zak_96, zln_96, zak_97, zln_97, zak_98, zln_98, zak_99, zln_99, zak_100, zln_100, zak_101, zln_101, zak_102, zln_102, zak_103, zln_103, zak_104, zln_104, zak_105, zln_105, zak_108, zln_108, zak_109, zln_109, Nat.reduceLeDiff, zup_g, Nat.reduceEqDiff, zclr_I, zclr_R, zclr_L, zclr_U, reduceIte, Int.reduceEq, Int.reduceLT, Int.reduceLE, Int.reduceNeg, not_true_eq_false, not_false_eq_true, or_true, true_or, or_false, false_or, and_true, true_and, and_false, false_and, z01_or]
    · have p1 : z01 (s 7 a 0 = 0) = 0 := z01_f (by omega)
      by_cases hz : s 100 0 a ≤ s 11 0 0
      · have e1 : (s 6 0 1 < s 7 a 1) = False := eq_false (by omega)
        have e2 : (s 100 0 a ≤ s 11 0 0) = True := eq_true hz
        have eA : anyF (fun i => decide (s 54 a i < 0 ∨ 99 < s 54 a i)) 0 (s 7 a 1).toNat = anyF (fun i => decide (s 101 0 (10 * a + i) < 0 ∨ 99 < s 101 0 (10 * a + i))) 0 (s 100 0 a).toNat := by
          rw [k2]
          exact anyF_c _ _ (fun i i0 i1 => by rw [(k3 i i0 (by omega)).1])
        by_cases hbad : anyF (fun i => decide (s 101 0 (10 * a + i) < 0 ∨ 99 < s 101 0 (10 * a + i))) 0 (s 100 0 a).toNat = false
        · have q3 : z01 (anyF (fun i => decide (s 54 a i < 0 ∨ 99 < s 54 a i)) 0 (s 7 a 1).toNat = false) = 1 := z01_t (by rw [eA]; exact hbad)
          have good : ∀ i : Int, 0 ≤ i → i < s 100 0 a → 0 ≤ s 101 0 (10 * a + i) ∧ s 101 0 (10 * a + i) ≤ 99 := by
            intro i i0 i1
            refine Classical.byContradiction fun hn => ?_
            have : anyF (fun i => decide (s 101 0 (10 * a + i) < 0 ∨ 99 < s 101 0 (10 * a + i))) 0 (s 100 0 a).toNat = true := (anyF_t _ _).mpr ⟨i, i0, by omega, decide_eq_true (by omega)⟩
            rw [hbad] at this
            cases this
          obtain ⟨s1, c1, c2, c3, c4, c5⟩ := lp107 a (s 7 a 1).toNat 0 s (by omega) (by omega) (by omega)
          have f100 : s1 100 = s 100 := c2 100 (by omega)
          have f101 : s1 101 = s 101 := c2 101 (by omega)
          have f76 : s1 76 = s 76 := c2 76 (by omega)
          have f77 : s1 77 = s 77 := c2 77 (by omega)
          have f11 : s1 11 = s 11 := c2 11 (by omega)
          have f99 : s1 99 = s 99 := c2 99 (by omega)
          obtain ⟨s2, d1, d2, d4, d5⟩ := lp185 a (by omega) (s 100 0 a).toNat 0 s1 (by omega) (by rw [f100]; omega) (by rw [f100]; omega)
          rw [f76, f77, f101] at d1 d4 d5
          have eC : cntF (fun i => okR (s 5 i 3) (s 5 i 4) (s 54 a i)) 0 (s 7 a 1).toNat = cntF (fun i => okR (s 76 0 i) (s 77 0 i) (s 101 0 (10 * a + i))) 0 (s 100 0 a).toNat := by
            rw [k2]
            refine cntF_c _ _ (fun i i0 i1 => ?_)
            have g := (h12 i i0 (by omega)).2.2.2.1
            rw [(k3 i i0 (by omega)).1, g.1, g.2.1]
          rw [eC] at c1 c4 c5
          obtain ⟨n0, n1, n2⟩ := cntF_b (f := fun i => okR (s 76 0 i) (s 77 0 i) (s 101 0 (10 * a + i))) (s 100 0 a).toNat 0
          have kB := fun (s' : zS) (m pc : Nat) (ls st : List zV) (fs : List zFr) (Q : List zV → zS → Prop) (e : s' = s) => lp65 (m := m) (pc := pc) (ls := ls) (st := st) (fs := fs) (Q := Q) (s := s) a (by omega) (s 7 a 1).toNat 0 (by omega) (by omega)
          generalize cntF (fun i => okR (s 76 0 i) (s 77 0 i) (s 101 0 (10 * a + i))) 0 (s 100 0 a).toNat = N at *
          refine ⟨0 + N, s1, s2, ?_, ?_, ?_, c2 110 (by omega), c2 111 (by omega)⟩
          · intro m pc ls st fs Q
            simp only [r107_0, r107_1, r107_2, r107_5, r107_8, r107_9, r107_11, r107_14, r107_15, r107_16, r107_19, r107_20, r107_21, r107_22, r107_23, r107_26, r107_29, r107_30, r107_33, r107_36, r107_37, r107_38, r107_41, r107_42, r107_45, r107_48, r107_51, r107_52, r107_55, r107_58, r107_59, r107_61, r107_64, r107_65, r107_66, r65_0, r65_1, k_isBelow, k_isMissing, z01_True, b1, p1, e1, zak_40, zln_40, zak_41, zln_41, zak_42, zln_42, zak_43, zln_43, zak_44, zln_44, zak_45, zln_45, zak_46, zln_46, zak_47, zln_47, zak_48, zln_48, zak_49, zln_49, zak_50, zln_50, zak_51, zln_51, zak_52, zln_52, zak_53, zln_53, zak_54, zln_54, zak_55, zln_55, zak_73, zln_73, zak_74, zln_74, zak_75, zln_75, zak_76, zln_76, zak_77, zln_77, zak_78, zln_78, zak_79, zln_79, zak_80, zln_80, zak_81, zln_81, zak_82, zln_82, zak_83, zln_83, zak_84, zln_84, zak_85, zln_85, zak_86, zln_86, zak_87, zln_87, zak_88, zln_88, zak_89, zln_89, zak_90, zln_90, zak_91, zln_91, zak_92, zln_92, zak_93, zln_93, zak_94, zln_94, zak_95, zln_95, zak_96, zln_96, zak_97, zln_97, zak_98, zln_98, zak_99, zln_99, zak_100, zln_100, zak_101, zln_101, zak_102, zln_102, zak_103, zln_103, zak_104, zln_104, zak_105, zln_105, zak_108, zln_108, zak_109, zln_109, Nat.reduceLeDiff, zclr_I, zclr_R, zclr_L, zclr_U, reduceIte, Int.reduceEq, Int.reduceLT, Int.reduceLE, Int.reduceNeg, not_true_eq_false, not_false_eq_true, or_true, true_or, or_false, false_or, and_true, true_and, and_false, false_and, z01_or]
            rw [lp65 a (by omega) (s 7 a 1).toNat 0 (by omega) (by omega), q3]
            simp only [r107_51, r107_52, r107_55, r107_58, r107_59, r107_61, r107_64, r107_65, r107_66, zclr_I, zclr_R, zclr_L, zclr_U, reduceIte, Int.reduceEq, Int.reduceLT, Int.reduceLE, Int.reduceNeg, not_true_eq_false, not_false_eq_true, or_true, true_or, or_false, false_or, and_true, true_and, and_false, false_and, z01_or]
            rw [c1]
            simp only [r107_114, r107_115, zclr_I, zclr_R, zclr_L, zclr_U, reduceIte, Int.reduceEq, Int.reduceLT, Int.reduceLE, Int.reduceNeg, not_true_eq_false, not_false_eq_true, or_true, true_or, or_false, false_or, and_true, true_and, and_false, false_and, z01_or]
          · intro m pc ls st fs Q
            simp only [r185_0, r185_1, r185_4, r185_7, r185_8, r185_10, r185_13, r185_14, r185_15, r185_18, r185_19, r185_20, r185_23, r185_24, r185_27, r185_30, r185_31, r185_32, r185_35, r185_36, r185_37, r185_38, r185_41, r185_44, r185_45, r185_47, r185_50, r185_51, r185_52, k_isSheet, q2, b1, f99, f100, f11, hm, e2, zak_40, zln_40, zak_41, zln_41, zak_42, zln_42, zak_43, zln_43, zak_44, zln_44, zak_45, zln_45, zak_46, zln_46, zak_47, zln_47, zak_48, zln_48, zak_49, zln_49, zak_50, zln_50, zak_51, zln_51, zak_52, zln_52, zak_53, zln_53, zak_54, zln_54, zak_55, zln_55, zak_73, zln_73, zak_74, zln_74, zak_75, zln_75, zak_76, zln_76, zak_77, zln_77, zak_78, zln_78, zak_79, zln_79, zak_80, zln_80, zak_81, zln_81, zak_82, zln_82, zak_83, zln_83, zak_84, zln_84, zak_85, zln_85, zak_86, zln_86, zak_87, zln_87, zak_88, zln_88, zak_89, zln_89, zak_90, zln_90, zak_91, zln_91, zak_92, zln_92, zak_93, zln_93, zak_94, zln_94, zak_95, zln_95, zak_96, zln_96, zak_97, zln_97, zak_98, zln_98, zak_99, zln_99, zak_100, zln_100, zak_101, zln_101, zak_102, zln_102, zak_103, zln_103, zak_104, zln_104, zak_105, zln_105, zak_108, zln_108, zak_109, zln_109, Nat.reduceLeDiff, zclr_I, zclr_R, zclr_L, zclr_U, reduceIte, Int.reduceEq, Int.reduceLT, Int.reduceLE, Int.reduceNeg, not_true_eq_false, not_false_eq_true, or_true, true_or, or_false, false_or, and_true, true_and, and_false, false_and, z01_or]
            rw [lp185a a (by omega) (by rw [f100]; omega) (s 100 0 a).toNat 0 (by omega) (by rw [f100]; omega), f101, if_pos hbad]
            simp only [r185_96, r185_97, zclr_I, zclr_R, zclr_L, zclr_U, reduceIte, Int.reduceEq, Int.reduceLT, Int.reduceLE, Int.reduceNeg, not_true_eq_false, not_false_eq_true, or_true, true_or, or_false, false_or, and_true, true_and, and_false, false_and, z01_or]
            rw [d1]
            simp only [r185_150, r185_151, zclr_I, zclr_R, zclr_L, zclr_U, reduceIte, Int.reduceEq, Int.reduceLT, Int.reduceLE, Int.reduceNeg, not_true_eq_false, not_false_eq_true, or_true, true_or, or_false, false_or, and_true, true_and, and_false, false_and, z01_or]
          · unfold Inv
            have hg : ∀ g : Nat, ¬ (g = 5 ∨ g = 76 ∨ g = 77) → s2 g = s g := fun g hg => by rw [d2 g (by omega), c2 g (by omega)]
            have g5 : s2 5 = s1 5 := d2 5 (by omega)
            simp only [hg, zup_g, Nat.reduceEqDiff, zclr_I, zclr_R, zclr_L, zclr_U, reduceIte, Int.reduceEq, Int.reduceLT, Int.reduceLE, Int.reduceNeg, not_true_eq_false, not_false_eq_true, or_true, true_or, or_false, false_or, and_true, true_and, and_false, false_and, z01_or]
            refine ⟨h1, h2, h3, h4, h5, h6, h7, h8, h9, h10, h11, fun i i0 i1 => ?_, fun i i0 i1 => ?_, h14, h15, h16, h17, h18, h19, h20⟩
            · rw [g5, d4, d5, c3 i 0 (by omega) (by omega), c3 i 1 (by omega) (by omega), c3 i 2 (by omega) (by omega), c3 i 5 (by omega) (by omega), c3 i 7 (by omega) (by omega), c3 i 8 (by omega) (by omega), c4, c5]
              obtain ⟨r1, r2, r3, ⟨r4, r4b, r4c, r4d, r4e⟩, r5⟩ := h12 i i0 i1
              refine ⟨r1, r2, r3, ?_, r5⟩
              by_cases x : 0 ≤ i ∧ i < 0 + N
              · rw [if_pos x, if_pos x, if_pos x, if_pos x, r4, r4b, (k3 i i0 (by omega)).1]
                have ok := of_decide_eq_true (n2 i x.1 x.2)
                have gd := good i i0 (by omega)
                have dr := dr_i gd.1 gd.2
                have l1 := nl_b (x := s 76 0 i) (y := zdiv (s 101 0 (10 * a + i)) 10)
                have l2 := nh_b (x := s 77 0 i) (y := zrem (s 101 0 (10 * a + i)) 10)
                exact ⟨rfl, rfl, by omega, by omega, by omega⟩
              · rw [if_neg x, if_neg x, if_neg x, if_neg x]
                exact ⟨r4, r4b, r4c, r4d, r4e⟩
            · rw [g5, c3 i 5 (by omega) (by omega), c3 i 7 (by omega) (by omega), c3 i 8 (by omega) (by omega), c4, c5, if_neg (by omega), if_neg (by omega)]
              exact h13 i i0 i1
        · have q3 : z01 (anyF (fun i => decide (s 54 a i < 0 ∨ 99 < s 54 a i)) 0 (s 7 a 1).toNat = false) = 0 := z01_f (by rw [eA]; exact hbad)
          refine pf (-1000001) hs ?_ ?_ <;> intro m pc ls st fs Q
          · simp only [r107_0, r107_1, r107_2, r107_5, r107_8, r107_9, r107_11, r107_14, r107_15, r107_16, r107_19, r107_20, r107_21, r107_22, r107_23, r107_26, r107_29, r107_30, r107_33, r107_36, r107_37, r107_38, r107_41, r107_42, r107_45, r107_48, r107_51, r107_52, r107_55, r107_58, r107_59, r107_61, r107_64, r107_65, r107_66, r65_0, r65_1, k_isBelow, k_isMissing, z01_True, b1, p1, e1, zak_40, zln_40, zak_41, zln_41, zak_42, zln_42, zak_43, zln_43, zak_44, zln_44, zak_45, zln_45, zak_46, zln_46, zak_47, zln_47, zak_48, zln_48, zak_49, zln_49, zak_50, zln_50, zak_51, zln_51, zak_52, zln_52, zak_53, zln_53, zak_54, zln_54, zak_55, zln_55, zak_73, zln_73, zak_74, zln_74, zak_75, zln_75, zak_76, zln_76, zak_77, zln_77, zak_78, zln_78, zak_79, zln_79, zak_80, zln_80, zak_81, zln_81, zak_82, zln_82, zak_83, zln_83, zak_84, zln_84, zak_85, zln_85, zak_86, zln_86, zak_87, zln_87, zak_88, zln_88, zak_89, zln_89, zak_90, zln_90, zak_91, zln_91, zak_92, zln_92, zak_93, zln_93, zak_94, zln_94, zak_95, zln_95, zak_96, zln_96, zak_97, zln_97, zak_98, zln_98, zak_99, zln_99, zak_100, zln_100, zak_101, zln_101, zak_102, zln_102, zak_103, zln_103, zak_104, zln_104, zak_105, zln_105, zak_108, zln_108, zak_109, zln_109, Nat.reduceLeDiff, zclr_I, zclr_R, zclr_L, zclr_U, reduceIte, Int.reduceEq, Int.reduceLT, Int.reduceLE, Int.reduceNeg, not_true_eq_false, not_false_eq_true, or_true, true_or, or_false, false_or, and_true, true_and, and_false, false_and, z01_or]
            rw [lp65 a (by omega) (s 7 a 1).toNat 0 (by omega) (by omega), q3]
            simp only [r107_51, r107_52, r107_55, r107_58, r107_59, r107_61, r107_64, r107_65, r107_66, k_finding, zclr_I, zclr_R, zclr_L, zclr_U, reduceIte, Int.reduceEq, Int.reduceLT, Int.reduceLE, Int.reduceNeg, not_true_eq_false, not_false_eq_true, or_true, true_or, or_false, false_or, and_true, true_and, and_false, false_and, z01_or]
          · have f11 : (zup s 10 0 5 (w32 (s 10 0 5 + 1))) 11 = s 11 := zup_ng (by omega)
            have f99 : (zup s 10 0 5 (w32 (s 10 0 5 + 1))) 99 = s 99 := zup_ng (by omega)
            have f100 : (zup s 10 0 5 (w32 (s 10 0 5 + 1))) 100 = s 100 := zup_ng (by omega)
            have f101 : (zup s 10 0 5 (w32 (s 10 0 5 + 1))) 101 = s 101 := zup_ng (by omega)
            simp only [r185_0, r185_1, r185_4, r185_7, r185_8, r185_10, r185_13, r185_14, r185_15, r185_18, r185_19, r185_20, r185_23, r185_24, r185_27, r185_30, r185_31, r185_32, r185_35, r185_36, r185_37, r185_38, r185_41, r185_44, r185_45, r185_47, r185_50, r185_51, r185_52, k_isSheet, q2, b1, f99, f100, f11, hm, e2, zak_40, zln_40, zak_41, zln_41, zak_42, zln_42, zak_43, zln_43, zak_44, zln_44, zak_45, zln_45, zak_46, zln_46, zak_47, zln_47, zak_48, zln_48, zak_49, zln_49, zak_50, zln_50, zak_51, zln_51, zak_52, zln_52, zak_53, zln_53, zak_54, zln_54, zak_55, zln_55, zak_73, zln_73, zak_74, zln_74, zak_75, zln_75, zak_76, zln_76, zak_77, zln_77, zak_78, zln_78, zak_79, zln_79, zak_80, zln_80, zak_81, zln_81, zak_82, zln_82, zak_83, zln_83, zak_84, zln_84, zak_85, zln_85, zak_86, zln_86, zak_87, zln_87, zak_88, zln_88, zak_89, zln_89, zak_90, zln_90, zak_91, zln_91, zak_92, zln_92, zak_93, zln_93, zak_94, zln_94, zak_95, zln_95, zak_96, zln_96, zak_97, zln_97, zak_98, zln_98, zak_99, zln_99, zak_100, zln_100, zak_101, zln_101, zak_102, zln_102, zak_103, zln_103, zak_104, zln_104, zak_105, zln_105, zak_108, zln_108, zak_109, zln_109, Nat.reduceLeDiff, zclr_I, zclr_R, zclr_L, zclr_U, reduceIte, Int.reduceEq, Int.reduceLT, Int.reduceLE, Int.reduceNeg, not_true_eq_false, not_false_eq_true, or_true, true_or, or_false, false_or, and_true, true_and, and_false, false_and, z01_or]
            rw [lp185a a (by omega) (by rw [f100]; omega) (s 100 0 a).toNat 0 (by omega) (by rw [f100]; omega), f101, f11, if_neg hbad]
      · have e1 : (s 6 0 1 < s 7 a 1) = True := eq_true (by omega)
        have e2 : (s 100 0 a ≤ s 11 0 0) = False := eq_false hz
        refine pf (-1000001) hs ?_ ?_ <;> intro m pc ls st fs Q
        · simp only [r107_0, r107_1, r107_2, r107_5, r107_8, r107_9, r107_11, r107_14, r107_15, r107_16, r107_19, r107_20, r107_21, r107_22, r107_23, r107_26, r107_29, r107_30, r107_33, r107_36, r107_37, r107_38, r107_41, r107_42, r107_45, r107_48, r107_51, r107_52, r107_55, r107_58, r107_59, r107_61, r107_64, r107_65, r107_66, k_isBelow, k_isMissing, k_finding, z01_True, b1, p1, e1, zak_40, zln_40, zak_41, zln_41, zak_42, zln_42, zak_43, zln_43, zak_44, zln_44, zak_45, zln_45, zak_46, zln_46, zak_47, zln_47, zak_48, zln_48, zak_49, zln_49, zak_50, zln_50, zak_51, zln_51, zak_52, zln_52, zak_53, zln_53, zak_54, zln_54, zak_55, zln_55, zak_73, zln_73, zak_74, zln_74, zak_75, zln_75, zak_76, zln_76, zak_77, zln_77, zak_78, zln_78, zak_79, zln_79, zak_80, zln_80, zak_81, zln_81, zak_82, zln_82, zak_83, zln_83, zak_84, zln_84, zak_85, zln_85, zak_86, zln_86, zak_87, zln_87, zak_88, zln_88, zak_89, zln_89, zak_90, zln_90, zak_91, zln_91, zak_92, zln_92, zak_93, zln_93, zak_94, zln_94, zak_95, zln_95, zak_96, zln_96, zak_97, zln_97, zak_98, zln_98, zak_99, zln_99, zak_100, zln_100, zak_101, zln_101, zak_102, zln_102, zak_103, zln_103, zak_104, zln_104, zak_105, zln_105, zak_108, zln_108, zak_109, zln_109, Nat.reduceLeDiff, zclr_I, zclr_R, zclr_L, zclr_U, reduceIte, Int.reduceEq, Int.reduceLT, Int.reduceLE, Int.reduceNeg, not_true_eq_false, not_false_eq_true, or_true, true_or, or_false, false_or, and_true, true_and, and_false, false_and, z01_or]
        · simp only [r185_0, r185_1, r185_4, r185_7, r185_8, r185_10, r185_13, r185_14, r185_15, r185_18, r185_19, r185_20, r185_23, r185_24, r185_27, r185_30, r185_31, r185_32, r185_35, r185_36, r185_37, r185_38, r185_41, r185_44, r185_45, r185_47, r185_50, r185_51, r185_52, k_isSheet, k_finds, q2, b1, hm, e2, zak_40, zln_40, zak_41, zln_41, zak_42, zln_42, zak_43, zln_43, zak_44, zln_44, zak_45, zln_45, zak_46, zln_46, zak_47, zln_47, zak_48, zln_48, zak_49, zln_49, zak_50, zln_50, zak_51, zln_51, zak_52, zln_52, zak_53, zln_53, zak_54, zln_54, zak_55, zln_55, zak_73, zln_73, zak_74, zln_74, zak_75, zln_75, zak_76, zln_76, zak_77, zln_77, zak_78, zln_78, zak_79, zln_79, zak_80, zln_80, zak_81, zln_81, zak_82, zln_82, zak_83, zln_83, zak_84, zln_84, zak_85, zln_85, zak_86, zln_86, zak_87, zln_87, zak_88, zln_88, zak_89, zln_89, zak_90, zln_90, zak_91, zln_91, zak_92, zln_92, zak_93, zln_93, zak_94, zln_94, zak_95, zln_95, zak_96, zln_96, zak_97, zln_97, zak_98, zln_98, zak_99, zln_99, zak_100, zln_100, zak_101, zln_101, zak_102, zln_102, zak_103, zln_103, zak_104, zln_104, zak_105, zln_105, zak_108, zln_108, zak_109, zln_109, Nat.reduceLeDiff, zup_g, Nat.reduceEqDiff, zclr_I, zclr_R, zclr_L, zclr_U, reduceIte, Int.reduceEq, Int.reduceLT, Int.reduceLE, Int.reduceNeg, not_true_eq_false, not_false_eq_true, or_true, true_or, or_false, false_or, and_true, true_and, and_false, false_and, z01_or]
  · have q1 := z01_f hc
    have q2 : z01 (0 ≤ a ∧ a ≤ 3) = 0 := z01_f (by omega)
    refine pf (-1000001) hs ?_ ?_ <;> intro m pc ls st fs Q
    · simp only [r107_0, r107_1, r107_2, r107_5, r107_8, r107_9, r107_11, r107_14, r107_15, r107_16, r107_19, r107_20, r107_21, r107_22, r107_23, r107_26, r107_29, r107_30, r107_33, r107_36, r107_37, r107_38, r107_41, r107_42, r107_45, r107_48, r107_51, r107_52, r107_55, r107_58, r107_59, r107_61, r107_64, r107_65, r107_66, k_isBelow, k_finding, q1, zclr_I, zclr_R, zclr_L, zclr_U, reduceIte, Int.reduceEq, Int.reduceLT, Int.reduceLE, Int.reduceNeg, not_true_eq_false, not_false_eq_true, or_true, true_or, or_false, false_or, and_true, true_and, and_false, false_and, z01_or]
    · simp only [r185_0, r185_1, r185_4, r185_7, r185_8, r185_10, r185_13, r185_14, r185_15, r185_18, r185_19, r185_20, r185_23, r185_24, r185_27, r185_30, r185_31, r185_32, r185_35, r185_36, r185_37, r185_38, r185_41, r185_44, r185_45, r185_47, r185_50, r185_51, r185_52, k_isSheet, k_finds, q2, zup_g, Nat.reduceEqDiff, zclr_I, zclr_R, zclr_L, zclr_U, reduceIte, Int.reduceEq, Int.reduceLT, Int.reduceLE, Int.reduceNeg, not_true_eq_false, not_false_eq_true, or_true, true_or, or_false, false_or, and_true, true_and, and_false, false_and, z01_or]

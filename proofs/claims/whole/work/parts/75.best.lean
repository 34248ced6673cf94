/-! the class's bestValue -/
def okM (s : zS) (t i : Int) : Prop := s 94 0 i = t ∧ suitM s i
def BstM (s : zS) (t k b : Int) : Prop := Bst (s 11 0 4) (okM s t) (fun i => s 95 0 i) (fun i => s 96 0 i) (fun i => s 97 0 i) k b
def CinM (s : zS) (t : Int) (B : Int → Int) (h i c : Int) : Prop := Cin (s 11 0 4) (okM s t) (fun i => s 95 0 i) (fun i => s 96 0 i) (fun i => s 97 0 i) B h i c
def AskR (s : zS) (t : Int) : Prop := s 1 0 1 = s 11 0 4 ∧ 0 ≤ s 11 0 4 ∧ s 11 0 4 ≤ 10 ∧ ∀ i : Int, 0 ≤ i → i < s 11 0 4 → (s 0 i 0 = s 94 0 i ∧ s 0 i 1 = s 95 0 i ∧ s 0 i 2 = s 96 0 i ∧ s 0 i 3 = s 97 0 i) ∧ (0 ≤ s 94 0 i ∧ s 94 0 i < 5) ∧ (0 ≤ s 95 0 i ∧ s 95 0 i ≤ s 96 0 i ∧ s 96 0 i ≤ 7) ∧ (0 ≤ s 97 0 i ∧ s 97 0 i ≤ 1000) ∧ (s 94 0 i = t → (suitC s i t ↔ suitM s i))
theorem lp9i {s0 s : zS} (t h : Int) (hR : AskR s0 t) (hE : ∀ g : Nat, ¬ g = 52 → s g = s0 g) (h0 : 0 ≤ h) (h7 : h ≤ 7) (hB : ∀ k : Int, h < k → k ≤ 8 → BstM s0 t k (s 52 0 k)) : ∀ (k : Nat) (i c : Int) (v6 v7 v8 : zV), 0 ≤ i → i + k = s0 11 0 4 → CinM s0 t (fun k => s 52 0 k) h i c → ∃ (c' : Int) (v6' v7' v8' : zV), (∀ (F : List zFr) (Q : List zV → zS → Prop), Ev ((9, 28, [zR 1 0, zI t, zR 8 t, zI h, zI c, zI i, v6, v7, v8], []) :: F) s Q = Ev ((9, 140, [zR 1 0, zI t, zR 8 t, zI h, zI c', zI (s0 11 0 4), v6', v7', v8'], []) :: F) s Q) ∧ CinM s0 t (fun k => s 52 0 k) h (s0 11 0 4) c' := by
  obtain ⟨n1, n2, n3, hA⟩ := hR
  have e0 : s 0 = s0 0 := hE 0 (by omega)
  have e1' : s 1 = s0 1 := hE 1 (by omega)
  have e8 : s 8 = s0 8 := hE 8 (by omega)
  intro k
  induction k with
  | zero =>
    intro i c v6 v7 v8 i0 i1 hC
    have e1 : (s0 11 0 4 ≤ i) = True := eq_true (by omega)
    have e2 : i = s0 11 0 4 := by omega
    refine ⟨c, v6, v7, v8, fun F Q => ?_, by rw [← e2]; exact hC⟩
    rw [r9_28]
    simp only [r9_30, r9_31, r9_34, r9_37, r9_38, r9_41, r9_43, r9_44, r9_46, r9_48, r9_51, r9_52, r9_55, r9_57, r9_60, r9_61, r9_64, r9_66, r9_69, r9_71, r9_74, r9_75, r9_78, r9_79, r9_81, r9_83, r9_86, r9_87, r9_89, r9_90, r9_93, r9_96, r9_98, r9_101, r9_104, r9_105, r9_106, r9_108, r9_109, r9_110, r9_112, r9_114, r9_116, r9_117, r9_120, r9_122, r9_125, r9_126, r9_127, r9_128, r9_129, r9_132, r9_134, r9_137, e1', n1, e1, zclr_I, zclr_R, zclr_L, zclr_U, reduceIte, Int.reduceEq, Int.reduceLT, Int.reduceLE, Int.reduceNeg, not_true_eq_false, not_false_eq_true, or_true, true_or, or_false, false_or, and_true, true_and, and_false, false_and, z01_or]
    rw [e2]
  | succ k ih =>
    intro i c v6 v7 v8 i0 i1 hC
    have e1 : (s0 11 0 4 ≤ i) = False := eq_false (by omega)
    have b1 : (0 ≤ i ∧ i < 10) = True := eq_true (by omega)
    have w1 : w32 (i + 1) = i + 1 := w32_id (by omega) (by omega)
    obtain ⟨⟨a0, a1, a2, a3⟩, a4, a5, a6, a7⟩ := hA i i0 (by omega)
    have c8 : (8 ≤ s0 96 0 i) = False := eq_false (by omega)
    by_cases c1 : s0 94 0 i = t
    · by_cases c2 : s0 95 0 i = h
      · by_cases c3 : suitM s0 i
        · have c3c := (a7 c1).mpr c3
          have q : z01 (suitC s i t) = 1 := z01_t (by unfold suitC; rw [e0, e1', e8]; exact c3c)
          have sh := (set_bi (x := 0) (by omega) (by omega) i0 (show i < 10 by omega))
          have shb : 0 ≤ zshl 1 i ∧ zshl 1 i ≤ 1024 := by
            obtain ⟨j, rfl⟩ := Int.eq_ofNat_of_zero_le i0
            rw [zshl_1 (by omega)]
            have hj1 : 2 ^ j < 2 ^ 10 := Nat.pow_lt_pow_right (by omega) (by omega)
            have hj0 : 0 < 2 ^ j := Nat.two_pow_pos j
            generalize 2 ^ j = X at *
            omega
          have hb := Bst_b n2 n3 (fun i i0 i1 => (hA i i0 i1).2.2.2.1) (hB (s0 96 0 i + 1) (by omega) (by omega))
          have w2 : w32 (s0 97 0 i * 1024) = 1024 * s0 97 0 i := by rw [w32_id (by omega) (by omega)]; omega
          have w3 : w32 (1024 * s0 97 0 i - zshl 1 i) = 1024 * s0 97 0 i - zshl 1 i := w32_id (by omega) (by omega)
          have w4 : w32 (s0 96 0 i + 1) = s0 96 0 i + 1 := w32_id (by omega) (by omega)
          have w5 : w32 (1024 * s0 97 0 i - zshl 1 i + s 52 0 (s0 96 0 i + 1)) = 1024 * s0 97 0 i - zshl 1 i + s 52 0 (s0 96 0 i + 1) := w32_id (by omega) (by omega)
          have b2 : (0 ≤ s0 96 0 i + 1 ∧ s0 96 0 i + 1 < 9) = True := eq_true (by omega)
          obtain ⟨c', x6, x7, x8, d1, d2⟩ := ih (i + 1) (nlo c (1024 * s0 97 0 i - zshl 1 i + s 52 0 (s0 96 0 i + 1))) (zR 0 i) (zI 1) (zI (1024 * s0 97 0 i - zshl 1 i)) (by omega) (by omega) (Cin_yes n2 n3 (fun i i0 i1 => (hA i i0 i1).2.2.1.2) hC i0 (by omega) ⟨c1, c3⟩ c2 (hB _ (by omega) (by omega)))
          refine ⟨c', x6, x7, x8, fun F Q => ?_, d2⟩
          have c1 := eq_true c1
          have c2 := eq_true c2
          rw [r9_28]
          simp only [r9_30, r9_31, r9_34, r9_37, r9_38, r9_41, r9_43, r9_44, r9_46, r9_48, r9_51, r9_52, r9_55, r9_57, r9_60, r9_61, r9_64, r9_66, r9_69, r9_71, r9_74, r9_75, r9_78, r9_79, r9_81, r9_83, r9_86, r9_87, r9_89, e0, e1', n1, e1, b1, a0, a1, a2, c1, c2, c8, zak_40, zln_40, zak_41, zln_41, zak_42, zln_42, zak_43, zln_43, zak_44, zln_44, zak_45, zln_45, zak_46, zln_46, zak_47, zln_47, zak_48, zln_48, zak_49, zln_49, zak_50, zln_50, zak_51, zln_51, zak_52, zln_52, zak_53, zln_53, zak_54, zln_54, zak_55, zln_55, zak_73, zln_73, zak_74, zln_74, zak_75, zln_75, zak_76, zln_76, zak_77, zln_77, zak_78, zln_78, zak_79, zln_79, zak_80, zln_80, zak_81, zln_81, zak_82, zln_82, zak_83, zln_83, zak_84, zln_84, zak_85, zln_85, zak_86, zln_86, zak_87, zln_87, zak_88, zln_88, zak_89, zln_89, zak_90, zln_90, zak_91, zln_91, zak_92, zln_92, zak_93, zln_93, zak_94, zln_94, zak_95, zln_95, zak_96, zln_96, zak_97, zln_97, zak_98, zln_98, zak_99, zln_99, zak_100, zln_100, zak_101, zln_101, zak_102, zln_102, zak_103, zln_103, zak_104, zln_104, zak_105, zln_105, zak_108, zln_108, zak_109, zln_109, Nat.reduceLeDiff, zclr_I, zclr_R, zclr_L, zclr_U, reduceIte, Int.reduceEq, Int.reduceLT, Int.reduceLE, Int.reduceNeg, not_true_eq_false, not_false_eq_true, or_true, true_or, or_false, false_or, and_true, true_and, and_false, false_and, z01_or]
          rw [r9_90, k_suits, q]
          simp only [r9_93, r9_96, r9_98, r9_101, r9_104, r9_105, r9_106, r9_108, r9_109, r9_110, r9_112, r9_114, r9_116, r9_117, r9_120, r9_122, r9_125, r9_126, r9_127, r9_128, r9_129, r9_132, r9_134, r9_137, nlo_d, e0, a2, a3, w1, w2, w3, w4, w5, b2, zak_40, zln_40, zak_41, zln_41, zak_42, zln_42, zak_43, zln_43, zak_44, zln_44, zak_45, zln_45, zak_46, zln_46, zak_47, zln_47, zak_48, zln_48, zak_49, zln_49, zak_50, zln_50, zak_51, zln_51, zak_52, zln_52, zak_53, zln_53, zak_54, zln_54, zak_55, zln_55, zak_73, zln_73, zak_74, zln_74, zak_75, zln_75, zak_76, zln_76, zak_77, zln_77, zak_78, zln_78, zak_79, zln_79, zak_80, zln_80, zak_81, zln_81, zak_82, zln_82, zak_83, zln_83, zak_84, zln_84, zak_85, zln_85, zak_86, zln_86, zak_87, zln_87, zak_88, zln_88, zak_89, zln_89, zak_90, zln_90, zak_91, zln_91, zak_92, zln_92, zak_93, zln_93, zak_94, zln_94, zak_95, zln_95, zak_96, zln_96, zak_97, zln_97, zak_98, zln_98, zak_99, zln_99, zak_100, zln_100, zak_101, zln_101, zak_102, zln_102, zak_103, zln_103, zak_104, zln_104, zak_105, zln_105, zak_108, zln_108, zak_109, zln_109, Nat.reduceLeDiff, zclr_I, zclr_R, zclr_L, zclr_U, reduceIte, Int.reduceEq, Int.reduceLT, Int.reduceLE, Int.reduceNeg, not_true_eq_false, not_false_eq_true, or_true, true_or, or_false, false_or, and_true, true_and, and_false, false_and, z01_or]
          exact d1 F Q
        · have c3c : ¬ suitC s0 i t := fun z => c3 ((a7 c1).mp z)
          have q : z01 (suitC s i t) = 0 := z01_f (by unfold suitC; rw [e0, e1', e8]; exact c3c)
          obtain ⟨c', x6, x7, x8, d1, d2⟩ := ih (i + 1) c (zR 0 i) (zI 1) v8 (by omega) (by omega) (Cin_no hC (fun z => c3 z.1.2))
          refine ⟨c', x6, x7, x8, fun F Q => ?_, d2⟩
          have c1 := eq_true c1
          have c2 := eq_true c2
          rw [r9_28]
          simp only [r9_30, r9_31, r9_34, r9_37, r9_38, r9_41, r9_43, r9_44, r9_46, r9_48, r9_51, r9_52, r9_55, r9_57, r9_60, r9_61, r9_64, r9_66, r9_69, r9_71, r9_74, r9_75, r9_78, r9_79, r9_81, r9_83, r9_86, r9_87, r9_89, e0, e1', n1, e1, b1, a0, a1, a2, c1, c2, c8, zak_40, zln_40, zak_41, zln_41, zak_42, zln_42, zak_43, zln_43, zak_44, zln_44, zak_45, zln_45, zak_46, zln_46, zak_47, zln_47, zak_48, zln_48, zak_49, zln_49, zak_50, zln_50, zak_51, zln_51, zak_52, zln_52, zak_53, zln_53, zak_54, zln_54, zak_55, zln_55, zak_73, zln_73, zak_74, zln_74, zak_75, zln_75, zak_76, zln_76, zak_77, zln_77, zak_78, zln_78, zak_79, zln_79, zak_80, zln_80, zak_81, zln_81, zak_82, zln_82, zak_83, zln_83, zak_84, zln_84, zak_85, zln_85, zak_86, zln_86, zak_87, zln_87, zak_88, zln_88, zak_89, zln_89, zak_90, zln_90, zak_91, zln_91, zak_92, zln_92, zak_93, zln_93, zak_94, zln_94, zak_95, zln_95, zak_96, zln_96, zak_97, zln_97, zak_98, zln_98, zak_99, zln_99, zak_100, zln_100, zak_101, zln_101, zak_102, zln_102, zak_103, zln_103, zak_104, zln_104, zak_105, zln_105, zak_108, zln_108, zak_109, zln_109, Nat.reduceLeDiff, zclr_I, zclr_R, zclr_L, zclr_U, reduceIte, Int.reduceEq, Int.reduceLT, Int.reduceLE, Int.reduceNeg, not_true_eq_false, not_false_eq_true, or_true, true_or, or_false, false_or, and_true, true_and, and_false, false_and, z01_or]
          rw [r9_90, k_suits, q]
          simp only [r9_93, r9_96, r9_98, r9_101, r9_104, r9_105, r9_106, r9_108, r9_109, r9_110, r9_112, r9_114, r9_116, r9_117, r9_120, r9_122, r9_125, r9_126, r9_127, r9_128, r9_129, r9_132, r9_134, r9_137, w1, zak_40, zln_40, zak_41, zln_41, zak_42, zln_42, zak_43, zln_43, zak_44, zln_44, zak_45, zln_45, zak_46, zln_46, zak_47, zln_47, zak_48, zln_48, zak_49, zln_49, zak_50, zln_50, zak_51, zln_51, zak_52, zln_52, zak_53, zln_53, zak_54, zln_54, zak_55, zln_55, zak_73, zln_73, zak_74, zln_74, zak_75, zln_75, zak_76, zln_76, zak_77, zln_77, zak_78, zln_78, zak_79, zln_79, zak_80, zln_80, zak_81, zln_81, zak_82, zln_82, zak_83, zln_83, zak_84, zln_84, zak_85, zln_85, zak_86, zln_86, zak_87, zln_87, zak_88, zln_88, zak_89, zln_89, zak_90, zln_90, zak_91, zln_91, zak_92, zln_92, zak_93, zln_93, zak_94, zln_94, zak_95, zln_95, zak_96, zln_96, zak_97, zln_97, zak_98, zln_98, zak_99, zln_99, zak_100, zln_100, zak_101, zln_101, zak_102, zln_102, zak_103, zln_103, zak_104, zln_104, zak_105, zln_105, zak_108, zln_108, zak_109, zln_109, Nat.reduceLeDiff, zclr_I, zclr_R, zclr_L, zclr_U, reduceIte, Int.reduceEq, Int.reduceLT, Int.reduceLE, Int.reduceNeg, not_true_eq_false, not_false_eq_true, or_true, true_or, or_false, false_or, and_true, true_and, and_false, false_and, z01_or]
          exact d1 F Q
      · obtain ⟨c', x6, x7, x8, d1, d2⟩ := ih (i + 1) c (zR 0 i) (zI 0) v8 (by omega) (by omega) (Cin_no hC (fun z => c2 z.2))
        refine ⟨c', x6, x7, x8, fun F Q => ?_, d2⟩
        have c1 := eq_true c1
        rw [r9_28]
        simp only [r9_30, r9_31, r9_34, r9_37, r9_38, r9_41, r9_43, r9_44, r9_46, r9_48, r9_51, r9_52, r9_55, r9_57, r9_60, r9_61, r9_64, r9_66, r9_69, r9_71, r9_74, r9_75, r9_78, r9_79, r9_81, r9_83, r9_86, r9_87, r9_89, r9_90, r9_93, r9_96, r9_98, r9_101, r9_104, r9_105, r9_106, r9_108, r9_109, r9_110, r9_112, r9_114, r9_116, r9_117, r9_120, r9_122, r9_125, r9_126, r9_127, r9_128, r9_129, r9_132, r9_134, r9_137, e0, e1', n1, e1, b1, a0, a1, a2, c1, c2, c8, w1, zak_40, zln_40, zak_41, zln_41, zak_42, zln_42, zak_43, zln_43, zak_44, zln_44, zak_45, zln_45, zak_46, zln_46, zak_47, zln_47, zak_48, zln_48, zak_49, zln_49, zak_50, zln_50, zak_51, zln_51, zak_52, zln_52, zak_53, zln_53, zak_54, zln_54, zak_55, zln_55, zak_73, zln_73, zak_74, zln_74, zak_75, zln_75, zak_76, zln_76, zak_77, zln_77, zak_78, zln_78, zak_79, zln_79, zak_80, zln_80, zak_81, zln_81, zak_82, zln_82, zak_83, zln_83, zak_84, zln_84, zak_85, zln_85, zak_86, zln_86, zak_87, zln_87, zak_88, zln_88, zak_89, zln_89, zak_90, zln_90, zak_91, zln_91, zak_92, zln_92, zak_93, zln_93, zak_94, zln_94, zak_95, zln_95, zak_96, zln_96, zak_97, zln_97, zak_98, zln_98, zak_99, zln_99, zak_100, zln_100, zak_101, zln_101, zak_102, zln_102, zak_103, zln_103, zak_104, zln_104, zak_105, zln_105, zak_108, zln_108, zak_109, zln_109, Nat.reduceLeDiff, zclr_I, zclr_R, zclr_L, zclr_U, reduceIte, Int.reduceEq, Int.reduceLT, Int.reduceLE, Int.reduceNeg, not_true_eq_false, not_false_eq_true, or_true, true_or, or_false, false_or, and_true, true_and, and_false, false_and, z01_or]
        exact d1 F Q
    · obtain ⟨c', x6, x7, x8, d1, d2⟩ := ih (i + 1) c (zR 0 i) (zI 0) v8 (by omega) (by omega) (Cin_no hC (fun z => c1 z.1.1))
      refine ⟨c', x6, x7, x8, fun F Q => ?_, d2⟩
      rw [r9_28]
      simp only [r9_30, r9_31, r9_34, r9_37, r9_38, r9_41, r9_43, r9_44, r9_46, r9_48, r9_51, r9_52, r9_55, r9_57, r9_60, r9_61, r9_64, r9_66, r9_69, r9_71, r9_74, r9_75, r9_78, r9_79, r9_81, r9_83, r9_86, r9_87, r9_89, r9_90, r9_93, r9_96, r9_98, r9_101, r9_104, r9_105, r9_106, r9_108, r9_109, r9_110, r9_112, r9_114, r9_116, r9_117, r9_120, r9_122, r9_125, r9_126, r9_127, r9_128, r9_129, r9_132, r9_134, r9_137, e0, e1', n1, e1, b1, a0, a1, a2, c1, c8, w1, zak_40, zln_40, zak_41, zln_41, zak_42, zln_42, zak_43, zln_43, zak_44, zln_44, zak_45, zln_45, zak_46, zln_46, zak_47, zln_47, zak_48, zln_48, zak_49, zln_49, zak_50, zln_50, zak_51, zln_51, zak_52, zln_52, zak_53, zln_53, zak_54, zln_54, zak_55, zln_55, zak_73, zln_73, zak_74, zln_74, zak_75, zln_75, zak_76, zln_76, zak_77, zln_77, zak_78, zln_78, zak_79, zln_79, zak_80, zln_80, zak_81, zln_81, zak_82, zln_82, zak_83, zln_83, zak_84, zln_84, zak_85, zln_85, zak_86, zln_86, zak_87, zln_87, zak_88, zln_88, zak_89, zln_89, zak_90, zln_90, zak_91, zln_91, zak_92, zln_92, zak_93, zln_93, zak_94, zln_94, zak_95, zln_95, zak_96, zln_96, zak_97, zln_97, zak_98, zln_98, zak_99, zln_99, zak_100, zln_100, zak_101, zln_101, zak_102, zln_102, zak_103, zln_103, zak_104, zln_104, zak_105, zln_105, zak_108, zln_108, zak_109, zln_109, Nat.reduceLeDiff, zclr_I, zclr_R, zclr_L, zclr_U, reduceIte, Int.reduceEq, Int.reduceLT, Int.reduceLE, Int.reduceNeg, not_true_eq_false, not_false_eq_true, or_true, true_or, or_false, false_or, and_true, true_and, and_false, false_and, z01_or]
      exact d1 F Q
theorem lp9o {s0 : zS} (t : Int) (hR : AskR s0 t) : ∀ (k : Nat) (h : Int) (s : zS) (v4 v5 v6 v7 v8 : zV), h + 1 = k → h ≤ 7 → (∀ g : Nat, ¬ g = 52 → s g = s0 g) → (∀ j : Int, h < j → j ≤ 8 → BstM s0 t j (s 52 0 j)) → ∃ s1 : zS, (∀ (m pc : Nat) (ls st : List zV) (fs : List zFr) (Q : List zV → zS → Prop), Ev ((9, 11, [zR 1 0, zI t, zR 8 t, zI h, v4, v5, v6, v7, v8], []) :: (m, pc, ls, st) :: fs) s Q = Ev ((m, pc, ls, zI (s1 52 0 0) :: st) :: fs) s1 Q) ∧ (∀ g : Nat, ¬ g = 52 → s1 g = s0 g) ∧ BstM s0 t 0 (s1 52 0 0) := by
  intro k
  induction k with
  | zero =>
    intro h s v4 v5 v6 v7 v8 h0 h7 hE hB
    have e1 : (h < 0) = True := eq_true (by omega)
    have b0 : ((0 : Int) ≤ 0 ∧ (0 : Int) < 9) = True := eq_true (by omega)
    refine ⟨s, fun m pc ls st fs Q => ?_, hE, hB 0 (by omega) (by omega)⟩
    rw [r9_11]
    simp only [r9_12, r9_15, r9_16, r9_19, r9_20, r9_21, r9_22, r9_23, r9_25, r9_26, r9_154, r9_155, r9_158, r9_159, r9_160, e1, b0, zak_40, zln_40, zak_41, zln_41, zak_42, zln_42, zak_43, zln_43, zak_44, zln_44, zak_45, zln_45, zak_46, zln_46, zak_47, zln_47, zak_48, zln_48, zak_49, zln_49, zak_50, zln_50, zak_51, zln_51, zak_52, zln_52, zak_53, zln_53, zak_54, zln_54, zak_55, zln_55, zak_73, zln_73, zak_74, zln_74, zak_75, zln_75, zak_76, zln_76, zak_77, zln_77, zak_78, zln_78, zak_79, zln_79, zak_80, zln_80, zak_81, zln_81, zak_82, zln_82, zak_83, zln_83, zak_84, zln_84, zak_85, zln_85, zak_86, zln_86, zak_87, zln_87, zak_88, zln_88, zak_89, zln_89, zak_90, zln_90, zak_91, zln_91, zak_92, zln_92, zak_93, zln_93, zak_94, zln_94, zak_95, zln_95, zak_96, zln_96, zak_97, zln_97, zak_98, zln_98, zak_99, zln_99, zak_100, zln_100, zak_101, zln_101, zak_102, zln_102, zak_103, zln_103, zak_104, zln_104, zak_105, zln_105, zak_108, zln_108, zak_109, zln_109, Nat.reduceLeDiff, zclr_I, zclr_R, zclr_L, zclr_U, reduceIte, Int.reduceEq, Int.reduceLT, Int.reduceLE, Int.reduceNeg, not_true_eq_false, not_false_eq_true, or_true, true_or, or_false, false_or, and_true, true_and, and_false, false_and, z01_or]
  | succ k ih =>
    intro h s v4 v5 v6 v7 v8 h0 h7 hE hB
    have e1 : (h < 0) = False := eq_false (by omega)
    have b1 : (0 ≤ h + 1 ∧ h + 1 < 9) = True := eq_true (by omega)
    have b2 : (0 ≤ h ∧ h < 9) = True := eq_true (by omega)
    have w1 : w32 (h + 1) = h + 1 := w32_id (by omega) (by omega)
    have w2 : w32 (h + -1) = h - 1 := by rw [w32_id (by omega) (by omega)]; omega
    obtain ⟨c', x6, x7, x8, d1, d2⟩ := lp9i t h hR hE (by omega) h7 hB (s0 11 0 4).toNat 0 (s 52 0 (h + 1)) v6 v7 v8 (by omega) (by have := hR.2.1; omega) (Cin_0 (hB (h + 1) (by omega) (by omega)))
    have hb : BstM s0 t h c' := Cin_end hR.2.1 hR.2.2.1 (fun i i0 i1 => (hR.2.2.2 i i0 i1).2.2.1.2) hB d2
    obtain ⟨s1, c1, c2, c3⟩ := ih (h - 1) (zup s 52 0 h c') (zI c') (zI (s0 11 0 4)) x6 x7 x8 (by omega) (by omega) (fun g hg => by rw [zup_ng hg, hE g hg]) (fun j j0 j1 => by
      by_cases e : j = h
      · rw [e, zup_eq]; exact hb
      · rw [zup_nk e]; exact hB j (by omega) j1)
    refine ⟨s1, fun m pc ls st fs Q => ?_, c2, c3⟩
    rw [r9_11]
    simp only [r9_12, r9_15, r9_16, r9_19, r9_20, r9_21, r9_22, r9_23, r9_25, r9_26, e1, b1, w1, zak_40, zln_40, zak_41, zln_41, zak_42, zln_42, zak_43, zln_43, zak_44, zln_44, zak_45, zln_45, zak_46, zln_46, zak_47, zln_47, zak_48, zln_48, zak_49, zln_49, zak_50, zln_50, zak_51, zln_51, zak_52, zln_52, zak_53, zln_53, zak_54, zln_54, zak_55, zln_55, zak_73, zln_73, zak_74, zln_74, zak_75, zln_75, zak_76, zln_76, zak_77, zln_77, zak_78, zln_78, zak_79, zln_79, zak_80, zln_80, zak_81, zln_81, zak_82, zln_82, zak_83, zln_83, zak_84, zln_84, zak_85, zln_85, zak_86, zln_86, zak_87, zln_87, zak_88, zln_88, zak_89, zln_89, zak_90, zln_90, zak_91, zln_91, zak_92, zln_92, zak_93, zln_93, zak_94, zln_94, zak_95, zln_95, zak_96, zln_96, zak_97, zln_97, zak_98, zln_98, zak_99, zln_99, zak_100, zln_100, zak_101, zln_101, zak_102, zln_102, zak_103, zln_103, zak_104, zln_104, zak_105, zln_105, zak_108, zln_108, zak_109, zln_109, Nat.reduceLeDiff, zclr_I, zclr_R, zclr_L, zclr_U, reduceIte, Int.reduceEq, Int.reduceLT, Int.reduceLE, Int.reduceNeg, not_true_eq_false, not_false_eq_true, or_true, true_or, or_false, false_or, and_true, true_and, and_false, false_and, z01_or]
    rw [d1]
    simp only [r9_140, r9_141, r9_144, r9_145, r9_147, r9_148, r9_151, b2, w2, zak_40, zln_40, zak_41, zln_41, zak_42, zln_42, zak_43, zln_43, zak_44, zln_44, zak_45, zln_45, zak_46, zln_46, zak_47, zln_47, zak_48, zln_48, zak_49, zln_49, zak_50, zln_50, zak_51, zln_51, zak_52, zln_52, zak_53, zln_53, zak_54, zln_54, zak_55, zln_55, zak_73, zln_73, zak_74, zln_74, zak_75, zln_75, zak_76, zln_76, zak_77, zln_77, zak_78, zln_78, zak_79, zln_79, zak_80, zln_80, zak_81, zln_81, zak_82, zln_82, zak_83, zln_83, zak_84, zln_84, zak_85, zln_85, zak_86, zln_86, zak_87, zln_87, zak_88, zln_88, zak_89, zln_89, zak_90, zln_90, zak_91, zln_91, zak_92, zln_92, zak_93, zln_93, zak_94, zln_94, zak_95, zln_95, zak_96, zln_96, zak_97, zln_97, zak_98, zln_98, zak_99, zln_99, zak_100, zln_100, zak_101, zln_101, zak_102, zln_102, zak_103, zln_103, zak_104, zln_104, zak_105, zln_105, zak_108, zln_108, zak_109, zln_109, Nat.reduceLeDiff, zclr_I, zclr_R, zclr_L, zclr_U, reduceIte, Int.reduceEq, Int.reduceLT, Int.reduceLE, Int.reduceNeg, not_true_eq_false, not_false_eq_true, or_true, true_or, or_false, false_or, and_true, true_and, and_false, false_and, z01_or]
    exact c1 m pc ls st fs Q
theorem k_best {s : zS} (t : Int) (hR : AskR s t) : ∃ s1 : zS, (∀ (m pc : Nat) (ls st : List zV) (fs : List zFr) (Q : List zV → zS → Prop), Ev ((9, 0, [zR 1 0, zI t, zR 8 t, zU, zU, zU, zU, zU, zU], []) :: (m, pc, ls, st) :: fs) s Q = Ev ((m, pc, ls, zI (s1 52 0 0) :: st) :: fs) s1 Q) ∧ (∀ g : Nat, ¬ g = 52 → s1 g = s g) ∧ BstM s t 0 (s1 52 0 0) := by
  have b0 : ((0 : Int) ≤ 8 ∧ (8 : Int) < 9) = True := eq_true (by omega)
  obtain ⟨s1, c1, c2, c3⟩ := lp9o t hR 8 7 (zup s 52 0 8 0) zU zU zU zU zU (by omega) (by omega) (fun g hg => zup_ng hg) (fun j j0 j1 => by
    have : j = 8 := by omega
    rw [this, zup_eq]
    exact Bst_8 (fun i i0 i1 => (hR.2.2.2 i i0 i1).2.2.1.2))
  refine ⟨s1, fun m pc ls st fs Q => ?_, c2, c3⟩
  simp only [r9_0, r9_1, r9_4, r9_6, r9_7, r9_8, r9_10, b0, zak_40, zln_40, zak_41, zln_41, zak_42, zln_42, zak_43, zln_43, zak_44, zln_44, zak_45, zln_45, zak_46, zln_46, zak_47, zln_47, zak_48, zln_48, zak_49, zln_49, zak_50, zln_50, zak_51, zln_51, zak_52, zln_52, zak_53, zln_53, zak_54, zln_54, zak_55, zln_55, zak_73, zln_73, zak_74, zln_74, zak_75, zln_75, zak_76, zln_76, zak_77, zln_77, zak_78, zln_78, zak_79, zln_79, zak_80, zln_80, zak_81, zln_81, zak_82, zln_82, zak_83, zln_83, zak_84, zln_84, zak_85, zln_85, zak_86, zln_86, zak_87, zln_87, zak_88, zln_88, zak_89, zln_89, zak_90, zln_90, zak_91, zln_91, zak_92, zln_92, zak_93, zln_93, zak_94, zln_94, zak_95, zln_95, zak_96, zln_96, zak_97, zln_97, zak_98, zln_98, zak_99, zln_99, zak_100, zln_100, zak_101, zln_101, zak_102, zln_102, zak_103, zln_103, zak_104, zln_104, zak_105, zln_105, zak_108, zln_108, zak_109, zln_109, Nat.reduceLeDiff, zclr_I, zclr_R, zclr_L, zclr_U, reduceIte, Int.reduceEq, Int.reduceLT, Int.reduceLE, Int.reduceNeg, not_true_eq_false, not_false_eq_true, or_true, true_or, or_false, false_or, and_true, true_and, and_false, false_and, z01_or]
  exact c1 m pc ls st fs Q
theorem AskR_I {L : Nat} {s : zS} (hs : Inv L s) {t : Int} : AskR s t := by
  obtain ⟨h1, h2, h3, h4, h5, h6, h7, h8, h9, h10, h11, h12, h13, h14, h15, h16, h17, h18, h19, h20⟩ := id hs
  refine ⟨h8.1, h8.2.1, h8.2.2, fun i i0 i1 => ?_⟩
  obtain ⟨k1, k2, k3, k4⟩ := h19.1 i i0 i1
  have h50 := h5.2
  refine ⟨⟨k1.1, k2.1, k2.2.1, k3.1⟩, by omega, by omega, k3.2, fun e => ?_⟩
  have := suit_cm hs i0 i1
  rw [e] at this
  exact this

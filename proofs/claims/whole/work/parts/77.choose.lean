theorem zdiv_p {x y : Int} (h0 : 0 ≤ x) (h1 : x < 2147483648) (y0 : 0 < y) (y1 : y < 2147483648) : zdiv x y = x / y := by
  unfold zdiv
  have e : 0 ≤ x / y := Int.ediv_nonneg h0 (by omega)
  have e2 : x / y ≤ x := Int.ediv_le_self y h0
  rw [Int32.toInt_div, zn_ti (by omega) h1, zn_ti (by omega) y1, Int.tdiv_eq_ediv_of_nonneg h0, Int.bmod_def]
  omega
section
variable {m pc : Nat} {ls st : List zV} {fs : List zFr} {s : zS} {Q : List zV → zS → Prop}
theorem k_payIn (P w : Int) (P0 : 0 ≤ P) (P1 : P ≤ 10000) (w0 : 0 ≤ w) (w1 : w < 1024) : Ev ((10, 0, [zI (1024 * P - w)], []) :: (m, pc, ls, st) :: fs) s Q = Ev ((m, pc, ls, zI P :: st) :: fs) s Q := by
  have a1 : w32 (1024 * P - w + 1024) = 1024 * P - w + 1024 := w32_id (by omega) (by omega)
  have a2 : w32 (1024 * P - w + 1024 - 1) = 1024 * P - w + 1024 - 1 := w32_id (by omega) (by omega)
  have a3 : zdiv (1024 * P - w + 1024 - 1) 1024 = P := by rw [zdiv_p (by omega) (by omega) (by omega) (by omega)]; omega
  have a4 : ((1024 : Int) = 0) = False := eq_false (by omega)
  simp only [r10_0, r10_1, r10_4, r10_5, r10_6, r10_7, r10_10, r10_11, a1, a2, a3, a4, zclr_I, zclr_R, zclr_L, zclr_U, reduceIte, Int.reduceEq, Int.reduceLT, Int.reduceLE, Int.reduceNeg, not_true_eq_false, not_false_eq_true, or_true, true_or, or_false, false_or, and_true, true_and, and_false, false_and, z01_or]
theorem k_asksIn (P w : Int) (P0 : 0 ≤ P) (P1 : P ≤ 10000) (w0 : 0 ≤ w) (w1 : w < 1024) : Ev ((11, 0, [zI (1024 * P - w)], []) :: (m, pc, ls, st) :: fs) s Q = Ev ((m, pc, ls, zI w :: st) :: fs) s Q := by
  have a1 : w32 (P * 1024) = P * 1024 := w32_id (by omega) (by omega)
  have a2 : w32 (P * 1024 - (1024 * P - w)) = w := by rw [w32_id (by omega) (by omega)]; omega
  simp only [r11_0, r11_1, r11_4, r11_7, r11_8, r11_9, r11_10, k_payIn P w P0 P1 w0 w1, a1, a2, zclr_I, zclr_R, zclr_L, zclr_U, reduceIte, Int.reduceEq, Int.reduceLT, Int.reduceLE, Int.reduceNeg, not_true_eq_false, not_false_eq_true, or_true, true_or, or_false, false_or, and_true, true_and, and_false, false_and, z01_or]
end
theorem okM_c {s s' : zS} (h : ∀ g : Nat, ¬ g = 52 → s' g = s g) (t : Int) : payM s' t = payM s t ∧ (AskR s t → AskR s' t) := by
  constructor
  · funext x
    have e : badA s' t x = badA s t x := by
      funext a
      unfold badA suitM apM
      rw [h 94 (by omega), h 95 (by omega), h 96 (by omega), h 87 (by omega), h 86 (by omega), h 11 (by omega)]
    unfold payM
    rw [e, h 11 (by omega), h 97 (by omega)]
  · unfold AskR suitC suitM
    rw [h 1 (by omega), h 11 (by omega), h 0 (by omega), h 94 (by omega), h 95 (by omega), h 96 (by omega), h 97 (by omega), h 87 (by omega), h 86 (by omega), h 8 (by omega)]
    exact id
theorem Sm_52 {s s1 : zS} (h : ∀ g : Nat, ¬ g = 52 → s1 g = s g) : Sm s s1 := fun g hg => h g (fun e => hg (by rw [e]; unfold Scr; omega))
theorem pr_choice (L : Nat) : Pr_choice (Inv L) := by
  intro a b ha hbr s hs
  obtain ⟨h1, h2, h3, h4, h5, h6⟩ := id hs
  have eT := h5.1
  have h50 := h5.2
  have w0 : w32 (s 11 0 1 - 1) = s 11 0 1 - 1 := w32_id (by omega) (by omega)
  by_cases hc : 0 ≤ a ∧ a < s 6 0 3
  · have q1 := z01_t hc
    have q2 : z01 (0 ≤ a ∧ a ≤ s 11 0 1 - 1) = 1 := z01_t (by omega)
    have b1 : (0 ≤ a ∧ a < 5) = True := eq_true (by omega)
    have hR : AskR s a := AskR_I hs
    obtain ⟨s1, c1, c2, c3⟩ := k_best a hR
    obtain ⟨eP, hR1⟩ := okM_c c2 a
    obtain ⟨w, d0, d1, d2, d3⟩ := k_choiceOf (hR1 hR)
    obtain ⟨w', d0', d1', d2', d3'⟩ := k_choiceOf hR
    have f11 : s1 11 = s 11 := c2 11 (by omega)
    have eB : BstM s1 a 0 (s1 52 0 0) := by
      have : ∀ b : Int, BstM s1 a 0 b = BstM s a 0 b := by
        intro b
        unfold BstM
        have e : okM s1 a = okM s a := by
          funext i
          unfold okM suitM
          rw [c2 94 (by omega), c2 87 (by omega), c2 86 (by omega), c2 95 (by omega), c2 96 (by omega), f11]
        rw [e, f11, c2 95 (by omega), c2 96 (by omega), c2 97 (by omega)]
      rw [this]; exact c3
    have v := d3 _ eB
    have S1 : Sm s s1 := Sm_52 c2
    rcases hbr with rfl | rfl
    · refine ⟨w, s1, s1, ?_, ?_, Inv_Sm S1 hs, c2 110 (by omega), c2 111 (by omega)⟩ <;> intro m pc ls st fs Q
      · simp only [r102_0, r102_1, r102_4, r102_5, r102_8, r102_11, r102_12, r102_14, r102_17, r102_18, r102_19, r102_22, r102_23, r102_24, r102_27, r102_30, r102_31, r102_32, r102_35, r102_36, r102_37, r102_40, r102_41, r102_44, r102_47, r102_48, r102_51, k_hasTeacher, q1, b1, zak_40, zln_40, zak_41, zln_41, zak_42, zln_42, zak_43, zln_43, zak_44, zln_44, zak_45, zln_45, zak_46, zln_46, zak_47, zln_47, zak_48, zln_48, zak_49, zln_49, zak_50, zln_50, zak_51, zln_51, zak_52, zln_52, zak_53, zln_53, zak_54, zln_54, zak_55, zln_55, zak_73, zln_73, zak_74, zln_74, zak_75, zln_75, zak_76, zln_76, zak_77, zln_77, zak_78, zln_78, zak_79, zln_79, zak_80, zln_80, zak_81, zln_81, zak_82, zln_82, zak_83, zln_83, zak_84, zln_84, zak_85, zln_85, zak_86, zln_86, zak_87, zln_87, zak_88, zln_88, zak_89, zln_89, zak_90, zln_90, zak_91, zln_91, zak_92, zln_92, zak_93, zln_93, zak_94, zln_94, zak_95, zln_95, zak_96, zln_96, zak_97, zln_97, zak_98, zln_98, zak_99, zln_99, zak_100, zln_100, zak_101, zln_101, zak_102, zln_102, zak_103, zln_103, zak_104, zln_104, zak_105, zln_105, zak_108, zln_108, zak_109, zln_109, Nat.reduceLeDiff, zclr_I, zclr_R, zclr_L, zclr_U, reduceIte, Int.reduceEq, Int.reduceLT, Int.reduceLE, Int.reduceNeg, not_true_eq_false, not_false_eq_true, or_true, true_or, or_false, false_or, and_true, true_and, and_false, false_and, z01_or]
        rw [c1, v]
        simp only [r102_0, r102_1, r102_4, r102_5, r102_8, r102_11, r102_12, r102_14, r102_17, r102_18, r102_19, r102_22, r102_23, r102_24, r102_27, r102_30, r102_31, r102_32, r102_35, r102_36, r102_37, r102_40, r102_41, r102_44, r102_47, r102_48, r102_51, k_asksIn _ w d2.1 d2.2 d1.1 d1.2, zclr_I, zclr_R, zclr_L, zclr_U, reduceIte, Int.reduceEq, Int.reduceLT, Int.reduceLE, Int.reduceNeg, not_true_eq_false, not_false_eq_true, or_true, true_or, or_false, false_or, and_true, true_and, and_false, false_and, z01_or]
      · simp only [r179_0, r179_1, r179_2, r179_5, r179_8, r179_9, r179_11, r179_14, r179_15, r179_16, r179_17, r179_20, r179_21, r179_22, r179_25, r179_26, r179_27, r179_28, r179_31, r179_34, r179_35, k_isTeacher, f11, w0, q2, d0, zclr_I, zclr_R, zclr_L, zclr_U, reduceIte, Int.reduceEq, Int.reduceLT, Int.reduceLE, Int.reduceNeg, not_true_eq_false, not_false_eq_true, or_true, true_or, or_false, false_or, and_true, true_and, and_false, false_and, z01_or]
    · refine ⟨payM s1 a w, s1, s1, ?_, ?_, Inv_Sm S1 hs, c2 110 (by omega), c2 111 (by omega)⟩ <;> intro m pc ls st fs Q
      · simp only [r102_0, r102_1, r102_4, r102_5, r102_8, r102_11, r102_12, r102_14, r102_17, r102_18, r102_19, r102_22, r102_23, r102_24, r102_27, r102_30, r102_31, r102_32, r102_35, r102_36, r102_37, r102_40, r102_41, r102_44, r102_47, r102_48, r102_51, k_hasTeacher, q1, b1, zak_40, zln_40, zak_41, zln_41, zak_42, zln_42, zak_43, zln_43, zak_44, zln_44, zak_45, zln_45, zak_46, zln_46, zak_47, zln_47, zak_48, zln_48, zak_49, zln_49, zak_50, zln_50, zak_51, zln_51, zak_52, zln_52, zak_53, zln_53, zak_54, zln_54, zak_55, zln_55, zak_73, zln_73, zak_74, zln_74, zak_75, zln_75, zak_76, zln_76, zak_77, zln_77, zak_78, zln_78, zak_79, zln_79, zak_80, zln_80, zak_81, zln_81, zak_82, zln_82, zak_83, zln_83, zak_84, zln_84, zak_85, zln_85, zak_86, zln_86, zak_87, zln_87, zak_88, zln_88, zak_89, zln_89, zak_90, zln_90, zak_91, zln_91, zak_92, zln_92, zak_93, zln_93, zak_94, zln_94, zak_95, zln_95, zak_96, zln_96, zak_97, zln_97, zak_98, zln_98, zak_99, zln_99, zak_100, zln_100, zak_101, zln_101, zak_102, zln_102, zak_103, zln_103, zak_104, zln_104, zak_105, zln_105, zak_108, zln_108, zak_109, zln_109, Nat.reduceLeDiff, zclr_I, zclr_R, zclr_L, zclr_U, reduceIte, Int.reduceEq, Int.reduceLT, Int.reduceLE, Int.reduceNeg, not_true_eq_false, not_false_eq_true, or_true, true_or, or_false, false_or, and_true, true_and, and_false, false_and, z01_or]
        rw [c1, v]
        simp only [r102_0, r102_1, r102_4, r102_5, r102_8, r102_11, r102_12, r102_14, r102_17, r102_18, r102_19, r102_22, r102_23, r102_24, r102_27, r102_30, r102_31, r102_32, r102_35, r102_36, r102_37, r102_40, r102_41, r102_44, r102_47, r102_48, r102_51, k_payIn _ w d2.1 d2.2 d1.1 d1.2, zclr_I, zclr_R, zclr_L, zclr_U, reduceIte, Int.reduceEq, Int.reduceLT, Int.reduceLE, Int.reduceNeg, not_true_eq_false, not_false_eq_true, or_true, true_or, or_false, false_or, and_true, true_and, and_false, false_and, z01_or]
      · simp only [r179_0, r179_1, r179_2, r179_5, r179_8, r179_9, r179_11, r179_14, r179_15, r179_16, r179_17, r179_20, r179_21, r179_22, r179_25, r179_26, r179_27, r179_28, r179_31, r179_34, r179_35, k_isTeacher, f11, w0, q2, d0, k_payOf a w d1.1 d1.2 (hR1 hR), zclr_I, zclr_R, zclr_L, zclr_U, reduceIte, Int.reduceEq, Int.reduceLT, Int.reduceLE, Int.reduceNeg, not_true_eq_false, not_false_eq_true, or_true, true_or, or_false, false_or, and_true, true_and, and_false, false_and, z01_or]
  · have q1 := z01_f hc
    have q2 : z01 (0 ≤ a ∧ a ≤ s 11 0 1 - 1) = 0 := z01_f (by omega)
    refine pf (-1000001) hs ?_ ?_ <;> intro m pc ls st fs Q
    · simp only [r102_0, r102_1, r102_4, r102_5, r102_8, r102_11, r102_12, r102_14, r102_17, r102_18, r102_19, r102_22, r102_23, r102_24, r102_27, r102_30, r102_31, r102_32, r102_35, r102_36, r102_37, r102_40, r102_41, r102_44, r102_47, r102_48, r102_51, k_hasTeacher, k_finding, q1, zclr_I, zclr_R, zclr_L, zclr_U, reduceIte, Int.reduceEq, Int.reduceLT, Int.reduceLE, Int.reduceNeg, not_true_eq_false, not_false_eq_true, or_true, true_or, or_false, false_or, and_true, true_and, and_false, false_and, z01_or]
    · simp only [r179_0, r179_1, r179_2, r179_5, r179_8, r179_9, r179_11, r179_14, r179_15, r179_16, r179_17, r179_20, r179_21, r179_22, r179_25, r179_26, r179_27, r179_28, r179_31, r179_34, r179_35, k_isTeacher, k_finds, zup_g, Nat.reduceEqDiff, w0, q2, zclr_I, zclr_R, zclr_L, zclr_U, reduceIte, Int.reduceEq, Int.reduceLT, Int.reduceLE, Int.reduceNeg, not_true_eq_false, not_false_eq_true, or_true, true_or, or_false, false_or, and_true, true_and, and_false, false_and, z01_or]
theorem hb_01 (x n : Int) : hb x n = 0 ∨ hb x n = 1 := by
  unfold hb
  by_cases h : tb x n = true
  · rw [if_pos h]; exact Or.inr rfl
  · rw [if_neg h]; exact Or.inl rfl
theorem lpB12 (t w : Int) (w0 : 0 ≤ w) (w1 : w < 1024) : ∀ (k : Nat) (i : Int) (s : zS), 0 ≤ i → i + k = s 1 0 1 → s 1 0 1 ≤ 10 → ∃ s1 : zS, (∀ (m pc : Nat) (ls st : List zV) (fs : List zFr) (Q : List zV → zS → Prop), Ev ((12, 2, [zR 1 0, zI t, zI w, zI i], []) :: (m, pc, ls, st) :: fs) s Q = Ev ((m, pc, ls, st) :: fs) s1 Q) ∧ (∀ g : Nat, ¬ g = 0 → s1 g = s g) ∧ (∀ j l : Int, ¬ l = 4 → s1 0 j l = s 0 j l) ∧ ∀ j : Int, s1 0 j 4 = if (i ≤ j ∧ j < s 1 0 1) ∧ s 0 j 0 = t then hb w j else s 0 j 4 := by
  intro k
  induction k with
  | zero =>
    intro i s h0 h1 h2
    have e1 : (s 1 0 1 ≤ i) = True := eq_true (by omega)
    refine ⟨s, fun m pc ls st fs Q => ?_, fun _ _ => rfl, fun _ _ _ => rfl, fun j => by rw [if_neg (by omega)]⟩
    rw [r12_2]
    simp only [r12_0, r12_1, r12_3, r12_4, r12_7, r12_10, r12_11, r12_14, r12_15, r12_16, r12_19, r12_20, r12_23, r12_24, r12_27, r12_28, r12_29, r12_30, r12_31, r12_34, r12_37, r12_40, r12_43, e1, zclr_I, zclr_R, zclr_L, zclr_U, reduceIte, Int.reduceEq, Int.reduceLT, Int.reduceLE, Int.reduceNeg, not_true_eq_false, not_false_eq_true, or_true, true_or, or_false, false_or, and_true, true_and, and_false, false_and, z01_or]
  | succ k ih =>
    intro i s h0 h1 h2
    have e1 : (s 1 0 1 ≤ i) = False := eq_false (by omega)
    have b1 : (0 ≤ i ∧ i < 10) = True := eq_true (by omega)
    have u1 : w32 (i + 1) = i + 1 := w32_id (by omega) (by omega)
    have c3 := has_c w0 w1 h0 (show i < 10 by omega)
    have z1 := eq_true (hb_01 w i)
    by_cases hc : s 0 i 0 = t
    · have f1 : zup s 0 i 4 (hb w i) 1 = s 1 := zup_ng (by omega)
      obtain ⟨s1, d0, d1, d2, d3⟩ := ih (i + 1) (zup s 0 i 4 (hb w i)) (by omega) (by rw [f1]; omega) (by rw [f1]; exact h2)
      rw [f1] at d3
      refine ⟨s1, fun m pc ls st fs Q => ?_, fun g hg => by rw [d1 g hg, zup_ng hg], fun j l hl => by rw [d2 j l hl, zup_nk hl], fun j => ?_⟩
      · have hc := eq_true hc
        rw [r12_2]
        simp only [r12_0, r12_1, r12_3, r12_4, r12_7, r12_10, r12_11, r12_14, r12_15, r12_16, r12_19, r12_20, r12_23, r12_24, r12_27, r12_28, r12_29, r12_30, r12_31, r12_34, r12_37, r12_40, r12_43, k_has, e1, b1, hc, c3, z1, u1, zak_40, zln_40, zak_41, zln_41, zak_42, zln_42, zak_43, zln_43, zak_44, zln_44, zak_45, zln_45, zak_46, zln_46, zak_47, zln_47, zak_48, zln_48, zak_49, zln_49, zak_50, zln_50, zak_51, zln_51, zak_52, zln_52, zak_53, zln_53, zak_54, zln_54, zak_55, zln_55, zak_73, zln_73, zak_74, zln_74, zak_75, zln_75, zak_76, zln_76, zak_77, zln_77, zak_78, zln_78, zak_79, zln_79, zak_80, zln_80, zak_81, zln_81, zak_82, zln_82, zak_83, zln_83, zak_84, zln_84, zak_85, zln_85, zak_86, zln_86, zak_87, zln_87, zak_88, zln_88, zak_89, zln_89, zak_90, zln_90, zak_91, zln_91, zak_92, zln_92, zak_93, zln_93, zak_94, zln_94, zak_95, zln_95, zak_96, zln_96, zak_97, zln_97, zak_98, zln_98, zak_99, zln_99, zak_100, zln_100, zak_101, zln_101, zak_102, zln_102, zak_103, zln_103, zak_104, zln_104, zak_105, zln_105, zak_108, zln_108, zak_109, zln_109, Nat.reduceLeDiff, zclr_I, zclr_R, zclr_L, zclr_U, reduceIte, Int.reduceEq, Int.reduceLT, Int.reduceLE, Int.reduceNeg, not_true_eq_false, not_false_eq_true, or_true, true_or, or_false, false_or, and_true, true_and, and_false, false_and, z01_or]
        exact d0 m pc ls st fs Q
      · rw [d3 j, zup_nk (show ¬ (0 : Int) = 4 by omega)]
        by_cases e : j = i
        · subst e
          rw [if_neg (by omega), if_pos ⟨by omega, hc⟩, zup_eq]
        · rw [zup_ni e]
          by_cases c : (i + 1 ≤ j ∧ j < s 1 0 1) ∧ s 0 j 0 = t
          · rw [if_pos c, if_pos (by omega)]
          · rw [if_neg c, if_neg (by omega)]
    · obtain ⟨s1, d0, d1, d2, d3⟩ := ih (i + 1) s (by omega) (by omega) h2
      refine ⟨s1, fun m pc ls st fs Q => ?_, d1, d2, fun j => ?_⟩
      · rw [r12_2]
        simp only [r12_0, r12_1, r12_3, r12_4, r12_7, r12_10, r12_11, r12_14, r12_15, r12_16, r12_19, r12_20, r12_23, r12_24, r12_27, r12_28, r12_29, r12_30, r12_31, r12_34, r12_37, r12_40, r12_43, e1, b1, hc, u1, zak_40, zln_40, zak_41, zln_41, zak_42, zln_42, zak_43, zln_43, zak_44, zln_44, zak_45, zln_45, zak_46, zln_46, zak_47, zln_47, zak_48, zln_48, zak_49, zln_49, zak_50, zln_50, zak_51, zln_51, zak_52, zln_52, zak_53, zln_53, zak_54, zln_54, zak_55, zln_55, zak_73, zln_73, zak_74, zln_74, zak_75, zln_75, zak_76, zln_76, zak_77, zln_77, zak_78, zln_78, zak_79, zln_79, zak_80, zln_80, zak_81, zln_81, zak_82, zln_82, zak_83, zln_83, zak_84, zln_84, zak_85, zln_85, zak_86, zln_86, zak_87, zln_87, zak_88, zln_88, zak_89, zln_89, zak_90, zln_90, zak_91, zln_91, zak_92, zln_92, zak_93, zln_93, zak_94, zln_94, zak_95, zln_95, zak_96, zln_96, zak_97, zln_97, zak_98, zln_98, zak_99, zln_99, zak_100, zln_100, zak_101, zln_101, zak_102, zln_102, zak_103, zln_103, zak_104, zln_104, zak_105, zln_105, zak_108, zln_108, zak_109, zln_109, Nat.reduceLeDiff, zclr_I, zclr_R, zclr_L, zclr_U, reduceIte, Int.reduceEq, Int.reduceLT, Int.reduceLE, Int.reduceNeg, not_true_eq_false, not_false_eq_true, or_true, true_or, or_false, false_or, and_true, true_and, and_false, false_and, z01_or]
        exact d0 m pc ls st fs Q
      · rw [d3 j]
        by_cases e : j = i
        · subst e
          rw [if_neg (by omega), if_neg (fun z => hc z.2)]
        · by_cases c : (i + 1 ≤ j ∧ j < s 1 0 1) ∧ s 0 j 0 = t
          · rw [if_pos c, if_pos (by omega)]
          · rw [if_neg c, if_neg (by omega)]
theorem lp180 (t w : Int) (w0 : 0 ≤ w) (w1 : w < 1024) : ∀ (k : Nat) (i : Int) (s : zS), 0 ≤ i → i + k = s 11 0 4 → s 11 0 4 ≤ 10 → ∃ s1 : zS, (∀ (F : List zFr) (Q : List zV → zS → Prop), Ev ((180, 23, [zR 11 0, zI t, zI w, zI i], []) :: F) s Q = Ev ((180, 58, [zR 11 0, zI t, zI w, zI (s 11 0 4)], []) :: F) s1 Q) ∧ (∀ g : Nat, ¬ g = 98 → s1 g = s g) ∧ ∀ j : Int, s1 98 0 j = if (i ≤ j ∧ j < s 11 0 4) ∧ s 94 0 j = t then hb w j else s 98 0 j := by
  intro k
  induction k with
  | zero =>
    intro i s h0 h1 h2
    have e1 : (s 11 0 4 ≤ i) = True := eq_true (by omega)
    have e2 : i = s 11 0 4 := by omega
    refine ⟨s, fun F Q => ?_, fun _ _ => rfl, fun j => by rw [if_neg (by omega)]⟩
    rw [r180_23]
    simp only [r180_24, r180_25, r180_28, r180_31, r180_32, r180_35, r180_36, r180_37, r180_38, r180_41, r180_42, r180_45, r180_46, r180_47, r180_48, r180_51, r180_52, r180_55, e1, zclr_I, zclr_R, zclr_L, zclr_U, reduceIte, Int.reduceEq, Int.reduceLT, Int.reduceLE, Int.reduceNeg, not_true_eq_false, not_false_eq_true, or_true, true_or, or_false, false_or, and_true, true_and, and_false, false_and, z01_or]
    rw [e2]
  | succ k ih =>
    intro i s h0 h1 h2
    have e1 : (s 11 0 4 ≤ i) = False := eq_false (by omega)
    have b1 : (0 ≤ i ∧ i < 10) = True := eq_true (by omega)
    have u1 : w32 (i + 1) = i + 1 := w32_id (by omega) (by omega)
    have c3 := has_m w0 w1 h0 (show i < 10 by omega)
    have z1 := eq_true (hb_01 w i)
    by_cases hc : s 94 0 i = t
    · have f1 : zup s 98 0 i (hb w i) 11 = s 11 := zup_ng (by omega)
      have f2 : zup s 98 0 i (hb w i) 94 = s 94 := zup_ng (by omega)
      obtain ⟨s1, d0, d1, d3⟩ := ih (i + 1) (zup s 98 0 i (hb w i)) (by omega) (by rw [f1]; omega) (by rw [f1]; exact h2)
      rw [f1] at d0 d3
      rw [f2] at d3
      refine ⟨s1, fun F Q => ?_, fun g hg => by rw [d1 g hg, zup_ng hg], fun j => ?_⟩
      · have hc := eq_true hc
        rw [r180_23]
        simp only [r180_24, r180_25, r180_28, r180_31, r180_32, r180_35, r180_36, r180_37, r180_38, r180_41, r180_42, r180_45, r180_46, r180_47, r180_48, r180_51, r180_52, r180_55, k_hasM, e1, b1, hc, c3, z1, u1, zak_40, zln_40, zak_41, zln_41, zak_42, zln_42, zak_43, zln_43, zak_44, zln_44, zak_45, zln_45, zak_46, zln_46, zak_47, zln_47, zak_48, zln_48, zak_49, zln_49, zak_50, zln_50, zak_51, zln_51, zak_52, zln_52, zak_53, zln_53, zak_54, zln_54, zak_55, zln_55, zak_73, zln_73, zak_74, zln_74, zak_75, zln_75, zak_76, zln_76, zak_77, zln_77, zak_78, zln_78, zak_79, zln_79, zak_80, zln_80, zak_81, zln_81, zak_82, zln_82, zak_83, zln_83, zak_84, zln_84, zak_85, zln_85, zak_86, zln_86, zak_87, zln_87, zak_88, zln_88, zak_89, zln_89, zak_90, zln_90, zak_91, zln_91, zak_92, zln_92, zak_93, zln_93, zak_94, zln_94, zak_95, zln_95, zak_96, zln_96, zak_97, zln_97, zak_98, zln_98, zak_99, zln_99, zak_100, zln_100, zak_101, zln_101, zak_102, zln_102, zak_103, zln_103, zak_104, zln_104, zak_105, zln_105, zak_108, zln_108, zak_109, zln_109, Nat.reduceLeDiff, zclr_I, zclr_R, zclr_L, zclr_U, reduceIte, Int.reduceEq, Int.reduceLT, Int.reduceLE, Int.reduceNeg, not_true_eq_false, not_false_eq_true, or_true, true_or, or_false, false_or, and_true, true_and, and_false, false_and, z01_or]
        exact d0 F Q
      · rw [d3 j]
        by_cases e : j = i
        · subst e
          rw [if_neg (by omega), if_pos ⟨by omega, hc⟩, zup_eq]
        · rw [zup_nk e]
          by_cases c : (i + 1 ≤ j ∧ j < s 11 0 4) ∧ s 94 0 j = t
          · rw [if_pos c, if_pos (by omega)]
          · rw [if_neg c, if_neg (by omega)]
    · obtain ⟨s1, d0, d1, d3⟩ := ih (i + 1) s (by omega) (by omega) h2
      refine ⟨s1, fun F Q => ?_, d1, fun j => ?_⟩
      · rw [r180_23]
        simp only [r180_24, r180_25, r180_28, r180_31, r180_32, r180_35, r180_36, r180_37, r180_38, r180_41, r180_42, r180_45, r180_46, r180_47, r180_48, r180_51, r180_52, r180_55, e1, b1, hc, u1, zak_40, zln_40, zak_41, zln_41, zak_42, zln_42, zak_43, zln_43, zak_44, zln_44, zak_45, zln_45, zak_46, zln_46, zak_47, zln_47, zak_48, zln_48, zak_49, zln_49, zak_50, zln_50, zak_51, zln_51, zak_52, zln_52, zak_53, zln_53, zak_54, zln_54, zak_55, zln_55, zak_73, zln_73, zak_74, zln_74, zak_75, zln_75, zak_76, zln_76, zak_77, zln_77, zak_78, zln_78, zak_79, zln_79, zak_80, zln_80, zak_81, zln_81, zak_82, zln_82, zak_83, zln_83, zak_84, zln_84, zak_85, zln_85, zak_86, zln_86, zak_87, zln_87, zak_88, zln_88, zak_89, zln_89, zak_90, zln_90, zak_91, zln_91, zak_92, zln_92, zak_93, zln_93, zak_94, zln_94, zak_95, zln_95, zak_96, zln_96, zak_97, zln_97, zak_98, zln_98, zak_99, zln_99, zak_100, zln_100, zak_101, zln_101, zak_102, zln_102, zak_103, zln_103, zak_104, zln_104, zak_105, zln_105, zak_108, zln_108, zak_109, zln_109, Nat.reduceLeDiff, zclr_I, zclr_R, zclr_L, zclr_U, reduceIte, Int.reduceEq, Int.reduceLT, Int.reduceLE, Int.reduceNeg, not_true_eq_false, not_false_eq_true, or_true, true_or, or_false, false_or, and_true, true_and, and_false, false_and, z01_or]
        exact d0 F Q
      · rw [d3 j]
        by_cases e : j = i
        · subst e
          rw [if_neg (by omega), if_neg (fun z => hc z.2)]
        · by_cases c : (i + 1 ≤ j ∧ j < s 11 0 4) ∧ s 94 0 j = t
          · rw [if_pos c, if_pos (by omega)]
          · rw [if_neg c, if_neg (by omega)]

theorem k_find {L : Nat} {s : zS} (hs : Inv L s) (noon : Int) (hn : noon = 0 ∨ noon = 1) : ∃ (s1 : zS) (R : Int), (∀ (m pc : Nat) (ls st : List zV) (fs : List zFr) (Q : List zV → zS → Prop), Ev ((148, 0, [zR 11 0, zI noon, zU, zU, zU, zU, zU, zU], []) :: (m, pc, ls, st) :: fs) s Q = Ev ((m, pc, ls, zI R :: st) :: fs) s1 Q) ∧ Sm s s1 ∧ (0 ≤ R ∧ R ≤ 1000000000) ∧ (∀ A : Int → Int, VA (okS s) 0 (s 11 0 1) (s 6 0 4) A → R ≤ CA (cR s noon) 0 (s 11 0 1) A) ∧ (R < 1000000000 → FinR (okS s) (cR s noon) (s 11 0 1) (s 6 0 4) R (fun u => s1 104 0 u)) := by
  have hO := CsO_I hs noon
  obtain ⟨h1, h2, h3, h4, h5, h6, h7, h8, h9, h10, h11, h12, h13, h14, h15, h16⟩ := id hs
  obtain ⟨H0, H1, -⟩ := id h14
  have h50 := h5.2
  obtain ⟨sA, w4, a1, a2, a3⟩ := lp148b hs noon hn zU zU zU (s 6 0 4 + 1).toNat 0 s zU (by omega) (by omega) (Sm_r s) (fun y y0 y1 => by omega)
  have e11 : sA 11 = s 11 := a2 11 (by unfold Scr; omega)
  have hP : ∀ u : Int, 0 ≤ u → u < s 11 0 1 → PrR (okS s) (cR s noon) (s 6 0 4) u (fun y => sA 103 0 (1024 * u + y)) := by
    intro u u0 u1 y y0 yH
    have yl := SubB_le y0 H0 yH
    have e := (a3 y y0 yl).2 u u0 u1
    unfold prV at e
    rw [if_pos ((sub_z y0 (by omega) H0 H1).mpr yH)] at e
    unfold cst at e
    show (y = 0 ∧ sA 103 0 (1024 * u + y) = 0) ∨ (0 < y ∧ okS s u y ∧ sA 103 0 (1024 * u + y) = cR s noon u y) ∨ (0 < y ∧ ¬ okS s u y ∧ sA 103 0 (1024 * u + y) = 1000000000)
    by_cases c0 : y = 0
    · rw [if_pos c0] at e; exact Or.inl ⟨c0, e⟩
    · rw [if_neg c0] at e
      by_cases c1 : mayM s u y = 0
      · rw [if_pos c1] at e; exact Or.inr (Or.inl ⟨by omega, ⟨⟨by omega, by omega⟩, yH, c1⟩, e⟩)
      · rw [if_neg c1] at e; exact Or.inr (Or.inr ⟨by omega, fun z => c1 z.2.2, e⟩)
  obtain ⟨sB, x4, x5, x6, x7, b1, b2, b3⟩ := lp148e hO noon (s 11 0 1).toNat (s 11 0 1 - 1) sA w4 zU zU zU (by omega) (by omega) hP (fun u z u0 u1 z0 zH => by
    have eu : u = s 11 0 1 := by omega
    have zl := SubB_le z0 H0 zH
    rw [eu, (a3 z z0 zl).1]
    exact Wsp_T hO z0)
  have SB : Sm s sB := fun g hg => by rw [b2 g (fun e => hg (by rw [e]; unfold Scr; omega))]; exact a2 g hg
  have f11 : sB 11 = s 11 := SB 11 (by unfold Scr; omega)
  have f103 : sB 103 = sA 103 := b2 103 (by omega)
  have bH : (0 ≤ s 6 0 4 ∧ s 6 0 4 < 6144) = True := eq_true (by omega)
  have w1 : w32 (s 11 0 1 - 1) = s 11 0 1 - 1 := w32_id (by omega) (by omega)
  have e0 : (1024 : Int) * 0 + s 6 0 4 = s 6 0 4 := by omega
  have hR := b3 0 (s 6 0 4) (by omega) (by omega) H0 (fun _ _ h => h)
  rw [e0] at hR
  have kA := k_allHere hs
  have first : ∀ (m pc : Nat) (ls st : List zV) (fs : List zFr) (Q : List zV → zS → Prop), Ev ((148, 0, [zR 11 0, zI noon, zU, zU, zU, zU, zU, zU], []) :: (m, pc, ls, st) :: fs) s Q = Ev ((148, 268, [zR 11 0, zI noon, zI (s 6 0 4), zI (s 6 0 4), zI 0, x5, x6, x7], []) :: (m, pc, ls, st) :: fs) sB Q := by
    intro m pc ls st fs Q
    simp only [r148_0, r148_1, r148_4, r148_5, r148_6, kA, zclr_I, zclr_R, zclr_L, zclr_U, reduceIte, Int.reduceEq, Int.reduceLT, Int.reduceLE, Int.reduceNeg, not_true_eq_false, not_false_eq_true, or_true, true_or, or_false, false_or, and_true, true_and, and_false, false_and, z01_or]
    rw [a1]
    simp only [r148_95, r148_96, r148_99, r148_100, r148_101, e11, w1, zclr_I, zclr_R, zclr_L, zclr_U, reduceIte, Int.reduceEq, Int.reduceLT, Int.reduceLE, Int.reduceNeg, not_true_eq_false, not_false_eq_true, or_true, true_or, or_false, false_or, and_true, true_and, and_false, false_and, z01_or]
    rw [b1]
    simp only [r148_263, r148_264, r148_265, r148_266, zclr_I, zclr_R, zclr_L, zclr_U, reduceIte, Int.reduceEq, Int.reduceLT, Int.reduceLE, Int.reduceNeg, not_true_eq_false, not_false_eq_true, or_true, true_or, or_false, false_or, and_true, true_and, and_false, false_and, z01_or]
  by_cases hF : sB 102 0 (s 6 0 4) < 1000000000
  · obtain ⟨s1, c1, c2, c3⟩ := lp148g hO noon (sB 102 0 (s 6 0 4)) hF x6 x7 (s 11 0 1).toNat 0 (s 6 0 4) sB x5 (by omega) (by omega) (by rw [f11]) (by rw [f103]; exact hP) b3 rfl H0 (fun _ _ h => h) (fun u u0 u1 => by omega) (fun u v u0 u1 => by omega) (fun q q0 => ⟨fun h => ⟨h, fun ⟨u, u0, u1, _⟩ => by omega⟩, fun h => h.1⟩) (by rw [CA_0 (by omega), e0]; omega) (fun B _ _ u u0 u1 => by omega)
    refine ⟨s1, sB 102 0 (s 6 0 4), fun m pc ls st fs Q => by rw [first, c1], fun g hg => ?_, hR.1, hR.2.1, fun _ => c3⟩
    rw [c2 g (fun e => hg (by rw [e]; unfold Scr; omega))]; exact SB g hg
  · refine ⟨sB, sB 102 0 (s 6 0 4), fun m pc ls st fs Q => ?_, SB, hR.1, hR.2.1, fun h => absurd h hF⟩
    have e2 : (1000000000 ≤ sB 102 0 (s 6 0 4)) = True := eq_true (by omega)
    rw [first, r148_268]
    by_cases c : s 11 0 1 ≤ 0
    · have e1 : (s 11 0 1 ≤ 0) = True := eq_true c
      simp only [r148_270, r148_271, r148_274, r148_398, r148_399, r148_402, r148_403, r148_404, f11, e1, bH, zak_40, zln_40, zak_41, zln_41, zak_42, zln_42, zak_43, zln_43, zak_44, zln_44, zak_45, zln_45, zak_46, zln_46, zak_47, zln_47, zak_48, zln_48, zak_49, zln_49, zak_50, zln_50, zak_51, zln_51, zak_52, zln_52, zak_53, zln_53, zak_54, zln_54, zak_55, zln_55, zak_73, zln_73, zak_74, zln_74, zak_75, zln_75, zak_76, zln_76, zak_77, zln_77, zak_78, zln_78, zak_79, zln_79, zak_80, zln_80, zak_81, zln_81, zak_82, zln_82, zak_83, zln_83, zak_84, zln_84, zak_85, zln_85, zak_86, zln_86, zak_87, zln_87, zak_88, zln_88, zak_89, zln_89, zak_90, zln_90, zak_91, zln_91, zak_92, zln_92, zak_93, zln_93, zak_94, zln_94, zak_95, zln_95, zak_96, zln_96, zak_97, zln_97, zak_98, zln_98, zak_99, zln_99, zak_100, zln_100, zak_101, zln_101, zak_102, zln_102, zak_103, zln_103, zak_104, zln_104, zak_105, zln_105, zak_108, zln_108, zak_109, zln_109, Nat.reduceLeDiff, zclr_I, zclr_R, zclr_L, zclr_U, reduceIte, Int.reduceEq, Int.reduceLT, Int.reduceLE, Int.reduceNeg, not_true_eq_false, not_false_eq_true, or_true, true_or, or_false, false_or, and_true, true_and, and_false, false_and, z01_or]
    · have e1 : (s 11 0 1 ≤ 0) = False := eq_false c
      simp only [r148_270, r148_271, r148_274, r148_277, r148_278, r148_281, r148_282, r148_283, r148_285, r148_398, r148_399, r148_402, r148_403, r148_404, f11, e1, e2, bH, zak_40, zln_40, zak_41, zln_41, zak_42, zln_42, zak_43, zln_43, zak_44, zln_44, zak_45, zln_45, zak_46, zln_46, zak_47, zln_47, zak_48, zln_48, zak_49, zln_49, zak_50, zln_50, zak_51, zln_51, zak_52, zln_52, zak_53, zln_53, zak_54, zln_54, zak_55, zln_55, zak_73, zln_73, zak_74, zln_74, zak_75, zln_75, zak_76, zln_76, zak_77, zln_77, zak_78, zln_78, zak_79, zln_79, zak_80, zln_80, zak_81, zln_81, zak_82, zln_82, zak_83, zln_83, zak_84, zln_84, zak_85, zln_85, zak_86, zln_86, zak_87, zln_87, zak_88, zln_88, zak_89, zln_89, zak_90, zln_90, zak_91, zln_91, zak_92, zln_92, zak_93, zln_93, zak_94, zln_94, zak_95, zln_95, zak_96, zln_96, zak_97, zln_97, zak_98, zln_98, zak_99, zln_99, zak_100, zln_100, zak_101, zln_101, zak_102, zln_102, zak_103, zln_103, zak_104, zln_104, zak_105, zln_105, zak_108, zln_108, zak_109, zln_109, Nat.reduceLeDiff, zclr_I, zclr_R, zclr_L, zclr_U, reduceIte, Int.reduceEq, Int.reduceLT, Int.reduceLE, Int.reduceNeg, not_true_eq_false, not_false_eq_true, or_true, true_or, or_false, false_or, and_true, true_and, and_false, false_and, z01_or]

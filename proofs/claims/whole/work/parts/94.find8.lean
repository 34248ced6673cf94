/-! the reference's search where the class has told its own answer already -/
def Sm8 (s0 s : zS) : Prop := ∀ g : Nat, ¬ Scr g → ¬ (g = 8 ∨ g = 10) → s g = s0 g
theorem Sm8_up {s s1 : zS} {g : Nat} (i k x : Int) (hg : Scr g ∨ g = 8 ∨ g = 10) (h : Sm8 s s1) : Sm8 s (zup s1 g i k x) := fun g' h' h'' => by
  rw [zup_ng (fun e => by subst e; exact hg.elim h' h'')]; exact h g' h' h''
theorem Sm8_S {s s1 : zS} (h : Sm s s1) : Sm8 s s1 := fun g h1 _ => h g h1
theorem k_costOf8 {L : Nat} {s0 s : zS} (hs : Inv L s0) (hS : Sm8 s0 s) (noon t x : Int) (hn : noon = 0 ∨ noon = 1) (t0 : 0 ≤ t) (t1 : t < s0 11 0 1) (x0 : 0 ≤ x) (xH : SubB x (s0 6 0 4)) (m pc : Nat) (ls st : List zV) (fs : List zFr) (Q : List zV → zS → Prop) : Ev ((147, 0, [zR 11 0, zI t, zI x, zI noon, zU, zU], []) :: (m, pc, ls, st) :: fs) s Q = Ev ((m, pc, ls, zI (cst s0 noon t x) :: st) :: fs) s Q := by
  obtain ⟨h1, h2, h3, h4, h5, h6, h7, h8, h9, h10, h11, h12, h13, h14, h15, h16⟩ := id hs
  have h40 := h4.2
  have h50 := h5.2
  have x1 : x < 1024 := by have := SubB_le x0 h14.1 xH; have := h14.2.1; omega
  have e11 : s 11 = s0 11 := hS 11 (by unfold Scr; omega) (by omega)
  have e86 : s 86 = s0 86 := hS 86 (by unfold Scr; omega) (by omega)
  have e79 : s 79 = s0 79 := hS 79 (by unfold Scr; omega) (by omega)
  have e78 : s 78 = s0 78 := hS 78 (by unfold Scr; omega) (by omega)
  have e74 : s 74 = s0 74 := hS 74 (by unfold Scr; omega) (by omega)
  unfold cst
  by_cases c0 : x = 0
  · rw [if_pos c0]
    simp only [r147_0, r147_1, r147_4, r147_5, c0, zclr_I, zclr_R, zclr_L, zclr_U, reduceIte, Int.reduceEq, Int.reduceLT, Int.reduceLE, Int.reduceNeg, not_true_eq_false, not_false_eq_true, or_true, true_or, or_false, false_or, and_true, true_and, and_false, false_and, z01_or]
  · rw [if_neg c0]
    obtain ⟨ag1, ag2, ag3, ag4, ag5, ag6⟩ := age_b hs (show 0 < x by omega) (hereP hs xH)
    have eo : oldM s x = oldM s0 x := by unfold oldM; rw [e11, e74]
    have ey : yngM s x = yngM s0 x := by unfold yngM; rw [e11, e74]
    have eM : mayM s t x = mayM s0 t x := mayM_c t x (fun g hg => hS g (by unfold Scr; omega) (by omega))
    have kM := fun (m pc : Nat) (ls st : List zV) (fs : List zFr) (Q : List zV → zS → Prop) => k_mayTeach (m := m) (pc := pc) (ls := ls) (st := st) (fs := fs) (Q := Q) (s := s) t x zU (by omega) x0 x1 (by rw [e11]; omega) (by rw [e11]; omega) (fun p p0 p1 => by rw [e11] at p1; rw [e78]; have := (h12 p p0 p1).2.2.2.2.1; omega) (by rw [eo, ey]; omega)
    by_cases c1 : mayM s0 t x = 0
    · rw [if_pos c1]
      simp only [r147_0, r147_1, r147_4, r147_5, r147_6, r147_7, r147_8, c0, zclr_I, zclr_R, zclr_L, zclr_U, reduceIte, Int.reduceEq, Int.reduceLT, Int.reduceLE, Int.reduceNeg, not_true_eq_false, not_false_eq_true, or_true, true_or, or_false, false_or, and_true, true_and, and_false, false_and, z01_or]
      rw [r147_9, kM, eM, c1]
      obtain ⟨bw, bm, bk⟩ := wM_b hs t0 t1 x0 x1
      obtain ⟨k1, k2, k3, k4, k5⟩ := h15 t t0 t1
      have bt : (0 ≤ t ∧ t < 5) = True := eq_true (by omega)
      obtain ⟨a0, a1, -⟩ := zand_bi x0 x1 k4.2.1 k4.2.2
      obtain ⟨d0, d1, -⟩ := zandnot_bi x0 x1 k4.2.1 k4.2.2
      rcases hn with rfl | rfl
      · have w1 : w32 (s0 11 0 8 * popc (zand x (s0 86 0 t))) = s0 11 0 8 * popc (zand x (s0 86 0 t)) := w32_id (by omega) (by omega)
        simp only [r147_12, r147_15, r147_17, r147_18, r147_19, r147_22, r147_24, r147_25, r147_26, r147_29, r147_30, r147_31, r147_32, r147_33, r147_34, r147_37, r147_38, r147_39, r147_40, r147_41, r147_42, r147_45, r147_46, r147_47, r147_50, r147_51, r147_52, r147_53, r147_56, r147_57, r147_59, r147_60, e11, e86, k_ones _ zU zU a0 a1, bt, w1, zak_40, zln_40, zak_41, zln_41, zak_42, zln_42, zak_43, zln_43, zak_44, zln_44, zak_45, zln_45, zak_46, zln_46, zak_47, zln_47, zak_48, zln_48, zak_49, zln_49, zak_50, zln_50, zak_51, zln_51, zak_52, zln_52, zak_53, zln_53, zak_54, zln_54, zak_55, zln_55, zak_73, zln_73, zak_74, zln_74, zak_75, zln_75, zak_76, zln_76, zak_77, zln_77, zak_78, zln_78, zak_79, zln_79, zak_80, zln_80, zak_81, zln_81, zak_82, zln_82, zak_83, zln_83, zak_84, zln_84, zak_85, zln_85, zak_86, zln_86, zak_87, zln_87, zak_88, zln_88, zak_89, zln_89, zak_90, zln_90, zak_91, zln_91, zak_92, zln_92, zak_93, zln_93, zak_94, zln_94, zak_95, zln_95, zak_96, zln_96, zak_97, zln_97, zak_98, zln_98, zak_99, zln_99, zak_100, zln_100, zak_101, zln_101, zak_102, zln_102, zak_103, zln_103, zak_104, zln_104, zak_105, zln_105, zak_108, zln_108, zak_109, zln_109, Nat.reduceLeDiff, zclr_I, zclr_R, zclr_L, zclr_U, reduceIte, Int.reduceEq, Int.reduceLT, Int.reduceLE, Int.reduceNeg, not_true_eq_false, not_false_eq_true, or_true, true_or, or_false, false_or, and_true, true_and, and_false, false_and, z01_or]
        rw [lp147 t x _ x0 x1 (by rw [e11]; omega) (by rw [e11]; exact h9.2.2.2.2) (s0 11 0 0).toNat 0 _ (by omega) (by rw [e11]; omega) (by omega) (by omega), e11, e79]
        have w2 : w32 (1000 - wM s0 t x) = cR s0 0 t x := w32_id (by omega) (by omega)
        rw [show s0 11 0 8 * popc (zand x (s0 86 0 t)) + sumF (fun p => if tb x p = true ∧ s0 79 0 p = t then s0 11 0 9 else 0) 0 (s0 11 0 0).toNat = wM s0 t x from rfl]
        simp only [r147_110, r147_113, r147_115, r147_116, w2, zclr_I, zclr_R, zclr_L, zclr_U, reduceIte, Int.reduceEq, Int.reduceLT, Int.reduceLE, Int.reduceNeg, not_true_eq_false, not_false_eq_true, or_true, true_or, or_false, false_or, and_true, true_and, and_false, false_and, z01_or]
      · have w1 : w32 (100 * mM s0 t x) = 100 * mM s0 t x := w32_id (by omega) (by omega)
        have w2 : w32 (100 * mM s0 t x + 1) = cR s0 1 t x := w32_id (by omega) (by omega)
        simp only [r147_12, r147_15, r147_17, r147_18, r147_19, r147_22, r147_24, r147_25, r147_26, r147_29, r147_30, r147_31, r147_32, r147_33, e86, bt, zak_40, zln_40, zak_41, zln_41, zak_42, zln_42, zak_43, zln_43, zak_44, zln_44, zak_45, zln_45, zak_46, zln_46, zak_47, zln_47, zak_48, zln_48, zak_49, zln_49, zak_50, zln_50, zak_51, zln_51, zak_52, zln_52, zak_53, zln_53, zak_54, zln_54, zak_55, zln_55, zak_73, zln_73, zak_74, zln_74, zak_75, zln_75, zak_76, zln_76, zak_77, zln_77, zak_78, zln_78, zak_79, zln_79, zak_80, zln_80, zak_81, zln_81, zak_82, zln_82, zak_83, zln_83, zak_84, zln_84, zak_85, zln_85, zak_86, zln_86, zak_87, zln_87, zak_88, zln_88, zak_89, zln_89, zak_90, zln_90, zak_91, zln_91, zak_92, zln_92, zak_93, zln_93, zak_94, zln_94, zak_95, zln_95, zak_96, zln_96, zak_97, zln_97, zak_98, zln_98, zak_99, zln_99, zak_100, zln_100, zak_101, zln_101, zak_102, zln_102, zak_103, zln_103, zak_104, zln_104, zak_105, zln_105, zak_108, zln_108, zak_109, zln_109, Nat.reduceLeDiff, zclr_I, zclr_R, zclr_L, zclr_U, reduceIte, Int.reduceEq, Int.reduceLT, Int.reduceLE, Int.reduceNeg, not_true_eq_false, not_false_eq_true, or_true, true_or, or_false, false_or, and_true, true_and, and_false, false_and, z01_or]
        rw [r147_34, k_ones _ zU zU d0 d1, show popc (zand x (zxor (s0 86 0 t) (-1))) = mM s0 t x from rfl]
        simp only [r147_37, r147_38, r147_39, r147_40, w1, w2, zclr_I, zclr_R, zclr_L, zclr_U, reduceIte, Int.reduceEq, Int.reduceLT, Int.reduceLE, Int.reduceNeg, not_true_eq_false, not_false_eq_true, or_true, true_or, or_false, false_or, and_true, true_and, and_false, false_and, z01_or]
    · rw [if_neg c1]
      simp only [r147_0, r147_1, r147_4, r147_5, r147_6, r147_7, r147_8, c0, zclr_I, zclr_R, zclr_L, zclr_U, reduceIte, Int.reduceEq, Int.reduceLT, Int.reduceLE, Int.reduceNeg, not_true_eq_false, not_false_eq_true, or_true, true_or, or_false, false_or, and_true, true_and, and_false, false_and, z01_or]
      rw [r147_9, kM, eM]
      simp only [r147_12, r147_15, r147_17, c1, zclr_I, zclr_R, zclr_L, zclr_U, reduceIte, Int.reduceEq, Int.reduceLT, Int.reduceLE, Int.reduceNeg, not_true_eq_false, not_false_eq_true, or_true, true_or, or_false, false_or, and_true, true_and, and_false, false_and, z01_or]
theorem k_allHere8 {L : Nat} {s0 s : zS} (hs : Inv L s0) (hS : Sm8 s0 s) (m pc : Nat) (ls st : List zV) (fs : List zFr) (Q : List zV → zS → Prop) : Ev ((146, 0, [zR 11 0, zU, zU], []) :: (m, pc, ls, st) :: fs) s Q = Ev ((m, pc, ls, zI (s0 6 0 4) :: st) :: fs) s Q := by
  obtain ⟨h1, h2, h3, h4, h5, h6, h7, h8, h9, h10, h11, h12, h13, h14, h15⟩ := id hs
  have h40 := h4.2
  obtain ⟨u0, u1, u2⟩ := h14
  have e11 : s 11 = s0 11 := hS 11 (by unfold Scr; omega) (by omega)
  have e83 : s 83 = s0 83 := hS 83 (by unfold Scr; omega) (by omega)
  simp only [r146_0, r146_1, r146_2, r146_3, zclr_I, zclr_R, zclr_L, zclr_U, reduceIte, Int.reduceEq, Int.reduceLT, Int.reduceLE, Int.reduceNeg, not_true_eq_false, not_false_eq_true, or_true, true_or, or_false, false_or, and_true, true_and, and_false, false_and, z01_or]
  rw [lp146 (by rw [e11]; omega) (s0 11 0 0).toNat 0 0 (by omega) (by rw [e11]; omega) (by omega) (by omega), e83]
  obtain ⟨f0, f1, f2⟩ := orF_bi (fun p => decide (¬ s0 83 0 p = 0)) (s0 11 0 0).toNat 0 0 (by omega) (by omega) (by omega) (by omega)
  have e : orF (fun p => decide (¬ s0 83 0 p = 0)) 0 0 (s0 11 0 0).toNat = s0 6 0 4 := by
    refine bi_ext f0 u0 (fun p p0 => ?_)
    rw [f2 p p0, u2 p p0, decide_eq_true_eq]
    constructor
    · rintro (z | ⟨z1, z2, z3⟩)
      · exact absurd z (bi_0 p)
      · have := (h12 p p0 (by omega)).2.2.2.2.2.2.2.2
        omega
    · rintro ⟨z1, z2⟩
      exact Or.inr ⟨p0, by omega, by omega⟩
  rw [e]
theorem lp148a8 {L : Nat} {s0 : zS} (hs : Inv L s0) (noon x : Int) (hn : noon = 0 ∨ noon = 1) (x0 : 0 ≤ x) (x1 : x < 1024) (v5 v6 v7 : zV) : ∀ (k : Nat) (t : Int) (s : zS), 0 ≤ t → t + k = s0 11 0 1 → Sm8 s0 s → ∃ s1 : zS, (∀ (F : List zFr) (Q : List zV → zS → Prop), Ev ((148, 40, [zR 11 0, zI noon, zI (s0 6 0 4), zI x, zI t, v5, v6, v7], []) :: F) s Q = Ev ((148, 89, [zR 11 0, zI noon, zI (s0 6 0 4), zI x, zI (s0 11 0 1), v5, v6, v7], []) :: F) s1 Q) ∧ (∀ g : Nat, ¬ g = 103 → s1 g = s g) ∧ (∀ u : Int, t ≤ u → u < s0 11 0 1 → s1 103 0 (1024 * u + x) = prV s0 noon u x) ∧ ∀ j : Int, (∀ u : Int, t ≤ u → u < s0 11 0 1 → ¬ j = 1024 * u + x) → s1 103 0 j = s 103 0 j := by
  obtain ⟨h1, h2, h3, h4, h5, h6, h7, h8, h9, h10, h11, h12, h13, h14, h15, h16⟩ := id hs
  obtain ⟨H0, H1, -⟩ := id h14
  have h50 := h5.2
  intro k
  induction k with
  | zero =>
    intro t s t0 t1 hS
    have e11 : s 11 = s0 11 := hS 11 (by unfold Scr; omega) (by omega)
    have e1 : (s0 11 0 1 ≤ t) = True := eq_true (by omega)
    have e2 : t = s0 11 0 1 := by omega
    refine ⟨s, fun F Q => ?_, fun _ _ => rfl, fun u u0 u1 => by omega, fun _ _ => rfl⟩
    rw [r148_40]
    simp only [r148_42, r148_43, r148_46, r148_49, r148_50, r148_53, r148_56, r148_58, r148_59, r148_60, r148_61, r148_62, r148_63, r148_64, r148_65, r148_66, r148_69, r148_71, r148_74, r148_75, r148_77, r148_78, r148_79, r148_82, r148_83, r148_86, e11, e1, zclr_I, zclr_R, zclr_L, zclr_U, reduceIte, Int.reduceEq, Int.reduceLT, Int.reduceLE, Int.reduceNeg, not_true_eq_false, not_false_eq_true, or_true, true_or, or_false, false_or, and_true, true_and, and_false, false_and, z01_or]
    rw [e2]
  | succ k ih =>
    intro t s t0 t1 hS
    have e11 : s 11 = s0 11 := hS 11 (by unfold Scr; omega) (by omega)
    have e6 : s 6 = s0 6 := hS 6 (by unfold Scr; omega) (by omega)
    have e1 : (s0 11 0 1 ≤ t) = False := eq_false (by omega)
    have w1 : w32 (t + 1) = t + 1 := w32_id (by omega) (by omega)
    have w2 : w32 (1024 * t) = 1024 * t := w32_id (by omega) (by omega)
    have w3 : w32 (1024 * t + x) = 1024 * t + x := w32_id (by omega) (by omega)
    have b1 : (0 ≤ 1024 * t + x ∧ 1024 * t + x < 5120) = True := eq_true (by omega)
    have S1 : Sm8 s0 (zup s 103 0 (1024 * t + x) (prV s0 noon t x)) := Sm8_up _ _ _ (Or.inl (by unfold Scr; omega)) hS
    obtain ⟨s1, c1, c2, c3, c4⟩ := ih (t + 1) (zup s 103 0 (1024 * t + x) (prV s0 noon t x)) (by omega) (by omega) S1
    refine ⟨s1, fun F Q => ?_, fun g hg => by rw [c2 g hg, zup_ng hg], fun u u0 u1 => ?_, fun j hj => ?_⟩
    · rw [← c1]
      rw [r148_40]
      by_cases c : zand x (zxor (s0 6 0 4) (-1)) = 0
      · have xH := (sub_z x0 x1 H0 H1).mp c
        have ev : prV s0 noon t x = cst s0 noon t x := if_pos c
        have kC := k_costOf8 hs hS noon t x hn t0 (by omega) x0 xH
        rw [ev]
        simp only [r148_42, r148_43, r148_46, r148_49, r148_50, r148_53, r148_56, r148_58, r148_59, r148_60, r148_61, r148_62, r148_63, r148_64, r148_65, r148_66, r148_69, r148_71, r148_74, r148_75, r148_77, r148_78, r148_79, r148_82, r148_83, r148_86, kC, e11, e1, c, b1, w1, w2, w3, zak_40, zln_40, zak_41, zln_41, zak_42, zln_42, zak_43, zln_43, zak_44, zln_44, zak_45, zln_45, zak_46, zln_46, zak_47, zln_47, zak_48, zln_48, zak_49, zln_49, zak_50, zln_50, zak_51, zln_51, zak_52, zln_52, zak_53, zln_53, zak_54, zln_54, zak_55, zln_55, zak_73, zln_73, zak_74, zln_74, zak_75, zln_75, zak_76, zln_76, zak_77, zln_77, zak_78, zln_78, zak_79, zln_79, zak_80, zln_80, zak_81, zln_81, zak_82, zln_82, zak_83, zln_83, zak_84, zln_84, zak_85, zln_85, zak_86, zln_86, zak_87, zln_87, zak_88, zln_88, zak_89, zln_89, zak_90, zln_90, zak_91, zln_91, zak_92, zln_92, zak_93, zln_93, zak_94, zln_94, zak_95, zln_95, zak_96, zln_96, zak_97, zln_97, zak_98, zln_98, zak_99, zln_99, zak_100, zln_100, zak_101, zln_101, zak_102, zln_102, zak_103, zln_103, zak_104, zln_104, zak_105, zln_105, zak_108, zln_108, zak_109, zln_109, Nat.reduceLeDiff, zclr_I, zclr_R, zclr_L, zclr_U, reduceIte, Int.reduceEq, Int.reduceLT, Int.reduceLE, Int.reduceNeg, not_true_eq_false, not_false_eq_true, or_true, true_or, or_false, false_or, and_true, true_and, and_false, false_and, z01_or]
      · have ev : prV s0 noon t x = 1000000000 := if_neg c
        rw [ev]
        simp only [r148_42, r148_43, r148_46, r148_49, r148_50, r148_53, r148_56, r148_58, r148_59, r148_60, r148_61, r148_62, r148_63, r148_64, r148_65, r148_66, r148_69, r148_71, r148_74, r148_75, r148_77, r148_78, r148_79, r148_82, r148_83, r148_86, e11, e1, c, b1, w1, w2, w3, zak_40, zln_40, zak_41, zln_41, zak_42, zln_42, zak_43, zln_43, zak_44, zln_44, zak_45, zln_45, zak_46, zln_46, zak_47, zln_47, zak_48, zln_48, zak_49, zln_49, zak_50, zln_50, zak_51, zln_51, zak_52, zln_52, zak_53, zln_53, zak_54, zln_54, zak_55, zln_55, zak_73, zln_73, zak_74, zln_74, zak_75, zln_75, zak_76, zln_76, zak_77, zln_77, zak_78, zln_78, zak_79, zln_79, zak_80, zln_80, zak_81, zln_81, zak_82, zln_82, zak_83, zln_83, zak_84, zln_84, zak_85, zln_85, zak_86, zln_86, zak_87, zln_87, zak_88, zln_88, zak_89, zln_89, zak_90, zln_90, zak_91, zln_91, zak_92, zln_92, zak_93, zln_93, zak_94, zln_94, zak_95, zln_95, zak_96, zln_96, zak_97, zln_97, zak_98, zln_98, zak_99, zln_99, zak_100, zln_100, zak_101, zln_101, zak_102, zln_102, zak_103, zln_103, zak_104, zln_104, zak_105, zln_105, zak_108, zln_108, zak_109, zln_109, Nat.reduceLeDiff, zclr_I, zclr_R, zclr_L, zclr_U, reduceIte, Int.reduceEq, Int.reduceLT, Int.reduceLE, Int.reduceNeg, not_true_eq_false, not_false_eq_true, or_true, true_or, or_false, false_or, and_true, true_and, and_false, false_and, z01_or]
    · by_cases e : u = t
      · rw [e, c4 _ (fun v v0 v1 => by omega), zup_eq]
      · exact c3 u (by omega) u1
    · rw [c4 j (fun u u0 u1 => hj u (by omega) u1), zup_nk (hj t (by omega) (by omega))]
theorem lp148b9 {L : Nat} {s0 : zS} (hs : Inv L s0) (noon : Int) (hn : noon = 0 ∨ noon = 1) (v5 v6 v7 : zV) : ∀ (n : Nat) (x : Int) (s : zS) (v4 : zV), 0 ≤ x → x + n = s0 6 0 4 + 1 → Sm8 s0 s → (∀ y : Int, 0 ≤ y → y < x → s 102 0 (1024 * s0 11 0 1 + y) = (if y = 0 then 0 else 1000000000) ∧ ∀ u : Int, 0 ≤ u → u < s0 11 0 1 → s 103 0 (1024 * u + y) = prV s0 noon u y) → ∃ (s1 : zS) (v4' : zV), (∀ (F : List zFr) (Q : List zV → zS → Prop), Ev ((148, 7, [zR 11 0, zI noon, zI (s0 6 0 4), zI x, v4, v5, v6, v7], []) :: F) s Q = Ev ((148, 95, [zR 11 0, zI noon, zI (s0 6 0 4), zI (s0 6 0 4 + 1), v4', v5, v6, v7], []) :: F) s1 Q) ∧ (∀ g : Nat, ¬ (g = 102 ∨ g = 103) → s1 g = s g) ∧ ∀ y : Int, 0 ≤ y → y ≤ s0 6 0 4 → s1 102 0 (1024 * s0 11 0 1 + y) = (if y = 0 then 0 else 1000000000) ∧ ∀ u : Int, 0 ≤ u → u < s0 11 0 1 → s1 103 0 (1024 * u + y) = prV s0 noon u y := by
  obtain ⟨h1, h2, h3, h4, h5, h6, h7, h8, h9, h10, h11, h12, h13, h14, h15, h16⟩ := id hs
  obtain ⟨H0, H1, -⟩ := id h14
  have h50 := h5.2
  intro n
  induction n with
  | zero =>
    intro x s v4 x0 x1 hS hI
    have e1 : (s0 6 0 4 < x) = True := eq_true (by omega)
    have e2 : x = s0 6 0 4 + 1 := by omega
    refine ⟨s, v4, fun F Q => ?_, fun _ _ => rfl, fun y y0 y1 => hI y y0 (by omega)⟩
    rw [r148_7]
    simp only [r148_8, r148_9, e1, zclr_I, zclr_R, zclr_L, zclr_U, reduceIte, Int.reduceEq, Int.reduceLT, Int.reduceLE, Int.reduceNeg, not_true_eq_false, not_false_eq_true, or_true, true_or, or_false, false_or, and_true, true_and, and_false, false_and, z01_or]
    rw [e2]
  | succ n ih =>
    intro x s v4 x0 x1 hS hI
    have e11 : s 11 = s0 11 := hS 11 (by unfold Scr; omega) (by omega)
    have e1 : (s0 6 0 4 < x) = False := eq_false (by omega)
    have w1 : w32 (x + 1) = x + 1 := w32_id (by omega) (by omega)
    have w2 : w32 (1024 * s0 11 0 1) = 1024 * s0 11 0 1 := w32_id (by omega) (by omega)
    have w3 : w32 (1024 * s0 11 0 1 + x) = 1024 * s0 11 0 1 + x := w32_id (by omega) (by omega)
    have b1 : (0 ≤ 1024 * s0 11 0 1 + x ∧ 1024 * s0 11 0 1 + x < 6144) = True := eq_true (by omega)
    have S1 : Sm8 s0 (zup s 102 0 (1024 * s0 11 0 1 + x) (if x = 0 then 0 else 1000000000)) := Sm8_up _ _ _ (Or.inl (by unfold Scr; omega)) hS
    obtain ⟨sA, a1, a2, a3, a4⟩ := lp148a8 hs noon x hn x0 (by omega) v5 v6 v7 (s0 11 0 1).toNat 0 _ (by omega) (by omega) S1
    have SA : Sm8 s0 sA := fun g hg hg2 => by rw [a2 g (fun e => hg (by rw [e]; unfold Scr; omega))]; exact S1 g hg hg2
    obtain ⟨s1, w4, c1, c2, c3⟩ := ih (x + 1) sA (zI (s0 11 0 1)) (by omega) (by omega) SA (fun y y0 y1 => by
      by_cases e : y = x
      · rw [e]
        refine ⟨by rw [a2 102 (by omega), zup_eq], fun u u0 u1 => a3 u u0 u1⟩
      · obtain ⟨i1, i2⟩ := hI y y0 (by omega)
        refine ⟨by rw [a2 102 (by omega), zup_nk (by omega)]; exact i1, fun u u0 u1 => ?_⟩
        rw [a4 _ (fun v v0 v1 => by omega), zup_ng (by omega)]
        exact i2 u u0 u1)
    refine ⟨s1, w4, fun F Q => ?_, fun g hg => by rw [c2 g hg, a2 g (by omega), zup_ng (by omega)], c3⟩
    rw [← c1, r148_7]
    by_cases cx : x = 0
    · rw [if_pos cx] at a1
      have cx' := eq_true cx
      simp only [r148_8, r148_9, r148_12, r148_13, r148_16, r148_19, r148_20, r148_23, r148_24, r148_25, r148_26, r148_27, r148_30, r148_31, r148_34, r148_36, r148_37, r148_38, e11, e1, cx', b1, w2, w3, zak_40, zln_40, zak_41, zln_41, zak_42, zln_42, zak_43, zln_43, zak_44, zln_44, zak_45, zln_45, zak_46, zln_46, zak_47, zln_47, zak_48, zln_48, zak_49, zln_49, zak_50, zln_50, zak_51, zln_51, zak_52, zln_52, zak_53, zln_53, zak_54, zln_54, zak_55, zln_55, zak_73, zln_73, zak_74, zln_74, zak_75, zln_75, zak_76, zln_76, zak_77, zln_77, zak_78, zln_78, zak_79, zln_79, zak_80, zln_80, zak_81, zln_81, zak_82, zln_82, zak_83, zln_83, zak_84, zln_84, zak_85, zln_85, zak_86, zln_86, zak_87, zln_87, zak_88, zln_88, zak_89, zln_89, zak_90, zln_90, zak_91, zln_91, zak_92, zln_92, zak_93, zln_93, zak_94, zln_94, zak_95, zln_95, zak_96, zln_96, zak_97, zln_97, zak_98, zln_98, zak_99, zln_99, zak_100, zln_100, zak_101, zln_101, zak_102, zln_102, zak_103, zln_103, zak_104, zln_104, zak_105, zln_105, zak_108, zln_108, zak_109, zln_109, Nat.reduceLeDiff, zclr_I, zclr_R, zclr_L, zclr_U, reduceIte, Int.reduceEq, Int.reduceLT, Int.reduceLE, Int.reduceNeg, not_true_eq_false, not_false_eq_true, or_true, true_or, or_false, false_or, and_true, true_and, and_false, false_and, z01_or]
      rw [a1]
      simp only [r148_89, r148_92, w1, zclr_I, zclr_R, zclr_L, zclr_U, reduceIte, Int.reduceEq, Int.reduceLT, Int.reduceLE, Int.reduceNeg, not_true_eq_false, not_false_eq_true, or_true, true_or, or_false, false_or, and_true, true_and, and_false, false_and, z01_or]
    · rw [if_neg cx] at a1
      have cx' := eq_false cx
      simp only [r148_8, r148_9, r148_12, r148_13, r148_16, r148_19, r148_20, r148_23, r148_24, r148_25, r148_26, r148_27, r148_30, r148_31, r148_34, r148_36, r148_37, r148_38, e11, e1, cx', b1, w2, w3, zak_40, zln_40, zak_41, zln_41, zak_42, zln_42, zak_43, zln_43, zak_44, zln_44, zak_45, zln_45, zak_46, zln_46, zak_47, zln_47, zak_48, zln_48, zak_49, zln_49, zak_50, zln_50, zak_51, zln_51, zak_52, zln_52, zak_53, zln_53, zak_54, zln_54, zak_55, zln_55, zak_73, zln_73, zak_74, zln_74, zak_75, zln_75, zak_76, zln_76, zak_77, zln_77, zak_78, zln_78, zak_79, zln_79, zak_80, zln_80, zak_81, zln_81, zak_82, zln_82, zak_83, zln_83, zak_84, zln_84, zak_85, zln_85, zak_86, zln_86, zak_87, zln_87, zak_88, zln_88, zak_89, zln_89, zak_90, zln_90, zak_91, zln_91, zak_92, zln_92, zak_93, zln_93, zak_94, zln_94, zak_95, zln_95, zak_96, zln_96, zak_97, zln_97, zak_98, zln_98, zak_99, zln_99, zak_100, zln_100, zak_101, zln_101, zak_102, zln_102, zak_103, zln_103, zak_104, zln_104, zak_105, zln_105, zak_108, zln_108, zak_109, zln_109, Nat.reduceLeDiff, zclr_I, zclr_R, zclr_L, zclr_U, reduceIte, Int.reduceEq, Int.reduceLT, Int.reduceLE, Int.reduceNeg, not_true_eq_false, not_false_eq_true, or_true, true_or, or_false, false_or, and_true, true_and, and_false, false_and, z01_or]
      rw [a1]
      simp only [r148_89, r148_92, w1, zclr_I, zclr_R, zclr_L, zclr_U, reduceIte, Int.reduceEq, Int.reduceLT, Int.reduceLE, Int.reduceNeg, not_true_eq_false, not_false_eq_true, or_true, true_or, or_false, false_or, and_true, true_and, and_false, false_and, z01_or]
theorem k_find8 {L : Nat} {s s9 : zS} (hs : Inv L s) (hS9 : Sm8 s s9) (noon : Int) (hn : noon = 0 ∨ noon = 1) : ∃ (s1 : zS) (R : Int), (∀ (m pc : Nat) (ls st : List zV) (fs : List zFr) (Q : List zV → zS → Prop), Ev ((148, 0, [zR 11 0, zI noon, zU, zU, zU, zU, zU, zU], []) :: (m, pc, ls, st) :: fs) s9 Q = Ev ((m, pc, ls, zI R :: st) :: fs) s1 Q) ∧ (∀ g : Nat, ¬ (g = 102 ∨ g = 103 ∨ g = 104) → s1 g = s9 g) ∧ (0 ≤ R ∧ R ≤ 1000000000) ∧ (∀ A : Int → Int, VA (okS s) 0 (s 11 0 1) (s 6 0 4) A → R ≤ CA (cR s noon) 0 (s 11 0 1) A) ∧ (R < 1000000000 → FinR (okS s) (cR s noon) (s 11 0 1) (s 6 0 4) R (fun u => s1 104 0 u)) := by
  have hO := CsO_I hs noon
  obtain ⟨h1, h2, h3, h4, h5, h6, h7, h8, h9, h10, h11, h12, h13, h14, h15, h16⟩ := id hs
  obtain ⟨H0, H1, -⟩ := id h14
  have h50 := h5.2
  obtain ⟨sA, w4, a1, a2, a3⟩ := lp148b9 hs noon hn zU zU zU (s 6 0 4 + 1).toNat 0 s9 zU (by omega) (by omega) hS9 (fun y y0 y1 => by omega)
  have e11 : sA 11 = s 11 := (a2 11 (by omega)).trans (hS9 11 (by unfold Scr; omega) (by omega))
  have hP : ∀ u : Int, 0 ≤ u → u < s 11 0 1 → PrR (okS s) (cR s noon) (s 6 0 4) u (fun y => sA 103 0 (1024 * u + y)) := by
    intro u u0 u1 y y0 yH
    have yl := SubB_le y0 H0 yH
    have e := (a3 y y0 yl).2 u u0 u1
    unfold prV at e
    rw [if_pos ((sub_z y0 (by omega) H0 H1).mpr yH)] at e
    unfold cst at e
    show (y = 0 ∧ sA 103 0 (1024 * u + y) = 0) ∨ (0 < y ∧ okS s u y ∧ sA 103 0 (1024 * u + y) = cR s noon u y) ∨ (0 < y ∧ ¬ okS s u y ∧ sA 103 0 (1024 * u + y) = 1000000000)
    by_cases c0 : y = 0
    · rw [if_pos c0] at e; exact Or.inl ⟨c0, e⟩
    · rw [if_neg c0] at e
      by_cases c1 : mayM s u y = 0
      · rw [if_pos c1] at e; exact Or.inr (Or.inl ⟨by omega, ⟨⟨by omega, by omega⟩, yH, c1⟩, e⟩)
      · rw [if_neg c1] at e; exact Or.inr (Or.inr ⟨by omega, fun z => c1 z.2.2, e⟩)
  obtain ⟨sB, x4, x5, x6, x7, b1, b2, b3⟩ := lp148e hO noon (s 11 0 1).toNat (s 11 0 1 - 1) sA w4 zU zU zU (by omega) (by omega) hP (fun u z u0 u1 z0 zH => by
    have eu : u = s 11 0 1 := by omega
    have zl := SubB_le z0 H0 zH
    rw [eu, (a3 z z0 zl).1]
    exact Wsp_T hO z0)
  have SB : ∀ g : Nat, ¬ (g = 102 ∨ g = 103 ∨ g = 104) → sB g = s9 g := fun g hg => by rw [b2 g (by omega), a2 g (by omega)]
  have f11 : sB 11 = s 11 := (SB 11 (by omega)).trans (hS9 11 (by unfold Scr; omega) (by omega))
  have f103 : sB 103 = sA 103 := b2 103 (by omega)
  have bH : (0 ≤ s 6 0 4 ∧ s 6 0 4 < 6144) = True := eq_true (by omega)
  have w1 : w32 (s 11 0 1 - 1) = s 11 0 1 - 1 := w32_id (by omega) (by omega)
  have e0 : (1024 : Int) * 0 + s 6 0 4 = s 6 0 4 := by omega
  have hR := b3 0 (s 6 0 4) (by omega) (by omega) H0 (fun _ _ h => h)
  rw [e0] at hR
  have kA := k_allHere8 hs hS9
  have first : ∀ (m pc : Nat) (ls st : List zV) (fs : List zFr) (Q : List zV → zS → Prop), Ev ((148, 0, [zR 11 0, zI noon, zU, zU, zU, zU, zU, zU], []) :: (m, pc, ls, st) :: fs) s9 Q = Ev ((148, 268, [zR 11 0, zI noon, zI (s 6 0 4), zI (s 6 0 4), zI 0, x5, x6, x7], []) :: (m, pc, ls, st) :: fs) sB Q := by
    intro m pc ls st fs Q
    simp only [r148_0, r148_1, r148_4, r148_5, r148_6, kA, zclr_I, zclr_R, zclr_L, zclr_U, reduceIte, Int.reduceEq, Int.reduceLT, Int.reduceLE, Int.reduceNeg, not_true_eq_false, not_false_eq_true, or_true, true_or, or_false, false_or, and_true, true_and, and_false, false_and, z01_or]
    rw [a1]
    simp only [r148_95, r148_96, r148_99, r148_100, r148_101, e11, w1, zclr_I, zclr_R, zclr_L, zclr_U, reduceIte, Int.reduceEq, Int.reduceLT, Int.reduceLE, Int.reduceNeg, not_true_eq_false, not_false_eq_true, or_true, true_or, or_false, false_or, and_true, true_and, and_false, false_and, z01_or]
    rw [b1]
    simp only [r148_263, r148_264, r148_265, r148_266, zclr_I, zclr_R, zclr_L, zclr_U, reduceIte, Int.reduceEq, Int.reduceLT, Int.reduceLE, Int.reduceNeg, not_true_eq_false, not_false_eq_true, or_true, true_or, or_false, false_or, and_true, true_and, and_false, false_and, z01_or]
  by_cases hF : sB 102 0 (s 6 0 4) < 1000000000
  · obtain ⟨s1, c1, c2, c3⟩ := lp148g hO noon (sB 102 0 (s 6 0 4)) hF x6 x7 (s 11 0 1).toNat 0 (s 6 0 4) sB x5 (by omega) (by omega) (by rw [f11]) (by rw [f103]; exact hP) b3 rfl H0 (fun _ _ h => h) (fun u u0 u1 => by omega) (fun u v u0 u1 => by omega) (fun q q0 => ⟨fun h => ⟨h, fun ⟨u, u0, u1, _⟩ => by omega⟩, fun h => h.1⟩) (by rw [CA_0 (by omega), e0]; omega) (fun B _ _ u u0 u1 => by omega)
    refine ⟨s1, sB 102 0 (s 6 0 4), fun m pc ls st fs Q => by rw [first, c1], fun g hg => ?_, hR.1, hR.2.1, fun _ => c3⟩
    rw [c2 g (by omega)]; exact SB g hg
  · refine ⟨sB, sB 102 0 (s 6 0 4), fun m pc ls st fs Q => ?_, SB, hR.1, hR.2.1, fun h => absurd h hF⟩
    have e2 : (1000000000 ≤ sB 102 0 (s 6 0 4)) = True := eq_true (by omega)
    rw [first, r148_268]
    by_cases c : s 11 0 1 ≤ 0
    · have e1 : (s 11 0 1 ≤ 0) = True := eq_true c
      simp only [r148_270, r148_271, r148_274, r148_398, r148_399, r148_402, r148_403, r148_404, f11, e1, bH, zak_40, zln_40, zak_41, zln_41, zak_42, zln_42, zak_43, zln_43, zak_44, zln_44, zak_45, zln_45, zak_46, zln_46, zak_47, zln_47, zak_48, zln_48, zak_49, zln_49, zak_50, zln_50, zak_51, zln_51, zak_52, zln_52, zak_53, zln_53, zak_54, zln_54, zak_55, zln_55, zak_73, zln_73, zak_74, zln_74, zak_75, zln_75, zak_76, zln_76, zak_77, zln_77, zak_78, zln_78, zak_79, zln_79, zak_80, zln_80, zak_81, zln_81, zak_82, zln_82, zak_83, zln_83, zak_84, zln_84, zak_85, zln_85, zak_86, zln_86, zak_87, zln_87, zak_88, zln_88, zak_89, zln_89, zak_90, zln_90, zak_91, zln_91, zak_92, zln_92, zak_93, zln_93, zak_94, zln_94, zak_95, zln_95, zak_96, zln_96, zak_97, zln_97, zak_98, zln_98, zak_99, zln_99, zak_100, zln_100, zak_101, zln_101, zak_102, zln_102, zak_103, zln_103, zak_104, zln_104, zak_105, zln_105, zak_108, zln_108, zak_109, zln_109, Nat.reduceLeDiff, zclr_I, zclr_R, zclr_L, zclr_U, reduceIte, Int.reduceEq, Int.reduceLT, Int.reduceLE, Int.reduceNeg, not_true_eq_false, not_false_eq_true, or_true, true_or, or_false, false_or, and_true, true_and, and_false, false_and, z01_or]
    · have e1 : (s 11 0 1 ≤ 0) = False := eq_false c
      simp only [r148_270, r148_271, r148_274, r148_277, r148_278, r148_281, r148_282, r148_283, r148_285, r148_398, r148_399, r148_402, r148_403, r148_404, f11, e1, e2, bH, zak_40, zln_40, zak_41, zln_41, zak_42, zln_42, zak_43, zln_43, zak_44, zln_44, zak_45, zln_45, zak_46, zln_46, zak_47, zln_47, zak_48, zln_48, zak_49, zln_49, zak_50, zln_50, zak_51, zln_51, zak_52, zln_52, zak_53, zln_53, zak_54, zln_54, zak_55, zln_55, zak_73, zln_73, zak_74, zln_74, zak_75, zln_75, zak_76, zln_76, zak_77, zln_77, zak_78, zln_78, zak_79, zln_79, zak_80, zln_80, zak_81, zln_81, zak_82, zln_82, zak_83, zln_83, zak_84, zln_84, zak_85, zln_85, zak_86, zln_86, zak_87, zln_87, zak_88, zln_88, zak_89, zln_89, zak_90, zln_90, zak_91, zln_91, zak_92, zln_92, zak_93, zln_93, zak_94, zln_94, zak_95, zln_95, zak_96, zln_96, zak_97, zln_97, zak_98, zln_98, zak_99, zln_99, zak_100, zln_100, zak_101, zln_101, zak_102, zln_102, zak_103, zln_103, zak_104, zln_104, zak_105, zln_105, zak_108, zln_108, zak_109, zln_109, Nat.reduceLeDiff, zclr_I, zclr_R, zclr_L, zclr_U, reduceIte, Int.reduceEq, Int.reduceLT, Int.reduceLE, Int.reduceNeg, not_true_eq_false, not_false_eq_true, or_true, true_or, or_false, false_or, and_true, true_and, and_false, false_and, z01_or]

theorem Edg_c {s s' : zS} (h : Sm s s') (v a b : Int) : Edg s' v a b = Edg s v a b := by
  funext p q
  unfold Edg
  rw [h 11 (by unfold Scr; omega), h 88 (by unfold Scr; omega), h 89 (by unfold Scr; omega), h 90 (by unfold Scr; omega), h 91 (by unfold Scr; omega), h 92 (by unfold Scr; omega), h 93 (by unfold Scr; omega)]
theorem k_reachC2 {L : Nat} {s s' : zS} (hs : Inv L s) (hS : Sm s s') (v b h : Int) (v0 : 0 ≤ v) : ∃ (s1 : zS) (r : Int), Clo (Edg s v h b) (s 11 0 10) r ∧ Sm s s1 ∧ ∀ (m pc : Nat) (ls st : List zV) (fs : List zFr) (Q : List zV → zS → Prop), Ev ((23, 0, [zR 3 0, zI v, zI b, zI h, zU], []) :: (m, pc, ls, st) :: fs) s' Q = Ev ((m, pc, ls, zI r :: st) :: fs) s1 Q := by
  obtain ⟨s1, r, c1, c2, c3⟩ := k_reachC (Inv_Sm hS hs) v b h v0
  rw [Edg_c hS, hS 11 (by unfold Scr; omega)] at c1
  exact ⟨s1, r, c1, Sm_t hS (fun g hg => c2 g (fun e => hg (by rw [e]; unfold Scr; omega))), c3⟩
theorem k_reachM2 {L : Nat} {s s' : zS} (hs : Inv L s) (hS : Sm s s') {v h b r : Int} (hr : Clo (Edg s v h b) (s 11 0 10) r) (m pc : Nat) (ls st : List zV) (fs : List zFr) (Q : List zV → zS → Prop) : Ev ((160, 0, [zR 11 0, zI v, zI h, zI b, zU, zU, zU], []) :: (m, pc, ls, st) :: fs) s' Q = Ev ((m, pc, ls, zI r :: st) :: fs) s' Q := by
  refine k_reachM (Wys_I (Inv_Sm hS hs)) v h b r ?_ m pc ls st fs Q
  rw [Edg_c hS, hS 11 (by unfold Scr; omega)]
  exact hr
section
variable {m pc : Nat} {ls st : List zV} {fs : List zFr} {s : zS} {Q : List zV → zS → Prop}
theorem lp21 (v o h : Int) (ho : In6 o) (hh : In6 h) (hT : s 3 0 3 ≤ 8) (hW : ∀ l : Int, 0 ≤ l → l < s 3 0 3 → (0 ≤ s 12 l 0 ∧ s 12 l 0 ≤ 5) ∧ 0 ≤ s 12 l 1 ∧ s 12 l 1 ≤ 5) : ∀ (k : Nat) (t a : Int) (v6 : zV), 0 ≤ t → t + k = s 3 0 3 → Ev ((21, 22, [zR 3 0, zI v, zI o, zI h, zI a, zI t, v6], []) :: (m, pc, ls, st) :: fs) s Q = Ev ((m, pc, ls, zI (orF (fun i => decide (s 12 i 3 = 0 ∧ s 12 i 2 ≤ v) && (tb o (s 12 i 0) && tb h (s 12 i 1))) a t k) :: st) :: fs) s Q := by
  intro k
  induction k with
  | zero =>
    intro t a v6 h0 h1
    have e1 : (s 3 0 3 ≤ t) = True := eq_true (by omega)
    rw [r21_22]
    simp only [r21_24, r21_25, r21_28, r21_31, r21_32, r21_35, r21_37, r21_38, r21_40, r21_42, r21_43, r21_46, r21_49, r21_50, r21_52, r21_55, r21_58, r21_61, r21_62, r21_64, r21_67, r21_70, r21_73, r21_75, r21_76, r21_78, r21_79, r21_80, r21_82, r21_85, r21_88, r21_90, e1, orF, foldI, zclr_I, zclr_R, zclr_L, zclr_U, reduceIte, Int.reduceEq, Int.reduceLT, Int.reduceLE, Int.reduceNeg, not_true_eq_false, not_false_eq_true, or_true, true_or, or_false, false_or, and_true, true_and, and_false, false_and, z01_or]
  | succ k ih =>
    intro t a v6 h0 h1
    have e1 : (s 3 0 3 ≤ t) = False := eq_false (by omega)
    have b1 : (0 ≤ t ∧ t < 8) = True := eq_true (by omega)
    have w1 : w32 (t + 1) = t + 1 := w32_id (by omega) (by omega)
    obtain ⟨y1, y2⟩ := hW t h0 (by omega)
    have co := has_c ho.1 (show o < 1024 by have := ho.2; omega) y1.1 (show s 12 t 0 < 10 by omega)
    have ch := has_c hh.1 (show h < 1024 by have := hh.2; omega) y2.1 (show s 12 t 1 < 10 by omega)
    rw [r21_22, orF_s]
    by_cases hc : s 12 t 3 = 0 ∧ s 12 t 2 ≤ v
    · have q1 := z01_t hc
      by_cases hx : tb o (s 12 t 0) = true
      · have q2 : hb o (s 12 t 0) = 1 := if_pos hx
        by_cases hy : tb h (s 12 t 1) = true
        · have q3 : hb h (s 12 t 1) = 1 := if_pos hy
          rw [if_pos (by rw [decide_eq_true hc, hx, hy]; rfl)]
          simp only [r21_24, r21_25, r21_28, r21_31, r21_32, r21_35, r21_37, r21_38, r21_40, r21_42, r21_43, r21_46, r21_49, r21_50, r21_52, r21_55, r21_58, r21_61, r21_62, r21_64, r21_67, r21_70, r21_73, r21_75, r21_76, r21_78, r21_79, r21_80, r21_82, r21_85, k_openS, k_has, e1, b1, q1, co, ch, q2, q3, w1, zak_40, zln_40, zak_41, zln_41, zak_42, zln_42, zak_43, zln_43, zak_44, zln_44, zak_45, zln_45, zak_46, zln_46, zak_47, zln_47, zak_48, zln_48, zak_49, zln_49, zak_50, zln_50, zak_51, zln_51, zak_52, zln_52, zak_53, zln_53, zak_54, zln_54, zak_55, zln_55, zak_73, zln_73, zak_74, zln_74, zak_75, zln_75, zak_76, zln_76, zak_77, zln_77, zak_78, zln_78, zak_79, zln_79, zak_80, zln_80, zak_81, zln_81, zak_82, zln_82, zak_83, zln_83, zak_84, zln_84, zak_85, zln_85, zak_86, zln_86, zak_87, zln_87, zak_88, zln_88, zak_89, zln_89, zak_90, zln_90, zak_91, zln_91, zak_92, zln_92, zak_93, zln_93, zak_94, zln_94, zak_95, zln_95, zak_96, zln_96, zak_97, zln_97, zak_98, zln_98, zak_99, zln_99, zak_100, zln_100, zak_101, zln_101, zak_102, zln_102, zak_103, zln_103, zak_104, zln_104, zak_105, zln_105, zak_108, zln_108, zak_109, zln_109, Nat.reduceLeDiff, zclr_I, zclr_R, zclr_L, zclr_U, reduceIte, Int.reduceEq, Int.reduceLT, Int.reduceLE, Int.reduceNeg, not_true_eq_false, not_false_eq_true, or_true, true_or, or_false, false_or, and_true, true_and, and_false, false_and, z01_or]
          exact ih (t + 1) _ _ (by omega) (by omega)
        · have q3 : hb h (s 12 t 1) = 0 := if_neg hy
          rw [if_neg (by rw [decide_eq_true hc, hx, Bool.eq_false_iff.mpr hy]; exact Bool.false_ne_true)]
          simp only [r21_24, r21_25, r21_28, r21_31, r21_32, r21_35, r21_37, r21_38, r21_40, r21_42, r21_43, r21_46, r21_49, r21_50, r21_52, r21_55, r21_58, r21_61, r21_62, r21_64, r21_67, r21_70, r21_73, r21_75, r21_76, r21_78, r21_79, r21_80, r21_82, r21_85, k_openS, k_has, e1, b1, q1, co, ch, q2, q3, w1, zak_40, zln_40, zak_41, zln_41, zak_42, zln_42, zak_43, zln_43, zak_44, zln_44, zak_45, zln_45, zak_46, zln_46, zak_47, zln_47, zak_48, zln_48, zak_49, zln_49, zak_50, zln_50, zak_51, zln_51, zak_52, zln_52, zak_53, zln_53, zak_54, zln_54, zak_55, zln_55, zak_73, zln_73, zak_74, zln_74, zak_75, zln_75, zak_76, zln_76, zak_77, zln_77, zak_78, zln_78, zak_79, zln_79, zak_80, zln_80, zak_81, zln_81, zak_82, zln_82, zak_83, zln_83, zak_84, zln_84, zak_85, zln_85, zak_86, zln_86, zak_87, zln_87, zak_88, zln_88, zak_89, zln_89, zak_90, zln_90, zak_91, zln_91, zak_92, zln_92, zak_93, zln_93, zak_94, zln_94, zak_95, zln_95, zak_96, zln_96, zak_97, zln_97, zak_98, zln_98, zak_99, zln_99, zak_100, zln_100, zak_101, zln_101, zak_102, zln_102, zak_103, zln_103, zak_104, zln_104, zak_105, zln_105, zak_108, zln_108, zak_109, zln_109, Nat.reduceLeDiff, zclr_I, zclr_R, zclr_L, zclr_U, reduceIte, Int.reduceEq, Int.reduceLT, Int.reduceLE, Int.reduceNeg, not_true_eq_false, not_false_eq_true, or_true, true_or, or_false, false_or, and_true, true_and, and_false, false_and, z01_or]
          exact ih (t + 1) _ _ (by omega) (by omega)
      · have q2 : hb o (s 12 t 0) = 0 := if_neg hx
        rw [if_neg (by rw [decide_eq_true hc, Bool.eq_false_iff.mpr hx]; exact Bool.false_ne_true)]
        simp only [r21_24, r21_25, r21_28, r21_31, r21_32, r21_35, r21_37, r21_38, r21_40, r21_42, r21_43, r21_46, r21_49, r21_50, r21_52, r21_55, r21_58, r21_61, r21_62, r21_64, r21_67, r21_70, r21_73, r21_75, r21_76, r21_78, r21_79, r21_80, r21_82, r21_85, k_openS, k_has, e1, b1, q1, co, q2, w1, zak_40, zln_40, zak_41, zln_41, zak_42, zln_42, zak_43, zln_43, zak_44, zln_44, zak_45, zln_45, zak_46, zln_46, zak_47, zln_47, zak_48, zln_48, zak_49, zln_49, zak_50, zln_50, zak_51, zln_51, zak_52, zln_52, zak_53, zln_53, zak_54, zln_54, zak_55, zln_55, zak_73, zln_73, zak_74, zln_74, zak_75, zln_75, zak_76, zln_76, zak_77, zln_77, zak_78, zln_78, zak_79, zln_79, zak_80, zln_80, zak_81, zln_81, zak_82, zln_82, zak_83, zln_83, zak_84, zln_84, zak_85, zln_85, zak_86, zln_86, zak_87, zln_87, zak_88, zln_88, zak_89, zln_89, zak_90, zln_90, zak_91, zln_91, zak_92, zln_92, zak_93, zln_93, zak_94, zln_94, zak_95, zln_95, zak_96, zln_96, zak_97, zln_97, zak_98, zln_98, zak_99, zln_99, zak_100, zln_100, zak_101, zln_101, zak_102, zln_102, zak_103, zln_103, zak_104, zln_104, zak_105, zln_105, zak_108, zln_108, zak_109, zln_109, Nat.reduceLeDiff, zclr_I, zclr_R, zclr_L, zclr_U, reduceIte, Int.reduceEq, Int.reduceLT, Int.reduceLE, Int.reduceNeg, not_true_eq_false, not_false_eq_true, or_true, true_or, or_false, false_or, and_true, true_and, and_false, false_and, z01_or]
        exact ih (t + 1) _ _ (by omega) (by omega)
    · have q1 := z01_f hc
      rw [if_neg (by rw [decide_eq_false hc]; exact Bool.false_ne_true)]
      simp only [r21_24, r21_25, r21_28, r21_31, r21_32, r21_35, r21_37, r21_38, r21_40, r21_42, r21_43, r21_46, r21_49, r21_50, r21_52, r21_55, r21_58, r21_61, r21_62, r21_64, r21_67, r21_70, r21_73, r21_75, r21_76, r21_78, r21_79, r21_80, r21_82, r21_85, k_openS, e1, b1, q1, w1, zak_40, zln_40, zak_41, zln_41, zak_42, zln_42, zak_43, zln_43, zak_44, zln_44, zak_45, zln_45, zak_46, zln_46, zak_47, zln_47, zak_48, zln_48, zak_49, zln_49, zak_50, zln_50, zak_51, zln_51, zak_52, zln_52, zak_53, zln_53, zak_54, zln_54, zak_55, zln_55, zak_73, zln_73, zak_74, zln_74, zak_75, zln_75, zak_76, zln_76, zak_77, zln_77, zak_78, zln_78, zak_79, zln_79, zak_80, zln_80, zak_81, zln_81, zak_82, zln_82, zak_83, zln_83, zak_84, zln_84, zak_85, zln_85, zak_86, zln_86, zak_87, zln_87, zak_88, zln_88, zak_89, zln_89, zak_90, zln_90, zak_91, zln_91, zak_92, zln_92, zak_93, zln_93, zak_94, zln_94, zak_95, zln_95, zak_96, zln_96, zak_97, zln_97, zak_98, zln_98, zak_99, zln_99, zak_100, zln_100, zak_101, zln_101, zak_102, zln_102, zak_103, zln_103, zak_104, zln_104, zak_105, zln_105, zak_108, zln_108, zak_109, zln_109, Nat.reduceLeDiff, zclr_I, zclr_R, zclr_L, zclr_U, reduceIte, Int.reduceEq, Int.reduceLT, Int.reduceLE, Int.reduceNeg, not_true_eq_false, not_false_eq_true, or_true, true_or, or_false, false_or, and_true, true_and, and_false, false_and, z01_or]
      exact ih (t + 1) _ _ (by omega) (by omega)
theorem lp161 (x v o h : Int) (ho : In6 o) (hh : In6 h) (hT : s 11 0 3 ≤ 8) (hW : ∀ l : Int, 0 ≤ l → l < s 11 0 3 → (0 ≤ s 90 0 l ∧ s 90 0 l ≤ 5) ∧ 0 ≤ s 91 0 l ∧ s 91 0 l ≤ 5) : ∀ (k : Nat) (t a : Int), 0 ≤ t → t + k = s 11 0 3 → 0 ≤ a → a < 1024 → Ev ((161, 55, [zR 11 0, zI x, zI v, zI o, zI h, zI a, zI t], []) :: (m, pc, ls, st) :: fs) s Q = Ev ((m, pc, ls, zI (orF (fun i => decide (s 92 0 i ≤ v) && (tb o (s 90 0 i) && tb h (s 91 0 i))) a t k) :: st) :: fs) s Q := by
  intro k
  induction k with
  | zero =>
    intro t a h0 h1 a0 a1
    have e1 : (s 11 0 3 ≤ t) = True := eq_true (by omega)
    rw [r161_55]
    simp only [r161_57, r161_58, r161_61, r161_64, r161_66, r161_67, r161_70, r161_72, r161_73, r161_74, r161_77, r161_78, r161_79, r161_82, r161_84, r161_85, r161_88, r161_91, r161_93, r161_94, r161_97, r161_99, r161_100, r161_103, r161_106, r161_107, r161_109, r161_110, r161_113, r161_114, r161_115, r161_117, r161_120, r161_123, r161_125, e1, orF, foldI, zclr_I, zclr_R, zclr_L, zclr_U, reduceIte, Int.reduceEq, Int.reduceLT, Int.reduceLE, Int.reduceNeg, not_true_eq_false, not_false_eq_true, or_true, true_or, or_false, false_or, and_true, true_and, and_false, false_and, z01_or]
  | succ k ih =>
    intro t a h0 h1 a0 a1
    have e1 : (s 11 0 3 ≤ t) = False := eq_false (by omega)
    have b1 : (0 ≤ t ∧ t < 8) = True := eq_true (by omega)
    have w1 : w32 (t + 1) = t + 1 := w32_id (by omega) (by omega)
    have z0 := zor_0 a0 a1
    obtain ⟨d0, d1, -⟩ := set_bi a0 a1 h0 (show t < 10 by omega)
    obtain ⟨y1, y2⟩ := hW t h0 (by omega)
    have co := has_m ho.1 (show o < 1024 by have := ho.2; omega) y1.1 (show s 90 0 t < 10 by omega)
    have ch := has_m hh.1 (show h < 1024 by have := hh.2; omega) y2.1 (show s 91 0 t < 10 by omega)
    rw [r161_55, orF_s]
    by_cases hc : s 92 0 t ≤ v
    · have q1 : (v < s 92 0 t) = False := eq_false (by omega)
      by_cases hx : tb o (s 90 0 t) = true
      · have q2 : hb o (s 90 0 t) = 1 := if_pos hx
        by_cases hy : tb h (s 91 0 t) = true
        · have q3 : hb h (s 91 0 t) = 1 := if_pos hy
          rw [if_pos (by rw [decide_eq_true hc, hx, hy]; rfl)]
          simp only [r161_57, r161_58, r161_61, r161_64, r161_66, r161_67, r161_70, r161_72, r161_73, r161_74, r161_77, r161_78, r161_79, r161_82, r161_84, r161_85, r161_88, r161_91, r161_93, r161_94, r161_97, r161_99, r161_100, r161_103, r161_106, r161_107, r161_109, r161_110, r161_113, r161_114, r161_115, r161_117, r161_120, k_hasM, e1, b1, q1, co, ch, q2, q3, w1, zak_40, zln_40, zak_41, zln_41, zak_42, zln_42, zak_43, zln_43, zak_44, zln_44, zak_45, zln_45, zak_46, zln_46, zak_47, zln_47, zak_48, zln_48, zak_49, zln_49, zak_50, zln_50, zak_51, zln_51, zak_52, zln_52, zak_53, zln_53, zak_54, zln_54, zak_55, zln_55, zak_73, zln_73, zak_74, zln_74, zak_75, zln_75, zak_76, zln_76, zak_77, zln_77, zak_78, zln_78, zak_79, zln_79, zak_80, zln_80, zak_81, zln_81, zak_82, zln_82, zak_83, zln_83, zak_84, zln_84, zak_85, zln_85, zak_86, zln_86, zak_87, zln_87, zak_88, zln_88, zak_89, zln_89, zak_90, zln_90, zak_91, zln_91, zak_92, zln_92, zak_93, zln_93, zak_94, zln_94, zak_95, zln_95, zak_96, zln_96, zak_97, zln_97, zak_98, zln_98, zak_99, zln_99, zak_100, zln_100, zak_101, zln_101, zak_102, zln_102, zak_103, zln_103, zak_104, zln_104, zak_105, zln_105, zak_108, zln_108, zak_109, zln_109, Nat.reduceLeDiff, zclr_I, zclr_R, zclr_L, zclr_U, reduceIte, Int.reduceEq, Int.reduceLT, Int.reduceLE, Int.reduceNeg, not_true_eq_false, not_false_eq_true, or_true, true_or, or_false, false_or, and_true, true_and, and_false, false_and, z01_or]
          exact ih (t + 1) _ (by omega) (by omega) d0 d1
        · have q3 : hb h (s 91 0 t) = 0 := if_neg hy
          rw [if_neg (by rw [decide_eq_true hc, hx, Bool.eq_false_iff.mpr hy]; exact Bool.false_ne_true)]
          simp only [r161_57, r161_58, r161_61, r161_64, r161_66, r161_67, r161_70, r161_72, r161_73, r161_74, r161_77, r161_78, r161_79, r161_82, r161_84, r161_85, r161_88, r161_91, r161_93, r161_94, r161_97, r161_99, r161_100, r161_103, r161_106, r161_107, r161_109, r161_110, r161_113, r161_114, r161_115, r161_117, r161_120, k_hasM, e1, b1, q1, co, ch, q2, q3, w1, z0, zak_40, zln_40, zak_41, zln_41, zak_42, zln_42, zak_43, zln_43, zak_44, zln_44, zak_45, zln_45, zak_46, zln_46, zak_47, zln_47, zak_48, zln_48, zak_49, zln_49, zak_50, zln_50, zak_51, zln_51, zak_52, zln_52, zak_53, zln_53, zak_54, zln_54, zak_55, zln_55, zak_73, zln_73, zak_74, zln_74, zak_75, zln_75, zak_76, zln_76, zak_77, zln_77, zak_78, zln_78, zak_79, zln_79, zak_80, zln_80, zak_81, zln_81, zak_82, zln_82, zak_83, zln_83, zak_84, zln_84, zak_85, zln_85, zak_86, zln_86, zak_87, zln_87, zak_88, zln_88, zak_89, zln_89, zak_90, zln_90, zak_91, zln_91, zak_92, zln_92, zak_93, zln_93, zak_94, zln_94, zak_95, zln_95, zak_96, zln_96, zak_97, zln_97, zak_98, zln_98, zak_99, zln_99, zak_100, zln_100, zak_101, zln_101, zak_102, zln_102, zak_103, zln_103, zak_104, zln_104, zak_105, zln_105, zak_108, zln_108, zak_109, zln_109, Nat.reduceLeDiff, zclr_I, zclr_R, zclr_L, zclr_U, reduceIte, Int.reduceEq, Int.reduceLT, Int.reduceLE, Int.reduceNeg, not_true_eq_false, not_false_eq_true, or_true, true_or, or_false, false_or, and_true, true_and, and_false, false_and, z01_or]
          exact ih (t + 1) _ (by omega) (by omega) a0 a1
      · have q2 : hb o (s 90 0 t) = 0 := if_neg hx
        rw [if_neg (by rw [decide_eq_true hc, Bool.eq_false_iff.mpr hx]; exact Bool.false_ne_true)]
        simp only [r161_57, r161_58, r161_61, r161_64, r161_66, r161_67, r161_70, r161_72, r161_73, r161_74, r161_77, r161_78, r161_79, r161_82, r161_84, r161_85, r161_88, r161_91, r161_93, r161_94, r161_97, r161_99, r161_100, r161_103, r161_106, r161_107, r161_109, r161_110, r161_113, r161_114, r161_115, r161_117, r161_120, k_hasM, e1, b1, q1, co, q2, w1, z0, zak_40, zln_40, zak_41, zln_41, zak_42, zln_42, zak_43, zln_43, zak_44, zln_44, zak_45, zln_45, zak_46, zln_46, zak_47, zln_47, zak_48, zln_48, zak_49, zln_49, zak_50, zln_50, zak_51, zln_51, zak_52, zln_52, zak_53, zln_53, zak_54, zln_54, zak_55, zln_55, zak_73, zln_73, zak_74, zln_74, zak_75, zln_75, zak_76, zln_76, zak_77, zln_77, zak_78, zln_78, zak_79, zln_79, zak_80, zln_80, zak_81, zln_81, zak_82, zln_82, zak_83, zln_83, zak_84, zln_84, zak_85, zln_85, zak_86, zln_86, zak_87, zln_87, zak_88, zln_88, zak_89, zln_89, zak_90, zln_90, zak_91, zln_91, zak_92, zln_92, zak_93, zln_93, zak_94, zln_94, zak_95, zln_95, zak_96, zln_96, zak_97, zln_97, zak_98, zln_98, zak_99, zln_99, zak_100, zln_100, zak_101, zln_101, zak_102, zln_102, zak_103, zln_103, zak_104, zln_104, zak_105, zln_105, zak_108, zln_108, zak_109, zln_109, Nat.reduceLeDiff, zclr_I, zclr_R, zclr_L, zclr_U, reduceIte, Int.reduceEq, Int.reduceLT, Int.reduceLE, Int.reduceNeg, not_true_eq_false, not_false_eq_true, or_true, true_or, or_false, false_or, and_true, true_and, and_false, false_and, z01_or]
        exact ih (t + 1) _ (by omega) (by omega) a0 a1
    · have q1 : (v < s 92 0 t) = True := eq_true (by omega)
      rw [if_neg (by rw [decide_eq_false hc]; exact Bool.false_ne_true)]
      simp only [r161_57, r161_58, r161_61, r161_64, r161_66, r161_67, r161_70, r161_72, r161_73, r161_74, r161_77, r161_78, r161_79, r161_82, r161_84, r161_85, r161_88, r161_91, r161_93, r161_94, r161_97, r161_99, r161_100, r161_103, r161_106, r161_107, r161_109, r161_110, r161_113, r161_114, r161_115, r161_117, r161_120, e1, b1, q1, w1, z0, zak_40, zln_40, zak_41, zln_41, zak_42, zln_42, zak_43, zln_43, zak_44, zln_44, zak_45, zln_45, zak_46, zln_46, zak_47, zln_47, zak_48, zln_48, zak_49, zln_49, zak_50, zln_50, zak_51, zln_51, zak_52, zln_52, zak_53, zln_53, zak_54, zln_54, zak_55, zln_55, zak_73, zln_73, zak_74, zln_74, zak_75, zln_75, zak_76, zln_76, zak_77, zln_77, zak_78, zln_78, zak_79, zln_79, zak_80, zln_80, zak_81, zln_81, zak_82, zln_82, zak_83, zln_83, zak_84, zln_84, zak_85, zln_85, zak_86, zln_86, zak_87, zln_87, zak_88, zln_88, zak_89, zln_89, zak_90, zln_90, zak_91, zln_91, zak_92, zln_92, zak_93, zln_93, zak_94, zln_94, zak_95, zln_95, zak_96, zln_96, zak_97, zln_97, zak_98, zln_98, zak_99, zln_99, zak_100, zln_100, zak_101, zln_101, zak_102, zln_102, zak_103, zln_103, zak_104, zln_104, zak_105, zln_105, zak_108, zln_108, zak_109, zln_109, Nat.reduceLeDiff, zclr_I, zclr_R, zclr_L, zclr_U, reduceIte, Int.reduceEq, Int.reduceLT, Int.reduceLE, Int.reduceNeg, not_true_eq_false, not_false_eq_true, or_true, true_or, or_false, false_or, and_true, true_and, and_false, false_and, z01_or]
      exact ih (t + 1) _ (by omega) (by omega) a0 a1
end
theorem orF_c {f g : Int → Bool} {a t : Int} {k : Nat} (h : ∀ i, t ≤ i → i < t + k → f i = g i) : orF f a t k = orF g a t k := foldI_c k a t (fun a i i0 i1 => by rw [h i i0 i1])
theorem lvM_c {s s' : zS} (h : Sm s s') (x : Int) : lvM s' x = lvM s x := by
  unfold lvM topM
  rw [h 11 (by unfold Scr; omega), h 76 (by unfold Scr; omega), h 77 (by unfold Scr; omega)]
theorem nScr (g : Nat) (h : g = 110 ∨ g = 111 ∨ g = 3 ∨ g = 10 ∨ g = 11 ∨ g = 12 ∨ g = 6 ∨ g = 8 ∨ g = 5 ∨ g = 90 ∨ g = 91 ∨ g = 92 ∨ g = 86 ∨ g = 79 ∨ g = 83) : ¬ Scr g := by unfold Scr; omega
theorem pr_serves (L : Nat) : Pr_serves (Inv L) := by
  intro a ha s hs
  obtain ⟨h1, h2, h3, h4, h5, h6, h7, h8, h9, h10, h11, h12, h13, h14, h15, h16, h17, h18, h19⟩ := id hs
  have eP := h4.1
  have h40 := h4.2
  have h70 := h7.2
  have e7 := h7.1
  by_cases hc : 0 < a ∧ a < zshl 1 (s 11 0 0)
  · obtain ⟨a1, aP⟩ := set_P (show 0 ≤ a by omega) hc.2 (by omega) (by omega)
    have q1 : z01 (0 < a ∧ a < zshl 1 (s 6 0 1)) = 1 := z01_t (by rw [eP]; exact hc)
    have q2 := z01_t hc
    obtain ⟨s1, c1, c2⟩ := k_gather a (by omega) a1 s (by omega) (by omega) h2 (fun p p0 p1 => by have := (h12 p p0 (by omega)).1; omega)
    obtain ⟨lv1, lv2, lv3, lv4, lv5⟩ := lv_eq hs c2
    have S1 : Sm s s1 := Gat_Sm c2
    have hs1 : Inv L s1 := Inv_Sm S1 hs
    by_cases hl : lvM s a < 0
    · have q3 := z01_f (show ¬ s1 2 0 2 ≤ s1 2 0 3 by have := lv2.mpr hl; omega)
      have e0 : (0 ≤ lvM s a) = False := eq_false (by omega)
      refine ⟨-1000004, zup s1 10 0 5 (w32 (s1 10 0 5 + 1)), zup (zup s1 10 0 5 (w32 (s1 10 0 5 + 1))) 11 0 5 (w32 (s1 11 0 5 + 1)), ?_, ?_, zf_step s1 hs1, ?_, ?_⟩
      · intro m pc ls st fs Q
        simp only [r92_0, r92_1, r92_4, r92_5, r92_8, r92_11, r92_12, r92_14, r92_17, r92_18, r92_19, r92_22, r92_23, r92_26, r92_27, r92_28, r92_31, r92_34, r92_35, r92_38, r92_39, r92_42, r92_45, r92_48, r92_49, r92_51, r92_54, k_hasAll, q1, zclr_I, zclr_R, zclr_L, zclr_U, reduceIte, Int.reduceEq, Int.reduceLT, Int.reduceLE, Int.reduceNeg, not_true_eq_false, not_false_eq_true, or_true, true_or, or_false, false_or, and_true, true_and, and_false, false_and, z01_or]
        rw [c1]
        simp only [r92_0, r92_1, r92_4, r92_5, r92_8, r92_11, r92_12, r92_14, r92_17, r92_18, r92_19, r92_22, r92_23, r92_26, r92_27, r92_28, r92_31, r92_34, r92_35, r92_38, r92_39, r92_42, r92_45, r92_48, r92_49, r92_51, r92_54, k_hasLevel, k_finding, q3, zclr_I, zclr_R, zclr_L, zclr_U, reduceIte, Int.reduceEq, Int.reduceLT, Int.reduceLE, Int.reduceNeg, not_true_eq_false, not_false_eq_true, or_true, true_or, or_false, false_or, and_true, true_and, and_false, false_and, z01_or]
      · intro m pc ls st fs Q
        have f11 : (zup s1 10 0 5 (w32 (s1 10 0 5 + 1))) 11 = s 11 := by rw [zup_ng (by omega), S1 11 (nScr 11 (by omega))]
        have eL : lvM (zup s1 10 0 5 (w32 (s1 10 0 5 + 1))) a = lvM s a := by
          rw [← lvM_c S1 a]
          unfold lvM topM
          rw [zup_ng (by omega), zup_ng (by omega), zup_ng (by omega)]
        rw [S1 11 (nScr 11 (by omega))]
        simp only [r161_0, r161_1, r161_2, r161_5, r161_8, r161_9, r161_11, r161_14, r161_15, r161_16, r161_17, r161_20, r161_21, r161_22, r161_25, r161_26, r161_28, r161_31, k_isSet, f11, q2, zclr_I, zclr_R, zclr_L, zclr_U, reduceIte, Int.reduceEq, Int.reduceLT, Int.reduceLE, Int.reduceNeg, not_true_eq_false, not_false_eq_true, or_true, true_or, or_false, false_or, and_true, true_and, and_false, false_and, z01_or]
        rw [k_levelOf a zU zU (by omega) a1 (by rw [f11]; omega) (by rw [f11]; omega), eL]
        simp only [r161_0, r161_1, r161_2, r161_5, r161_8, r161_9, r161_11, r161_14, r161_15, r161_16, r161_17, r161_20, r161_21, r161_22, r161_25, r161_26, r161_28, r161_31, k_finds, f11, e0, zclr_I, zclr_R, zclr_L, zclr_U, reduceIte, Int.reduceEq, Int.reduceLT, Int.reduceLE, Int.reduceNeg, not_true_eq_false, not_false_eq_true, or_true, true_or, or_false, false_or, and_true, true_and, and_false, false_and, z01_or]
      · rw [zup_ng (by omega), S1 110 (nScr 110 (by omega))]
      · rw [zup_ng (by omega), S1 111 (nScr 111 (by omega))]
    · have q3 := z01_t (show s1 2 0 2 ≤ s1 2 0 3 by have := fun z => hl (lv2.mp z); omega)
      have e0 : (0 ≤ lvM s a) = True := eq_true (by omega)
      have el : s1 2 0 2 = lvM s a := by rw [lv1, lv3 hl]
      obtain ⟨s2, o, x1, S2, x2⟩ := k_reachC2 hs S1 (lvM s a) (-1) 0 (by omega)
      obtain ⟨s3, h, y1, S3, y2⟩ := k_reachC2 hs S2 (lvM s a) (-1) 1 (by omega)
      have f11 : s3 11 = s 11 := S3 11 (nScr 11 (by omega))
      have f3 : s3 3 = s 3 := S3 3 (nScr 3 (by omega))
      have f12 : s3 12 = s 12 := S3 12 (nScr 12 (by omega))
      have f90 : s3 90 = s 90 := S3 90 (nScr 90 (by omega))
      have f91 : s3 91 = s 91 := S3 91 (nScr 91 (by omega))
      have f92 : s3 92 = s 92 := S3 92 (nScr 92 (by omega))
      have eO : orF (fun i => decide (s 12 i 3 = 0 ∧ s 12 i 2 ≤ lvM s a) && (tb o (s 12 i 0) && tb h (s 12 i 1))) 0 0 (s 3 0 3).toNat = orF (fun i => decide (s 92 0 i ≤ lvM s a) && (tb o (s 90 0 i) && tb h (s 91 0 i))) 0 0 (s 11 0 3).toNat := by
        rw [e7]
        refine orF_c (fun i i0 i1 => ?_)
        obtain ⟨k1, k2, k3, k4⟩ := h18.1 i i0 (by omega)
        have k5 := h18.2 i i0 (by omega)
        rw [k1.1, k2.1, k3, k5]
        simp only [true_and]
      refine ⟨orF (fun i => decide (s 92 0 i ≤ lvM s a) && (tb o (s 90 0 i) && tb h (s 91 0 i))) 0 0 (s 11 0 3).toNat, s3, s3, ?_, ?_, Inv_Sm S3 hs, S3 110 (nScr 110 (by omega)), S3 111 (nScr 111 (by omega))⟩
      · intro m pc ls st fs Q
        simp only [r92_0, r92_1, r92_4, r92_5, r92_8, r92_11, r92_12, r92_14, r92_17, r92_18, r92_19, r92_22, r92_23, r92_26, r92_27, r92_28, r92_31, r92_34, r92_35, r92_38, r92_39, r92_42, r92_45, r92_48, r92_49, r92_51, r92_54, k_hasAll, q1, zclr_I, zclr_R, zclr_L, zclr_U, reduceIte, Int.reduceEq, Int.reduceLT, Int.reduceLE, Int.reduceNeg, not_true_eq_false, not_false_eq_true, or_true, true_or, or_false, false_or, and_true, true_and, and_false, false_and, z01_or]
        rw [c1]
        simp only [r92_0, r92_1, r92_4, r92_5, r92_8, r92_11, r92_12, r92_14, r92_17, r92_18, r92_19, r92_22, r92_23, r92_26, r92_27, r92_28, r92_31, r92_34, r92_35, r92_38, r92_39, r92_42, r92_45, r92_48, r92_49, r92_51, r92_54, k_hasLevel, q3, zclr_I, zclr_R, zclr_L, zclr_U, reduceIte, Int.reduceEq, Int.reduceLT, Int.reduceLE, Int.reduceNeg, not_true_eq_false, not_false_eq_true, or_true, true_or, or_false, false_or, and_true, true_and, and_false, false_and, z01_or]
        rw [el]
        simp only [r21_0, r21_1, r21_2, r21_3, r21_4, r21_7, r21_8, r21_9, r21_10, r21_11, r21_12, r21_15, r21_16, r21_17, r21_19, r21_20, x2, y2, zclr_I, zclr_R, zclr_L, zclr_U, reduceIte, Int.reduceEq, Int.reduceLT, Int.reduceLE, Int.reduceNeg, not_true_eq_false, not_false_eq_true, or_true, true_or, or_false, false_or, and_true, true_and, and_false, false_and, z01_or]
        rw [lp21 (lvM s a) o h x1.1 y1.1 (by rw [f3]; omega) (by
          rw [f3, f12]
          intro l l0 l1
          have := h18.1 l l0 (by omega)
          omega) (s 3 0 3).toNat 0 0 _ (by omega) (by rw [f3]; omega), f12, eO]
        simp only [r92_0, r92_1, r92_4, r92_5, r92_8, r92_11, r92_12, r92_14, r92_17, r92_18, r92_19, r92_22, r92_23, r92_26, r92_27, r92_28, r92_31, r92_34, r92_35, r92_38, r92_39, r92_42, r92_45, r92_48, r92_49, r92_51, r92_54, zclr_I, zclr_R, zclr_L, zclr_U, reduceIte, Int.reduceEq, Int.reduceLT, Int.reduceLE, Int.reduceNeg, not_true_eq_false, not_false_eq_true, or_true, true_or, or_false, false_or, and_true, true_and, and_false, false_and, z01_or]
      · intro m pc ls st fs Q
        have kR1 := k_reachM2 hs S3 x1
        have kR2 := k_reachM2 hs S3 y1
        simp only [r161_0, r161_1, r161_2, r161_5, r161_8, r161_9, r161_11, r161_14, r161_15, r161_16, k_isSet, f11, q2, zclr_I, zclr_R, zclr_L, zclr_U, reduceIte, Int.reduceEq, Int.reduceLT, Int.reduceLE, Int.reduceNeg, not_true_eq_false, not_false_eq_true, or_true, true_or, or_false, false_or, and_true, true_and, and_false, false_and, z01_or]
        rw [r161_17, k_levelOf a zU zU (by omega) a1 (by rw [f11]; omega) (by rw [f11]; omega), lvM_c S3]
        simp only [r161_20, r161_21, r161_22, r161_25, r161_26, r161_28, r161_31, r161_32, r161_33, r161_34, r161_35, r161_36, r161_39, r161_40, r161_41, r161_42, r161_43, r161_44, r161_47, r161_49, r161_50, r161_52, r161_53, kR1, kR2, e0, zclr_I, zclr_R, zclr_L, zclr_U, reduceIte, Int.reduceEq, Int.reduceLT, Int.reduceLE, Int.reduceNeg, not_true_eq_false, not_false_eq_true, or_true, true_or, or_false, false_or, and_true, true_and, and_false, false_and, z01_or]
        rw [lp161 a (lvM s a) o h x1.1 y1.1 (by rw [f11]; omega) (by
          rw [f11, f90, f91]
          intro l l0 l1
          have := h18.1 l l0 (by omega)
          omega) (s 11 0 3).toNat 0 0 (by omega) (by rw [f11]; omega) (by omega) (by omega), f90, f91, f92]
  · have q1 : z01 (0 < a ∧ a < zshl 1 (s 6 0 1)) = 0 := z01_f (by rw [eP]; exact hc)
    have q2 := z01_f hc
    refine pf (-1000001) hs ?_ ?_ <;> intro m pc ls st fs Q
    · simp only [r92_0, r92_1, r92_4, r92_5, r92_8, r92_11, r92_12, r92_14, r92_17, r92_18, r92_19, r92_22, r92_23, r92_26, r92_27, r92_28, r92_31, r92_34, r92_35, r92_38, r92_39, r92_42, r92_45, r92_48, r92_49, r92_51, r92_54, k_hasAll, k_finding, q1, zclr_I, zclr_R, zclr_L, zclr_U, reduceIte, Int.reduceEq, Int.reduceLT, Int.reduceLE, Int.reduceNeg, not_true_eq_false, not_false_eq_true, or_true, true_or, or_false, false_or, and_true, true_and, and_false, false_and, z01_or]
    · simp only [r161_0, r161_1, r161_2, r161_5, r161_8, r161_9, r161_11, r161_14, r161_15, r161_16, r161_17, r161_20, r161_21, r161_22, r161_25, r161_26, r161_28, r161_31, k_isSet, k_finds, zup_g, Nat.reduceEqDiff, q2, zclr_I, zclr_R, zclr_L, zclr_U, reduceIte, Int.reduceEq, Int.reduceLT, Int.reduceLE, Int.reduceNeg, not_true_eq_false, not_false_eq_true, or_true, true_or, or_false, false_or, and_true, true_and, and_false, false_and, z01_or]
theorem pr_stranded (L : Nat) : Pr_stranded (Inv L) := by
  intro a b ha hbr s hs
  obtain ⟨h1, h2, h3, h4, h5, h6, h7, h8, h9, h10, h11, h12, h13, h14, h15, h16, h17, h18, h19⟩ := id hs
  have eP := h4.1
  have h40 := h4.2
  have h60 := h6.2
  have e6 := h6.1
  have w0 : w32 (s 11 0 2 - 1) = s 11 0 2 - 1 := w32_id (by omega) (by omega)
  by_cases hc : 0 < a ∧ a < zshl 1 (s 11 0 0)
  · obtain ⟨a1, aP⟩ := set_P (show 0 ≤ a by omega) hc.2 (by omega) (by omega)
    have q1 : z01 (0 < a ∧ a < zshl 1 (s 6 0 1)) = 1 := z01_t (by rw [eP]; exact hc)
    have q2 := z01_t hc
    by_cases hq : 0 ≤ b ∧ b < s 11 0 2
    · have p1 : z01 (0 ≤ b ∧ b < s 3 0 1) = 1 := z01_t (by omega)
      have p2 : z01 (0 ≤ b ∧ b ≤ s 11 0 2 - 1) = 1 := z01_t (by omega)
      obtain ⟨s1, c1, c2⟩ := k_gather a (by omega) a1 s (by omega) (by omega) h2 (fun p p0 p1 => by have := (h12 p p0 (by omega)).1; omega)
      obtain ⟨lv1, lv2, lv3, lv4, lv5⟩ := lv_eq hs c2
      have S1 : Sm s s1 := Gat_Sm c2
      have hs1 : Inv L s1 := Inv_Sm S1 hs
      by_cases hl : lvM s a < 0
      · have q3 := z01_f (show ¬ s1 2 0 2 ≤ s1 2 0 3 by have := lv2.mpr hl; omega)
        have e0 : (0 ≤ lvM s a) = False := eq_false (by omega)
        refine ⟨-1000004, zup s1 10 0 5 (w32 (s1 10 0 5 + 1)), zup (zup s1 10 0 5 (w32 (s1 10 0 5 + 1))) 11 0 5 (w32 (s1 11 0 5 + 1)), ?_, ?_, zf_step s1 hs1, ?_, ?_⟩
        · intro m pc ls st fs Q
          simp only [r93_0, r93_1, r93_4, r93_5, r93_8, r93_11, r93_12, r93_13, r93_16, r93_19, r93_22, r93_25, r93_26, r93_28, r93_31, r93_32, r93_33, r93_36, r93_37, r93_40, r93_41, r93_42, r93_45, r93_48, r93_49, r93_52, r93_53, r93_56, r93_57, r93_60, r93_63, r93_64, r93_66, r93_69, k_hasAll, k_isBelow, q1, p1, zclr_I, zclr_R, zclr_L, zclr_U, reduceIte, Int.reduceEq, Int.reduceLT, Int.reduceLE, Int.reduceNeg, not_true_eq_false, not_false_eq_true, or_true, true_or, or_false, false_or, and_true, true_and, and_false, false_and, z01_or]
          rw [c1]
          simp only [r93_0, r93_1, r93_4, r93_5, r93_8, r93_11, r93_12, r93_13, r93_16, r93_19, r93_22, r93_25, r93_26, r93_28, r93_31, r93_32, r93_33, r93_36, r93_37, r93_40, r93_41, r93_42, r93_45, r93_48, r93_49, r93_52, r93_53, r93_56, r93_57, r93_60, r93_63, r93_64, r93_66, r93_69, k_hasLevel, k_finding, q3, zclr_I, zclr_R, zclr_L, zclr_U, reduceIte, Int.reduceEq, Int.reduceLT, Int.reduceLE, Int.reduceNeg, not_true_eq_false, not_false_eq_true, or_true, true_or, or_false, false_or, and_true, true_and, and_false, false_and, z01_or]
        · intro m pc ls st fs Q
          have f11 : (zup s1 10 0 5 (w32 (s1 10 0 5 + 1))) 11 = s 11 := by rw [zup_ng (by omega), S1 11 (nScr 11 (by omega))]
          have eL : lvM (zup s1 10 0 5 (w32 (s1 10 0 5 + 1))) a = lvM s a := by
            rw [← lvM_c S1 a]
            unfold lvM topM
            rw [zup_ng (by omega), zup_ng (by omega), zup_ng (by omega)]
          rw [S1 11 (nScr 11 (by omega))]
          simp only [r162_0, r162_1, r162_2, r162_5, r162_8, r162_9, r162_10, r162_11, r162_14, r162_15, r162_16, r162_19, r162_22, r162_23, r162_25, r162_28, r162_29, r162_30, r162_31, r162_34, r162_35, r162_36, r162_39, r162_40, r162_42, r162_45, r162_46, r162_47, r162_48, r162_49, r162_50, r162_53, r162_54, r162_55, r162_56, r162_57, r162_60, r162_61, r162_62, r162_63, r162_64, r162_65, r162_68, r162_69, r162_70, r162_71, k_isSet, k_in, f11, w0, q2, p2, zclr_I, zclr_R, zclr_L, zclr_U, reduceIte, Int.reduceEq, Int.reduceLT, Int.reduceLE, Int.reduceNeg, not_true_eq_false, not_false_eq_true, or_true, true_or, or_false, false_or, and_true, true_and, and_false, false_and, z01_or]
          rw [k_levelOf a zU zU (by omega) a1 (by rw [f11]; omega) (by rw [f11]; omega), eL]
          simp only [r162_0, r162_1, r162_2, r162_5, r162_8, r162_9, r162_10, r162_11, r162_14, r162_15, r162_16, r162_19, r162_22, r162_23, r162_25, r162_28, r162_29, r162_30, r162_31, r162_34, r162_35, r162_36, r162_39, r162_40, r162_42, r162_45, r162_46, r162_47, r162_48, r162_49, r162_50, r162_53, r162_54, r162_55, r162_56, r162_57, r162_60, r162_61, r162_62, r162_63, r162_64, r162_65, r162_68, r162_69, r162_70, r162_71, k_finds, f11, e0, zclr_I, zclr_R, zclr_L, zclr_U, reduceIte, Int.reduceEq, Int.reduceLT, Int.reduceLE, Int.reduceNeg, not_true_eq_false, not_false_eq_true, or_true, true_or, or_false, false_or, and_true, true_and, and_false, false_and, z01_or]
        · rw [zup_ng (by omega), S1 110 (nScr 110 (by omega))]
        · rw [zup_ng (by omega), S1 111 (nScr 111 (by omega))]
      · have q3 := z01_t (show s1 2 0 2 ≤ s1 2 0 3 by have := fun z => hl (lv2.mp z); omega)
        have e0 : (0 ≤ lvM s a) = True := eq_true (by omega)
        have el : s1 2 0 2 = lvM s a := by rw [lv1, lv3 hl]
        obtain ⟨s2, o, x1, S2, x2⟩ := k_reachC2 hs S1 (lvM s a) (-1) 0 (by omega)
        obtain ⟨s3, h, y1, S3, y2⟩ := k_reachC2 hs S2 (lvM s a) (-1) 1 (by omega)
        obtain ⟨s4, u, z1, S4, z2⟩ := k_reachC2 hs S3 (lvM s a) b 1 (by omega)
        have f11 : s4 11 = s 11 := S4 11 (nScr 11 (by omega))
        refine ⟨zand (zand o h) (zxor u (-1)), s4, s4, ?_, ?_, Inv_Sm S4 hs, S4 110 (nScr 110 (by omega)), S4 111 (nScr 111 (by omega))⟩
        · intro m pc ls st fs Q
          simp only [r93_0, r93_1, r93_4, r93_5, r93_8, r93_11, r93_12, r93_13, r93_16, r93_19, r93_22, r93_25, r93_26, r93_28, r93_31, r93_32, r93_33, r93_36, r93_37, r93_40, r93_41, r93_42, r93_45, r93_48, r93_49, r93_52, r93_53, r93_56, r93_57, r93_60, r93_63, r93_64, r93_66, r93_69, k_hasAll, k_isBelow, q1, p1, zclr_I, zclr_R, zclr_L, zclr_U, reduceIte, Int.reduceEq, Int.reduceLT, Int.reduceLE, Int.reduceNeg, not_true_eq_false, not_false_eq_true, or_true, true_or, or_false, false_or, and_true, true_and, and_false, false_and, z01_or]
          rw [c1]
          simp only [r93_0, r93_1, r93_4, r93_5, r93_8, r93_11, r93_12, r93_13, r93_16, r93_19, r93_22, r93_25, r93_26, r93_28, r93_31, r93_32, r93_33, r93_36, r93_37, r93_40, r93_41, r93_42, r93_45, r93_48, r93_49, r93_52, r93_53, r93_56, r93_57, r93_60, r93_63, r93_64, r93_66, r93_69, k_hasLevel, q3, zclr_I, zclr_R, zclr_L, zclr_U, reduceIte, Int.reduceEq, Int.reduceLT, Int.reduceLE, Int.reduceNeg, not_true_eq_false, not_false_eq_true, or_true, true_or, or_false, false_or, and_true, true_and, and_false, false_and, z01_or]
          rw [el]
          simp only [r22_0, r22_1, r22_2, r22_3, r22_4, r22_7, r22_8, r22_9, r22_10, r22_11, r22_14, r22_15, r22_16, r22_17, r22_18, r22_19, r22_20, r22_21, r22_24, r22_25, r22_26, r22_27, r93_0, r93_1, r93_4, r93_5, r93_8, r93_11, r93_12, r93_13, r93_16, r93_19, r93_22, r93_25, r93_26, r93_28, r93_31, r93_32, r93_33, r93_36, r93_37, r93_40, r93_41, r93_42, r93_45, r93_48, r93_49, r93_52, r93_53, r93_56, r93_57, r93_60, r93_63, r93_64, r93_66, r93_69, x2, y2, z2, zclr_I, zclr_R, zclr_L, zclr_U, reduceIte, Int.reduceEq, Int.reduceLT, Int.reduceLE, Int.reduceNeg, not_true_eq_false, not_false_eq_true, or_true, true_or, or_false, false_or, and_true, true_and, and_false, false_and, z01_or]
        · intro m pc ls st fs Q
          have kR1 := k_reachM2 hs S4 x1
          have kR2 := k_reachM2 hs S4 y1
          have kR3 := k_reachM2 hs S4 z1
          simp only [r162_0, r162_1, r162_2, r162_5, r162_8, r162_9, r162_10, r162_11, r162_14, r162_15, r162_16, r162_19, r162_22, r162_23, r162_25, r162_28, r162_29, r162_30, k_isSet, k_in, f11, w0, q2, p2, zclr_I, zclr_R, zclr_L, zclr_U, reduceIte, Int.reduceEq, Int.reduceLT, Int.reduceLE, Int.reduceNeg, not_true_eq_false, not_false_eq_true, or_true, true_or, or_false, false_or, and_true, true_and, and_false, false_and, z01_or]
          rw [r162_31, k_levelOf a zU zU (by omega) a1 (by rw [f11]; omega) (by rw [f11]; omega), lvM_c S4]
          simp only [r162_34, r162_35, r162_36, r162_39, r162_40, r162_42, r162_45, r162_46, r162_47, r162_48, r162_49, r162_50, r162_53, r162_54, r162_55, r162_56, r162_57, r162_60, r162_61, r162_62, r162_63, r162_64, r162_65, r162_68, r162_69, r162_70, r162_71, kR1, kR2, kR3, e0, zclr_I, zclr_R, zclr_L, zclr_U, reduceIte, Int.reduceEq, Int.reduceLT, Int.reduceLE, Int.reduceNeg, not_true_eq_false, not_false_eq_true, or_true, true_or, or_false, false_or, and_true, true_and, and_false, false_and, z01_or]
    · have p1 : z01 (0 ≤ b ∧ b < s 3 0 1) = 0 := z01_f (by omega)
      have p2 : z01 (0 ≤ b ∧ b ≤ s 11 0 2 - 1) = 0 := z01_f (by omega)
      refine pf (-1000001) hs ?_ ?_ <;> intro m pc ls st fs Q
      · simp only [r93_0, r93_1, r93_4, r93_5, r93_8, r93_11, r93_12, r93_13, r93_16, r93_19, r93_22, r93_25, r93_26, r93_28, r93_31, r93_32, r93_33, r93_36, r93_37, r93_40, r93_41, r93_42, r93_45, r93_48, r93_49, r93_52, r93_53, r93_56, r93_57, r93_60, r93_63, r93_64, r93_66, r93_69, k_hasAll, k_isBelow, k_finding, q1, p1, zclr_I, zclr_R, zclr_L, zclr_U, reduceIte, Int.reduceEq, Int.reduceLT, Int.reduceLE, Int.reduceNeg, not_true_eq_false, not_false_eq_true, or_true, true_or, or_false, false_or, and_true, true_and, and_false, false_and, z01_or]
      · simp only [r162_0, r162_1, r162_2, r162_5, r162_8, r162_9, r162_10, r162_11, r162_14, r162_15, r162_16, r162_19, r162_22, r162_23, r162_25, r162_28, r162_29, r162_30, r162_31, r162_34, r162_35, r162_36, r162_39, r162_40, r162_42, r162_45, r162_46, r162_47, r162_48, r162_49, r162_50, r162_53, r162_54, r162_55, r162_56, r162_57, r162_60, r162_61, r162_62, r162_63, r162_64, r162_65, r162_68, r162_69, r162_70, r162_71, k_isSet, k_in, k_finds, zup_g, Nat.reduceEqDiff, w0, q2, p2, zclr_I, zclr_R, zclr_L, zclr_U, reduceIte, Int.reduceEq, Int.reduceLT, Int.reduceLE, Int.reduceNeg, not_true_eq_false, not_false_eq_true, or_true, true_or, or_false, false_or, and_true, true_and, and_false, false_and, z01_or]
  · have q1 : z01 (0 < a ∧ a < zshl 1 (s 6 0 1)) = 0 := z01_f (by rw [eP]; exact hc)
    have q2 := z01_f hc
    refine pf (-1000001) hs ?_ ?_ <;> intro m pc ls st fs Q
    · simp only [r93_0, r93_1, r93_4, r93_5, r93_8, r93_11, r93_12, r93_13, r93_16, r93_19, r93_22, r93_25, r93_26, r93_28, r93_31, r93_32, r93_33, r93_36, r93_37, r93_40, r93_41, r93_42, r93_45, r93_48, r93_49, r93_52, r93_53, r93_56, r93_57, r93_60, r93_63, r93_64, r93_66, r93_69, k_hasAll, k_finding, q1, zclr_I, zclr_R, zclr_L, zclr_U, reduceIte, Int.reduceEq, Int.reduceLT, Int.reduceLE, Int.reduceNeg, not_true_eq_false, not_false_eq_true, or_true, true_or, or_false, false_or, and_true, true_and, and_false, false_and, z01_or]
    · simp only [r162_0, r162_1, r162_2, r162_5, r162_8, r162_9, r162_10, r162_11, r162_14, r162_15, r162_16, r162_19, r162_22, r162_23, r162_25, r162_28, r162_29, r162_30, r162_31, r162_34, r162_35, r162_36, r162_39, r162_40, r162_42, r162_45, r162_46, r162_47, r162_48, r162_49, r162_50, r162_53, r162_54, r162_55, r162_56, r162_57, r162_60, r162_61, r162_62, r162_63, r162_64, r162_65, r162_68, r162_69, r162_70, r162_71, k_isSet, k_finds, zup_g, Nat.reduceEqDiff, q2, zclr_I, zclr_R, zclr_L, zclr_U, reduceIte, Int.reduceEq, Int.reduceLT, Int.reduceLE, Int.reduceNeg, not_true_eq_false, not_false_eq_true, or_true, true_or, or_false, false_or, and_true, true_and, and_false, false_and, z01_or]

theorem lp23a (v b h : Int) : ∀ (k : Nat) (t : Int) (s : zS), 0 ≤ t → t + k = s 3 0 1 → s 3 0 1 ≤ 6 → (∀ l : Int, 0 ≤ l → l < s 3 0 1 → (0 ≤ s 9 l 0 ∧ s 9 l 0 ≤ 5) ∧ 0 ≤ s 9 l 1 ∧ s 9 l 1 ≤ 5) → (∀ p : Int, 0 ≤ p → p < 6 → In6 (s 50 0 p)) → ∃ s1 : zS, (∀ (F : List zFr) (Q : List zV → zS → Prop), Ev ((23, 11, [zR 3 0, zI v, zI b, zI h, zI t], []) :: F) s Q = Ev ((23, 58, [zR 3 0, zI v, zI b, zI h, zI (s 3 0 1)], []) :: F) s1 Q) ∧ (∀ g : Nat, ¬ g = 50 → s1 g = s g) ∧ ∀ p : Int, 0 ≤ p → p < 6 → In6 (s1 50 0 p) ∧ ∀ q : Int, 0 ≤ q → (bi (s1 50 0 p) q ↔ bi (s 50 0 p) q ∨ ∃ l : Int, t ≤ l ∧ l < s 3 0 1 ∧ ¬ l = b ∧ (s 9 l 3 = 0 ∧ s 9 l 2 ≤ v) ∧ p = (if h = 0 then s 9 l 0 else s 9 l 1) ∧ q = (if h = 0 then s 9 l 1 else s 9 l 0)) := by
  intro k
  induction k with
  | zero =>
    intro t s h0 h1 h2 hW hX
    have e1 : (s 3 0 1 ≤ t) = True := eq_true (by omega)
    have e2 : t = s 3 0 1 := by omega
    refine ⟨s, fun F Q => ?_, fun _ _ => rfl, fun p p0 p1 => ⟨hX p p0 p1, fun q q0 => ⟨Or.inl, fun z => z.elim id (fun ⟨l, l0, l1, _⟩ => by omega)⟩⟩⟩
    rw [r23_11]
    simp only [r23_13, r23_14, r23_17, r23_20, r23_22, r23_23, r23_26, r23_27, r23_30, r23_32, r23_33, r23_34, r23_37, r23_40, r23_41, r23_42, r23_45, r23_47, r23_48, r23_49, r23_52, r23_55, e1, zclr_I, zclr_R, zclr_L, zclr_U, reduceIte, Int.reduceEq, Int.reduceLT, Int.reduceLE, Int.reduceNeg, not_true_eq_false, not_false_eq_true, or_true, true_or, or_false, false_or, and_true, true_and, and_false, false_and, z01_or]
    rw [e2]
  | succ k ih =>
    intro t s h0 h1 h2 hW hX
    have e1 : (s 3 0 1 ≤ t) = False := eq_false (by omega)
    have b1 : (0 ≤ t ∧ t < 6) = True := eq_true (by omega)
    have w1 : w32 (t + 1) = t + 1 := w32_id (by omega) (by omega)
    obtain ⟨y1, y2⟩ := hW t h0 (by omega)
    by_cases hc : ¬ t = b ∧ (s 9 t 3 = 0 ∧ s 9 t 2 ≤ v)
    · have a0 : 0 ≤ (if h = 0 then s 9 t 0 else s 9 t 1) ∧ (if h = 0 then s 9 t 0 else s 9 t 1) < 6 := by
        by_cases hh : h = 0
        · rw [if_pos hh]; omega
        · rw [if_neg hh]; omega
      have c0 : 0 ≤ (if h = 0 then s 9 t 1 else s 9 t 0) ∧ (if h = 0 then s 9 t 1 else s 9 t 0) < 6 := by
        by_cases hh : h = 0
        · rw [if_pos hh]; omega
        · rw [if_neg hh]; omega
      have kJ := fun (m pc : Nat) (ls st : List zV) (fs : List zFr) (Q : List zV → zS → Prop) => k_joinL (m := m) (pc := pc) (ls := ls) (st := st) (fs := fs) (Q := Q) (s := s) t h _ _ rfl rfl a0
      generalize hA : (if h = 0 then s 9 t 0 else s 9 t 1) = A at *
      generalize hB : (if h = 0 then s 9 t 1 else s 9 t 0) = B at *
      have g3 : zup s 50 0 A (zor (s 50 0 A) (zshl 1 B)) 3 = s 3 := zup_ng (by omega)
      have gw : zup s 50 0 A (zor (s 50 0 A) (zshl 1 B)) 9 = s 9 := zup_ng (by omega)
      obtain ⟨o1, o2⟩ := or_6 (hX A a0.1 a0.2) (sh_6 c0.1 c0.2).1
      obtain ⟨s1, d1, d2, d3⟩ := ih (t + 1) (zup s 50 0 A (zor (s 50 0 A) (zshl 1 B))) (by omega) (by rw [g3]; omega) (by rw [g3]; exact h2) (by rw [g3, gw]; exact hW) (fun p p0 p1 => by
        by_cases e : p = A
        · rw [e, zup_eq]; exact o1
        · rw [zup_nk e]; exact hX p p0 p1)
      rw [g3] at d1 d3
      rw [gw] at d3
      refine ⟨s1, fun F Q => ?_, fun g hg => by rw [d2 g hg, zup_ng hg], fun p p0 p1 => ⟨(d3 p p0 p1).1, fun q q0 => ?_⟩⟩
      · have nt : (t = b) = False := eq_false hc.1
        have q3 := z01_t hc.2
        rw [r23_11]
        simp only [r23_13, r23_14, r23_17, r23_20, r23_22, r23_23, r23_26, r23_27, r23_30, r23_32, r23_33, r23_34, r23_37, r23_40, r23_41, r23_42, r23_45, r23_47, r23_48, r23_49, r23_52, r23_55, k_openL, kJ, e1, b1, nt, q3, w1, zak_40, zln_40, zak_41, zln_41, zak_42, zln_42, zak_43, zln_43, zak_44, zln_44, zak_45, zln_45, zak_46, zln_46, zak_47, zln_47, zak_48, zln_48, zak_49, zln_49, zak_50, zln_50, zak_51, zln_51, zak_52, zln_52, zak_53, zln_53, zak_54, zln_54, zak_55, zln_55, zak_73, zln_73, zak_74, zln_74, zak_75, zln_75, zak_76, zln_76, zak_77, zln_77, zak_78, zln_78, zak_79, zln_79, zak_80, zln_80, zak_81, zln_81, zak_82, zln_82, zak_83, zln_83, zak_84, zln_84, zak_85, zln_85, zak_86, zln_86, zak_87, zln_87, zak_88, zln_88, zak_89, zln_89, zak_90, zln_90, zak_91, zln_91, zak_92, zln_92, zak_93, zln_93, zak_94, zln_94, zak_95, zln_95, zak_96, zln_96, zak_97, zln_97, zak_98, zln_98, zak_99, zln_99, zak_100, zln_100, zak_101, zln_101, zak_102, zln_102, zak_103, zln_103, zak_104, zln_104, zak_105, zln_105, zak_108, zln_108, zak_109, zln_109, Nat.reduceLeDiff, zclr_I, zclr_R, zclr_L, zclr_U, reduceIte, Int.reduceEq, Int.reduceLT, Int.reduceLE, Int.reduceNeg, not_true_eq_false, not_false_eq_true, or_true, true_or, or_false, false_or, and_true, true_and, and_false, false_and, z01_or]
        exact d1 F Q
      · rw [(d3 p p0 p1).2 q q0]
        constructor
        · rintro (z | ⟨l, l0, l1, l2⟩)
          · by_cases e : p = A
            · rw [e, zup_eq, o2 q q0] at z
              rcases z with z | z
              · left; rw [e]; exact z
              · right
                have := ((sh_6 c0.1 c0.2).2 q q0).mp z
                exact ⟨t, by omega, by omega, hc.1, hc.2, by rw [e, hA], by rw [this, hB]⟩
            · rw [zup_nk e] at z
              exact Or.inl z
          · exact Or.inr ⟨l, by omega, l1, l2⟩
        · rintro (z | ⟨l, l0, l1, l2⟩)
          · left
            by_cases e : p = A
            · rw [e, zup_eq, o2 q q0]
              left; rw [← e]; exact z
            · rw [zup_nk e]; exact z
          · by_cases el : l = t
            · subst el
              left
              have l3 := l2.2.2
              rw [hA, hB] at l3
              rw [l3.1, zup_eq, o2 q q0]
              right
              exact ((sh_6 c0.1 c0.2).2 q q0).mpr l3.2
            · exact Or.inr ⟨l, by omega, l1, l2⟩
    · obtain ⟨s1, d1, d2, d3⟩ := ih (t + 1) s (by omega) (by omega) h2 hW hX
      refine ⟨s1, fun F Q => ?_, d2, fun p p0 p1 => ⟨(d3 p p0 p1).1, fun q q0 => ?_⟩⟩
      · rw [r23_11]
        by_cases nt : t = b
        · have nt := eq_true nt
          simp only [r23_13, r23_14, r23_17, r23_20, r23_22, r23_23, r23_26, r23_27, r23_30, r23_32, r23_33, r23_34, r23_37, r23_40, r23_41, r23_42, r23_45, r23_47, r23_48, r23_49, r23_52, r23_55, e1, nt, w1, zak_40, zln_40, zak_41, zln_41, zak_42, zln_42, zak_43, zln_43, zak_44, zln_44, zak_45, zln_45, zak_46, zln_46, zak_47, zln_47, zak_48, zln_48, zak_49, zln_49, zak_50, zln_50, zak_51, zln_51, zak_52, zln_52, zak_53, zln_53, zak_54, zln_54, zak_55, zln_55, zak_73, zln_73, zak_74, zln_74, zak_75, zln_75, zak_76, zln_76, zak_77, zln_77, zak_78, zln_78, zak_79, zln_79, zak_80, zln_80, zak_81, zln_81, zak_82, zln_82, zak_83, zln_83, zak_84, zln_84, zak_85, zln_85, zak_86, zln_86, zak_87, zln_87, zak_88, zln_88, zak_89, zln_89, zak_90, zln_90, zak_91, zln_91, zak_92, zln_92, zak_93, zln_93, zak_94, zln_94, zak_95, zln_95, zak_96, zln_96, zak_97, zln_97, zak_98, zln_98, zak_99, zln_99, zak_100, zln_100, zak_101, zln_101, zak_102, zln_102, zak_103, zln_103, zak_104, zln_104, zak_105, zln_105, zak_108, zln_108, zak_109, zln_109, Nat.reduceLeDiff, zclr_I, zclr_R, zclr_L, zclr_U, reduceIte, Int.reduceEq, Int.reduceLT, Int.reduceLE, Int.reduceNeg, not_true_eq_false, not_false_eq_true, or_true, true_or, or_false, false_or, and_true, true_and, and_false, false_and, z01_or]
          exact d1 F Q
        · have q3 := z01_f (fun z => hc ⟨nt, z⟩)
          simp only [r23_13, r23_14, r23_17, r23_20, r23_22, r23_23, r23_26, r23_27, r23_30, r23_32, r23_33, r23_34, r23_37, r23_40, r23_41, r23_42, r23_45, r23_47, r23_48, r23_49, r23_52, r23_55, k_openL, e1, b1, nt, q3, w1, zak_40, zln_40, zak_41, zln_41, zak_42, zln_42, zak_43, zln_43, zak_44, zln_44, zak_45, zln_45, zak_46, zln_46, zak_47, zln_47, zak_48, zln_48, zak_49, zln_49, zak_50, zln_50, zak_51, zln_51, zak_52, zln_52, zak_53, zln_53, zak_54, zln_54, zak_55, zln_55, zak_73, zln_73, zak_74, zln_74, zak_75, zln_75, zak_76, zln_76, zak_77, zln_77, zak_78, zln_78, zak_79, zln_79, zak_80, zln_80, zak_81, zln_81, zak_82, zln_82, zak_83, zln_83, zak_84, zln_84, zak_85, zln_85, zak_86, zln_86, zak_87, zln_87, zak_88, zln_88, zak_89, zln_89, zak_90, zln_90, zak_91, zln_91, zak_92, zln_92, zak_93, zln_93, zak_94, zln_94, zak_95, zln_95, zak_96, zln_96, zak_97, zln_97, zak_98, zln_98, zak_99, zln_99, zak_100, zln_100, zak_101, zln_101, zak_102, zln_102, zak_103, zln_103, zak_104, zln_104, zak_105, zln_105, zak_108, zln_108, zak_109, zln_109, Nat.reduceLeDiff, zclr_I, zclr_R, zclr_L, zclr_U, reduceIte, Int.reduceEq, Int.reduceLT, Int.reduceLE, Int.reduceNeg, not_true_eq_false, not_false_eq_true, or_true, true_or, or_false, false_or, and_true, true_and, and_false, false_and, z01_or]
          exact d1 F Q
      · rw [(d3 p p0 p1).2 q q0]
        constructor
        · rintro (z | ⟨l, l0, l1, l2⟩)
          · exact Or.inl z
          · exact Or.inr ⟨l, by omega, l1, l2⟩
        · rintro (z | ⟨l, l0, l1, l2⟩)
          · exact Or.inl z
          · by_cases el : l = t
            · subst el
              exact absurd ⟨l2.1, l2.2.1⟩ hc
            · exact Or.inr ⟨l, by omega, l1, l2⟩
theorem lp23b (v b h : Int) : ∀ (k : Nat) (t : Int) (s : zS), 0 ≤ t → t + k = s 3 0 3 → s 3 0 3 ≤ 8 → (∀ l : Int, 0 ≤ l → l < s 3 0 3 → (0 ≤ s 12 l 0 ∧ s 12 l 0 ≤ 5) ∧ 0 ≤ s 12 l 1 ∧ s 12 l 1 ≤ 5) → (∀ p : Int, 0 ≤ p → p < 6 → In6 (s 50 0 p)) → ∃ s1 : zS, (∀ (F : List zFr) (Q : List zV → zS → Prop), Ev ((23, 61, [zR 3 0, zI v, zI b, zI h, zI t], []) :: F) s Q = Ev ((23, 102, [zR 3 0, zI v, zI b, zI h, zI (s 3 0 3)], []) :: F) s1 Q) ∧ (∀ g : Nat, ¬ g = 50 → s1 g = s g) ∧ ∀ p : Int, 0 ≤ p → p < 6 → In6 (s1 50 0 p) ∧ ∀ q : Int, 0 ≤ q → (bi (s1 50 0 p) q ↔ bi (s 50 0 p) q ∨ ∃ l : Int, t ≤ l ∧ l < s 3 0 3 ∧ (s 12 l 3 = 0 ∧ s 12 l 2 ≤ v) ∧ p = (if h = 0 then s 12 l 0 else s 12 l 1) ∧ q = (if h = 0 then s 12 l 1 else s 12 l 0)) := by
  intro k
  induction k with
  | zero =>
    intro t s h0 h1 h2 hW hX
    have e1 : (s 3 0 3 ≤ t) = True := eq_true (by omega)
    have e2 : t = s 3 0 3 := by omega
    refine ⟨s, fun F Q => ?_, fun _ _ => rfl, fun p p0 p1 => ⟨hX p p0 p1, fun q q0 => ⟨Or.inl, fun z => z.elim id (fun ⟨l, l0, l1, _⟩ => by omega)⟩⟩⟩
    rw [r23_61]
    simp only [r23_63, r23_64, r23_67, r23_70, r23_71, r23_74, r23_76, r23_77, r23_78, r23_81, r23_84, r23_85, r23_86, r23_89, r23_91, r23_92, r23_93, r23_96, r23_99, e1, zclr_I, zclr_R, zclr_L, zclr_U, reduceIte, Int.reduceEq, Int.reduceLT, Int.reduceLE, Int.reduceNeg, not_true_eq_false, not_false_eq_true, or_true, true_or, or_false, false_or, and_true, true_and, and_false, false_and, z01_or]
    rw [e2]
  | succ k ih =>
    intro t s h0 h1 h2 hW hX
    have e1 : (s 3 0 3 ≤ t) = False := eq_false (by omega)
    have b1 : (0 ≤ t ∧ t < 8) = True := eq_true (by omega)
    have w1 : w32 (t + 1) = t + 1 := w32_id (by omega) (by omega)
    obtain ⟨y1, y2⟩ := hW t h0 (by omega)
    by_cases hc : (s 12 t 3 = 0 ∧ s 12 t 2 ≤ v)
    · have a0 : 0 ≤ (if h = 0 then s 12 t 0 else s 12 t 1) ∧ (if h = 0 then s 12 t 0 else s 12 t 1) < 6 := by
        by_cases hh : h = 0
        · rw [if_pos hh]; omega
        · rw [if_neg hh]; omega
      have c0 : 0 ≤ (if h = 0 then s 12 t 1 else s 12 t 0) ∧ (if h = 0 then s 12 t 1 else s 12 t 0) < 6 := by
        by_cases hh : h = 0
        · rw [if_pos hh]; omega
        · rw [if_neg hh]; omega
      have kJ := fun (m pc : Nat) (ls st : List zV) (fs : List zFr) (Q : List zV → zS → Prop) => k_joinS (m := m) (pc := pc) (ls := ls) (st := st) (fs := fs) (Q := Q) (s := s) t h _ _ rfl rfl a0
      generalize hA : (if h = 0 then s 12 t 0 else s 12 t 1) = A at *
      generalize hB : (if h = 0 then s 12 t 1 else s 12 t 0) = B at *
      have g3 : zup s 50 0 A (zor (s 50 0 A) (zshl 1 B)) 3 = s 3 := zup_ng (by omega)
      have gw : zup s 50 0 A (zor (s 50 0 A) (zshl 1 B)) 12 = s 12 := zup_ng (by omega)
      obtain ⟨o1, o2⟩ := or_6 (hX A a0.1 a0.2) (sh_6 c0.1 c0.2).1
      obtain ⟨s1, d1, d2, d3⟩ := ih (t + 1) (zup s 50 0 A (zor (s 50 0 A) (zshl 1 B))) (by omega) (by rw [g3]; omega) (by rw [g3]; exact h2) (by rw [g3, gw]; exact hW) (fun p p0 p1 => by
        by_cases e : p = A
        · rw [e, zup_eq]; exact o1
        · rw [zup_nk e]; exact hX p p0 p1)
      rw [g3] at d1 d3
      rw [gw] at d3
      refine ⟨s1, fun F Q => ?_, fun g hg => by rw [d2 g hg, zup_ng hg], fun p p0 p1 => ⟨(d3 p p0 p1).1, fun q q0 => ?_⟩⟩
      · have q3 := z01_t hc
        rw [r23_61]
        simp only [r23_63, r23_64, r23_67, r23_70, r23_71, r23_74, r23_76, r23_77, r23_78, r23_81, r23_84, r23_85, r23_86, r23_89, r23_91, r23_92, r23_93, r23_96, r23_99, k_openS, kJ, e1, b1, q3, w1, zak_40, zln_40, zak_41, zln_41, zak_42, zln_42, zak_43, zln_43, zak_44, zln_44, zak_45, zln_45, zak_46, zln_46, zak_47, zln_47, zak_48, zln_48, zak_49, zln_49, zak_50, zln_50, zak_51, zln_51, zak_52, zln_52, zak_53, zln_53, zak_54, zln_54, zak_55, zln_55, zak_73, zln_73, zak_74, zln_74, zak_75, zln_75, zak_76, zln_76, zak_77, zln_77, zak_78, zln_78, zak_79, zln_79, zak_80, zln_80, zak_81, zln_81, zak_82, zln_82, zak_83, zln_83, zak_84, zln_84, zak_85, zln_85, zak_86, zln_86, zak_87, zln_87, zak_88, zln_88, zak_89, zln_89, zak_90, zln_90, zak_91, zln_91, zak_92, zln_92, zak_93, zln_93, zak_94, zln_94, zak_95, zln_95, zak_96, zln_96, zak_97, zln_97, zak_98, zln_98, zak_99, zln_99, zak_100, zln_100, zak_101, zln_101, zak_102, zln_102, zak_103, zln_103, zak_104, zln_104, zak_105, zln_105, zak_108, zln_108, zak_109, zln_109, Nat.reduceLeDiff, zclr_I, zclr_R, zclr_L, zclr_U, reduceIte, Int.reduceEq, Int.reduceLT, Int.reduceLE, Int.reduceNeg, not_true_eq_false, not_false_eq_true, or_true, true_or, or_false, false_or, and_true, true_and, and_false, false_and, z01_or]
        exact d1 F Q
      · rw [(d3 p p0 p1).2 q q0]
        constructor
        · rintro (z | ⟨l, l0, l1, l2⟩)
          · by_cases e : p = A
            · rw [e, zup_eq, o2 q q0] at z
              rcases z with z | z
              · left; rw [e]; exact z
              · right
                have := ((sh_6 c0.1 c0.2).2 q q0).mp z
                exact ⟨t, by omega, by omega, hc, by rw [e, hA], by rw [this, hB]⟩
            · rw [zup_nk e] at z
              exact Or.inl z
          · exact Or.inr ⟨l, by omega, l1, l2⟩
        · rintro (z | ⟨l, l0, l1, l2⟩)
          · left
            by_cases e : p = A
            · rw [e, zup_eq, o2 q q0]
              left; rw [← e]; exact z
            · rw [zup_nk e]; exact z
          · by_cases el : l = t
            · subst el
              left
              have l3 := l2.2
              rw [hA, hB] at l3
              rw [l3.1, zup_eq, o2 q q0]
              right
              exact ((sh_6 c0.1 c0.2).2 q q0).mpr l3.2
            · exact Or.inr ⟨l, by omega, l1, l2⟩
    · obtain ⟨s1, d1, d2, d3⟩ := ih (t + 1) s (by omega) (by omega) h2 hW hX
      refine ⟨s1, fun F Q => ?_, d2, fun p p0 p1 => ⟨(d3 p p0 p1).1, fun q q0 => ?_⟩⟩
      · rw [r23_61]
        have q3 := z01_f hc
        simp only [r23_63, r23_64, r23_67, r23_70, r23_71, r23_74, r23_76, r23_77, r23_78, r23_81, r23_84, r23_85, r23_86, r23_89, r23_91, r23_92, r23_93, r23_96, r23_99, k_openS, e1, b1, q3, w1, zak_40, zln_40, zak_41, zln_41, zak_42, zln_42, zak_43, zln_43, zak_44, zln_44, zak_45, zln_45, zak_46, zln_46, zak_47, zln_47, zak_48, zln_48, zak_49, zln_49, zak_50, zln_50, zak_51, zln_51, zak_52, zln_52, zak_53, zln_53, zak_54, zln_54, zak_55, zln_55, zak_73, zln_73, zak_74, zln_74, zak_75, zln_75, zak_76, zln_76, zak_77, zln_77, zak_78, zln_78, zak_79, zln_79, zak_80, zln_80, zak_81, zln_81, zak_82, zln_82, zak_83, zln_83, zak_84, zln_84, zak_85, zln_85, zak_86, zln_86, zak_87, zln_87, zak_88, zln_88, zak_89, zln_89, zak_90, zln_90, zak_91, zln_91, zak_92, zln_92, zak_93, zln_93, zak_94, zln_94, zak_95, zln_95, zak_96, zln_96, zak_97, zln_97, zak_98, zln_98, zak_99, zln_99, zak_100, zln_100, zak_101, zln_101, zak_102, zln_102, zak_103, zln_103, zak_104, zln_104, zak_105, zln_105, zak_108, zln_108, zak_109, zln_109, Nat.reduceLeDiff, zclr_I, zclr_R, zclr_L, zclr_U, reduceIte, Int.reduceEq, Int.reduceLT, Int.reduceLE, Int.reduceNeg, not_true_eq_false, not_false_eq_true, or_true, true_or, or_false, false_or, and_true, true_and, and_false, false_and, z01_or]
        exact d1 F Q
      · rw [(d3 p p0 p1).2 q q0]
        constructor
        · rintro (z | ⟨l, l0, l1, l2⟩)
          · exact Or.inl z
          · exact Or.inr ⟨l, by omega, l1, l2⟩
        · rintro (z | ⟨l, l0, l1, l2⟩)
          · exact Or.inl z
          · by_cases el : l = t
            · subst el
              exact absurd l2.1 hc
            · exact Or.inr ⟨l, by omega, l1, l2⟩
theorem Clo_c {E E' : Int → Int → Prop} {m r : Int} (h : ∀ p q : Int, 0 ≤ p → (E p q ↔ E' p q)) (hc : Clo E m r) : Clo E' m r := by
  obtain ⟨h1, h2, h3, h4⟩ := hc
  refine ⟨h1, h2, fun p q p0 hp he => h3 p q p0 hp ((h p q p0).mpr he), fun z hz hm => h4 z (fun p q p0 hp he => hz p q p0 hp ((h p q p0).mp he)) hm⟩
theorem k_reachC {L : Nat} {s : zS} (hs : Inv L s) (v b h : Int) (v0 : 0 ≤ v) : ∃ (s1 : zS) (r : Int), Clo (Edg s v h b) (s 11 0 10) r ∧ (∀ g : Nat, ¬ g = 50 → s1 g = s g) ∧ ∀ (m pc : Nat) (ls st : List zV) (fs : List zFr) (Q : List zV → zS → Prop), Ev ((23, 0, [zR 3 0, zI v, zI b, zI h, zU], []) :: (m, pc, ls, st) :: fs) s Q = Ev ((m, pc, ls, zI r :: st) :: fs) s1 Q := by
  obtain ⟨h1, h2, h3, h4, h5, h6, h7, h8, h9, h10, h11, h12, h13, h14, h15, h16, h17, h18, h19⟩ := id hs
  obtain ⟨h17a, h17b, -⟩ := h17
  obtain ⟨h18a, h18b⟩ := h18
  have h60 := h6.2
  have h70 := h7.2
  have e6 := h6.1
  have e7 := h7.1
  have h100 := h10.2
  have f3 : zfl s 50 0 0 6 0 3 = s 3 := zfl_ng (by omega)
  have f9 : zfl s 50 0 0 6 0 9 = s 9 := zfl_ng (by omega)
  obtain ⟨s1, c1, c2, c3⟩ := lp23a v b h (s 3 0 1).toNat 0 (zfl s 50 0 0 6 0) (by omega) (by rw [f3]; omega) (by rw [f3]; omega) (by
    rw [f3, f9]
    intro l l0 l1
    have := h17a l l0 (by omega)
    omega) (fun p p0 p1 => by rw [zfl_in p0 p1]; exact ⟨by omega, by omega⟩)
  rw [f3] at c1 c3
  rw [f9] at c3
  have g3 : s1 3 = s 3 := by rw [c2 3 (by omega), f3]
  have g12 : s1 12 = s 12 := by rw [c2 12 (by omega), zfl_ng (by omega)]
  obtain ⟨s2, d1, d2, d3⟩ := lp23b v b h (s 3 0 3).toNat 0 s1 (by omega) (by rw [g3]; omega) (by rw [g3]; omega) (by
    rw [g3, g12]
    intro l l0 l1
    have := h18a l l0 (by omega)
    omega) (fun p p0 p1 => (c3 p p0 p1).1)
  rw [g3] at d1 d3
  rw [g12] at d3
  have hx : ∀ p : Int, In6 (exS s2 p) := by
    intro p
    unfold exS
    by_cases hp : 0 ≤ p ∧ p < 6
    · rw [if_pos hp]; exact (d3 p hp.1 hp.2).1
    · rw [if_neg hp]; exact ⟨by omega, by omega⟩
  have k3 : s2 3 = s 3 := by rw [d2 3 (by omega), g3]
  have em : s 3 0 4 = s 11 0 10 := h10.1
  have hE : ∀ p q : Int, 0 ≤ p → ((0 ≤ q ∧ bi (exS s2 p) q) ↔ Edg s v h b p q) := by
    intro p q p0
    constructor
    · rintro ⟨q0, hb⟩
      have p1 : p < 6 := by
        refine Classical.byContradiction fun hn => ?_
        rw [show exS s2 p = 0 from if_neg (by omega)] at hb
        exact bi_0 q hb
      rw [show exS s2 p = s2 50 0 p from if_pos ⟨p0, p1⟩, (d3 p p0 p1).2 q q0, (c3 p p0 p1).2 q q0, zfl_in p0 p1] at hb
      rcases hb with (hb | ⟨l, l0, l1, l2, l3, l4, l5⟩) | ⟨l, l0, l1, l3, l4, l5⟩
      · exact absurd hb (bi_0 q)
      · obtain ⟨y1, y2, y3, y4⟩ := h17a l l0 (by omega)
        refine Or.inl ⟨l, l0, by omega, by omega, l2, ?_, ?_⟩
        · rw [l4, y1.1, y2.1]
        · rw [l5, y1.1, y2.1]
      · obtain ⟨y1, y2, y3⟩ := h18a l l0 (by omega)
        refine Or.inr ⟨l, l0, by omega, by omega, ?_, ?_⟩
        · rw [l4, y1.1, y2.1]
        · rw [l5, y1.1, y2.1]
    · intro hb
      have q0 : (0 ≤ q ∧ q < 6) ∧ p < 6 := by
        rcases hb with ⟨l, l0, l1, l2, l3, l4, l5⟩ | ⟨l, l0, l1, l3, l4, l5⟩
        · obtain ⟨y1, y2, y3, y4⟩ := h17a l l0 l1
          by_cases hh : h = 0
          · rw [if_pos hh] at l4 l5; omega
          · rw [if_neg hh] at l4 l5; omega
        · obtain ⟨y1, y2, y3⟩ := h18a l l0 l1
          by_cases hh : h = 0
          · rw [if_pos hh] at l4 l5; omega
          · rw [if_neg hh] at l4 l5; omega
      refine ⟨q0.1.1, ?_⟩
      rw [show exS s2 p = s2 50 0 p from if_pos ⟨p0, q0.2⟩, (d3 p p0 q0.2).2 q q0.1.1, (c3 p p0 q0.2).2 q q0.1.1]
      rcases hb with ⟨l, l0, l1, l2, l3, l4, l5⟩ | ⟨l, l0, l1, l3, l4, l5⟩
      · obtain ⟨y1, y2, y3, y4⟩ := h17a l l0 l1
        have y5 := h17b l l0 (by omega)
        exact Or.inl (Or.inr ⟨l, l0, by omega, l3, ⟨by omega, by omega⟩, by rw [l4, y1.1, y2.1], by rw [l5, y1.1, y2.1]⟩)
      · obtain ⟨y1, y2, y3⟩ := h18a l l0 l1
        have y5 := h18b l l0 (by omega)
        exact Or.inr ⟨l, l0, by omega, ⟨y5, by omega⟩, by rw [l4, y1.1, y2.1], by rw [l5, y1.1, y2.1]⟩
  refine ⟨s2, iterI (fun x => foldI (swC s2) x 0 6) 5 (zshl 1 (s2 3 0 4)), ?_, fun g hg => by rw [d2 g hg, c2 g hg, zfl_ng hg], ?_⟩
  · rw [k3, em]
    refine Clo_c hE (Rnd_clo (Rnd_C hx) (fun p q he => ⟨he.1, In6_bi (hx p) he.1 he.2⟩) (by omega) (by omega) 5 (by omega))
  · intro m pc ls st fs Q
    simp only [r23_0, r23_1, r23_4, zclr_I, zclr_R, zclr_L, zclr_U, reduceIte, Int.reduceEq, Int.reduceLT, Int.reduceLE, Int.reduceNeg, not_true_eq_false, not_false_eq_true, or_true, true_or, or_false, false_or, and_true, true_and, and_false, false_and, z01_or]
    rw [r23_5, k_fill 50 0 6 0 zU zU s zak_50 (by omega) zln_50 (by omega) (by omega)]
    simp only [r23_8, r23_9, zclr_I, zclr_R, zclr_L, zclr_U, reduceIte, Int.reduceEq, Int.reduceLT, Int.reduceLE, Int.reduceNeg, not_true_eq_false, not_false_eq_true, or_true, true_or, or_false, false_or, and_true, true_and, and_false, false_and, z01_or]
    rw [c1]
    simp only [r23_58, r23_59, zclr_I, zclr_R, zclr_L, zclr_U, reduceIte, Int.reduceEq, Int.reduceLT, Int.reduceLE, Int.reduceNeg, not_true_eq_false, not_false_eq_true, or_true, true_or, or_false, false_or, and_true, true_and, and_false, false_and, z01_or]
    rw [d1]
    simp only [r23_102, zclr_I, zclr_R, zclr_L, zclr_U, reduceIte, Int.reduceEq, Int.reduceLT, Int.reduceLE, Int.reduceNeg, not_true_eq_false, not_false_eq_true, or_true, true_or, or_false, false_or, and_true, true_and, and_false, false_and, z01_or]
    rw [r23_103, k_flood hx (by rw [k3, em]; omega)]
    simp only [r23_106, zclr_I, zclr_R, zclr_L, zclr_U, reduceIte, Int.reduceEq, Int.reduceLT, Int.reduceLE, Int.reduceNeg, not_true_eq_false, not_false_eq_true, or_true, true_or, or_false, false_or, and_true, true_and, and_false, false_and, z01_or]

section
variable {s : zS}
theorem mv1 (p w a : Int) (p0 : 0 ≤ p) (p1 : p < 10) (hT : s 6 0 3 ≤ 5) (hA : ∀ t : Int, 0 ≤ t → t < s 6 0 3 → 0 ≤ s 8 t 4 ∧ s 8 t 4 < 1024) (hw : w = -1 ∨ 0 ≤ w ∧ w < s 6 0 3) : ∃ s1 : zS, (∀ (F : List zFr) (Q : List zV → zS → Prop), Ev ((49, 0, [zR 6 0, zI p, zI w, zI a], []) :: F) s Q = Ev ((49, 27, [zR 6 0, zI p, zI w, zI a], []) :: F) s1 Q) ∧ (∀ g : Nat, ¬ g = 8 → s1 g = s g) ∧ (∀ t k : Int, ¬ k = 4 → s1 8 t k = s 8 t k) ∧ (∀ t : Int, s 6 0 3 ≤ t → s1 8 t 4 = s 8 t 4) ∧ ∀ t : Int, 0 ≤ t → t < s 6 0 3 → 0 ≤ s1 8 t 4 ∧ s1 8 t 4 < 1024 ∧ ∀ q : Int, 0 ≤ q → (bi (s1 8 t 4) q ↔ bi (s 8 t 4) q ∧ ¬ (t = w ∧ q = p)) := by
  rcases hw with hw | hw
  · refine ⟨s, fun F Q => ?_, fun _ _ => rfl, fun _ _ _ => rfl, fun _ _ => rfl, fun t t0 t1 => ⟨(hA t t0 t1).1, (hA t t0 t1).2, fun q q0 => ⟨fun h => ⟨h, fun z => by omega⟩, fun h => h.1⟩⟩⟩
    have q1 : z01 (0 ≤ w ∧ w < s 6 0 3) = 0 := z01_f (by omega)
    simp only [r49_0, r49_1, r49_2, r49_5, r49_8, r49_9, r49_12, r49_13, r49_14, r49_15, r49_18, r49_19, r49_20, r49_21, r49_22, r49_23, r49_24, k_hasTeacher, q1, zclr_I, zclr_R, zclr_L, zclr_U, reduceIte, Int.reduceEq, Int.reduceLT, Int.reduceLE, Int.reduceNeg, not_true_eq_false, not_false_eq_true, or_true, true_or, or_false, false_or, and_true, true_and, and_false, false_and, z01_or]
  · obtain ⟨b0, b1, b2⟩ := clr_bi (hA w hw.1 hw.2).1 (hA w hw.1 hw.2).2 p0 p1
    refine ⟨zup s 8 w 4 (zand (s 8 w 4) (zxor (zshl 1 p) (-1))), fun F Q => ?_, fun g hg => zup_ng hg, fun t k hk => zup_nk hk, fun t ht => zup_ni (by omega), fun t t0 t1 => ?_⟩
    · have q1 := z01_t hw
      have c1 : (0 ≤ w ∧ w < 5) = True := eq_true (by omega)
      simp only [r49_0, r49_1, r49_2, r49_5, r49_8, r49_9, r49_12, r49_13, r49_14, r49_15, r49_18, r49_19, r49_20, r49_21, r49_22, r49_23, r49_24, k_hasTeacher, q1, c1, zak_40, zln_40, zak_41, zln_41, zak_42, zln_42, zak_43, zln_43, zak_44, zln_44, zak_45, zln_45, zak_46, zln_46, zak_47, zln_47, zak_48, zln_48, zak_49, zln_49, zak_50, zln_50, zak_51, zln_51, zak_52, zln_52, zak_53, zln_53, zak_54, zln_54, zak_55, zln_55, zak_73, zln_73, zak_74, zln_74, zak_75, zln_75, zak_76, zln_76, zak_77, zln_77, zak_78, zln_78, zak_79, zln_79, zak_80, zln_80, zak_81, zln_81, zak_82, zln_82, zak_83, zln_83, zak_84, zln_84, zak_85, zln_85, zak_86, zln_86, zak_87, zln_87, zak_88, zln_88, zak_89, zln_89, zak_90, zln_90, zak_91, zln_91, zak_92, zln_92, zak_93, zln_93, zak_94, zln_94, zak_95, zln_95, zak_96, zln_96, zak_97, zln_97, zak_98, zln_98, zak_99, zln_99, zak_100, zln_100, zak_101, zln_101, zak_102, zln_102, zak_103, zln_103, zak_104, zln_104, zak_105, zln_105, zak_108, zln_108, zak_109, zln_109, Nat.reduceLeDiff, zclr_I, zclr_R, zclr_L, zclr_U, reduceIte, Int.reduceEq, Int.reduceLT, Int.reduceLE, Int.reduceNeg, not_true_eq_false, not_false_eq_true, or_true, true_or, or_false, false_or, and_true, true_and, and_false, false_and, z01_or]
    · by_cases e : t = w
      · subst e
        rw [zup_eq]
        refine ⟨b0, b1, fun q q0 => ?_⟩
        rw [b2 q q0]
        exact ⟨fun h => ⟨h.1, fun z => h.2 z.2⟩, fun h => ⟨h.1, fun z => h.2 ⟨rfl, z⟩⟩⟩
      · rw [zup_ni e]
        exact ⟨(hA t t0 t1).1, (hA t t0 t1).2, fun q q0 => ⟨fun h => ⟨h, fun z => e z.1⟩, fun h => h.1⟩⟩
theorem mv2 (p w a : Int) (p0 : 0 ≤ p) (p1 : p < 10) (hT : s 6 0 3 ≤ 5) (hA : ∀ t : Int, 0 ≤ t → t < s 6 0 3 → 0 ≤ s 8 t 4 ∧ s 8 t 4 < 1024) (hw : a = -1 ∨ 0 ≤ a ∧ a < s 6 0 3) : ∃ s1 : zS, (∀ (m pc : Nat) (ls st : List zV) (fs : List zFr) (Q : List zV → zS → Prop), Ev ((49, 27, [zR 6 0, zI p, zI w, zI a], []) :: (m, pc, ls, st) :: fs) s Q = Ev ((m, pc, ls, st) :: fs) s1 Q) ∧ (∀ g : Nat, ¬ g = 8 → s1 g = s g) ∧ (∀ t k : Int, ¬ k = 4 → s1 8 t k = s 8 t k) ∧ (∀ t : Int, s 6 0 3 ≤ t → s1 8 t 4 = s 8 t 4) ∧ ∀ t : Int, 0 ≤ t → t < s 6 0 3 → 0 ≤ s1 8 t 4 ∧ s1 8 t 4 < 1024 ∧ ∀ q : Int, 0 ≤ q → (bi (s1 8 t 4) q ↔ bi (s 8 t 4) q ∨ (t = a ∧ q = p)) := by
  rcases hw with hw | hw
  · refine ⟨s, fun m pc ls st fs Q => ?_, fun _ _ => rfl, fun _ _ _ => rfl, fun _ _ => rfl, fun t t0 t1 => ⟨(hA t t0 t1).1, (hA t t0 t1).2, fun q q0 => ⟨Or.inl, fun h => h.elim id (fun z => by omega)⟩⟩⟩
    have q1 : z01 (0 ≤ a ∧ a < s 6 0 3) = 0 := z01_f (by omega)
    simp only [r49_27, r49_28, r49_29, r49_32, r49_35, r49_36, r49_39, r49_40, r49_41, r49_42, r49_45, r49_46, r49_47, r49_48, r49_49, r49_52, k_hasTeacher, q1, zclr_I, zclr_R, zclr_L, zclr_U, reduceIte, Int.reduceEq, Int.reduceLT, Int.reduceLE, Int.reduceNeg, not_true_eq_false, not_false_eq_true, or_true, true_or, or_false, false_or, and_true, true_and, and_false, false_and, z01_or]
  · obtain ⟨b0, b1, b2⟩ := set_bi (hA a hw.1 hw.2).1 (hA a hw.1 hw.2).2 p0 p1
    refine ⟨zup s 8 a 4 (zor (s 8 a 4) (zshl 1 p)), fun m pc ls st fs Q => ?_, fun g hg => zup_ng hg, fun t k hk => zup_nk hk, fun t ht => zup_ni (by omega), fun t t0 t1 => ?_⟩
    · have q1 := z01_t hw
      have c1 : (0 ≤ a ∧ a < 5) = True := eq_true (by omega)
      simp only [r49_27, r49_28, r49_29, r49_32, r49_35, r49_36, r49_39, r49_40, r49_41, r49_42, r49_45, r49_46, r49_47, r49_48, r49_49, r49_52, k_hasTeacher, q1, c1, zak_40, zln_40, zak_41, zln_41, zak_42, zln_42, zak_43, zln_43, zak_44, zln_44, zak_45, zln_45, zak_46, zln_46, zak_47, zln_47, zak_48, zln_48, zak_49, zln_49, zak_50, zln_50, zak_51, zln_51, zak_52, zln_52, zak_53, zln_53, zak_54, zln_54, zak_55, zln_55, zak_73, zln_73, zak_74, zln_74, zak_75, zln_75, zak_76, zln_76, zak_77, zln_77, zak_78, zln_78, zak_79, zln_79, zak_80, zln_80, zak_81, zln_81, zak_82, zln_82, zak_83, zln_83, zak_84, zln_84, zak_85, zln_85, zak_86, zln_86, zak_87, zln_87, zak_88, zln_88, zak_89, zln_89, zak_90, zln_90, zak_91, zln_91, zak_92, zln_92, zak_93, zln_93, zak_94, zln_94, zak_95, zln_95, zak_96, zln_96, zak_97, zln_97, zak_98, zln_98, zak_99, zln_99, zak_100, zln_100, zak_101, zln_101, zak_102, zln_102, zak_103, zln_103, zak_104, zln_104, zak_105, zln_105, zak_108, zln_108, zak_109, zln_109, Nat.reduceLeDiff, zclr_I, zclr_R, zclr_L, zclr_U, reduceIte, Int.reduceEq, Int.reduceLT, Int.reduceLE, Int.reduceNeg, not_true_eq_false, not_false_eq_true, or_true, true_or, or_false, false_or, and_true, true_and, and_false, false_and, z01_or]
    · by_cases e : t = a
      · subst e
        rw [zup_eq]
        refine ⟨b0, b1, fun q q0 => ?_⟩
        rw [b2 q q0]
        exact ⟨fun h => h.imp id (fun z => ⟨rfl, z⟩), fun h => h.imp id (fun z => z.2)⟩
      · rw [zup_ni e]
        exact ⟨(hA t t0 t1).1, (hA t t0 t1).2, fun q q0 => ⟨Or.inl, fun h => h.elim id (fun z => absurd z.1 e)⟩⟩
theorem mv3 (p w a : Int) (p0 : 0 ≤ p) (p1 : p < 10) (hT : s 6 0 3 ≤ 5) (hA : ∀ t : Int, 0 ≤ t → t < s 6 0 3 → 0 ≤ s 8 t 4 ∧ s 8 t 4 < 1024) (hw : w = -1 ∨ 0 ≤ w ∧ w < s 6 0 3) (ha : a = -1 ∨ 0 ≤ a ∧ a < s 6 0 3) : ∃ s1 : zS, (∀ (m pc : Nat) (ls st : List zV) (fs : List zFr) (Q : List zV → zS → Prop), Ev ((49, 0, [zR 6 0, zI p, zI w, zI a], []) :: (m, pc, ls, st) :: fs) s Q = Ev ((m, pc, ls, st) :: fs) s1 Q) ∧ (∀ g : Nat, ¬ g = 8 → s1 g = s g) ∧ (∀ t k : Int, ¬ k = 4 → s1 8 t k = s 8 t k) ∧ (∀ t : Int, s 6 0 3 ≤ t → s1 8 t 4 = s 8 t 4) ∧ ∀ t : Int, 0 ≤ t → t < s 6 0 3 → 0 ≤ s1 8 t 4 ∧ s1 8 t 4 < 1024 ∧ ∀ q : Int, 0 ≤ q → (bi (s1 8 t 4) q ↔ (bi (s 8 t 4) q ∧ ¬ (t = w ∧ q = p)) ∨ (t = a ∧ q = p)) := by
  obtain ⟨s1, c1, c2, c3, c4, c5⟩ := mv1 p w a p0 p1 hT hA hw
  have e6 : s1 6 0 3 = s 6 0 3 := by rw [c2 6 (by omega)]
  obtain ⟨s2, d1, d2, d3, d4, d5⟩ := mv2 (s := s1) p w a p0 p1 (by rw [e6]; exact hT) (fun t t0 t1 => ⟨(c5 t t0 (by rw [← e6]; exact t1)).1, (c5 t t0 (by rw [← e6]; exact t1)).2.1⟩) (by rw [e6]; exact ha)
  rw [e6] at d4 d5
  refine ⟨s2, fun m pc ls st fs Q => by rw [c1, d1], fun g hg => by rw [d2 g hg, c2 g hg], fun t k hk => by rw [d3 t k hk, c3 t k hk], fun t ht => by rw [d4 t ht, c4 t ht], fun t t0 t1 => ?_⟩
  obtain ⟨x0, x1, x2⟩ := d5 t t0 t1
  refine ⟨x0, x1, fun q q0 => ?_⟩
  rw [x2 q q0, (c5 t t0 t1).2.2 q q0]
end
theorem pr_wish (L : Nat) : Pr_wish (Inv L) := by
  intro a b ha hb s hs
  obtain ⟨h1, h2, h3, h4, h5, h6, h7, h8, h9, h10, h11, h12, h13, h14, h15, h16, h17⟩ := id hs
  have eP := h4.1
  have h40 := h4.2
  have eT := h5.1
  have h50 := h5.2
  have w0 : w32 (s 11 0 0 - 1) = s 11 0 0 - 1 := w32_id (by omega) (by omega)
  have w1 : w32 (s 11 0 1 - 1) = s 11 0 1 - 1 := w32_id (by omega) (by omega)
  by_cases hc : 0 ≤ a ∧ a < s 6 0 1
  · have q1 := z01_t hc
    have q2 : z01 (0 ≤ a ∧ a ≤ s 11 0 0 - 1) = 1 := z01_t (by omega)
    have b1 : (0 ≤ a ∧ a < 10) = True := eq_true (by omega)
    by_cases hq : b = -1 ∨ (0 ≤ b ∧ b < s 6 0 3)
    · obtain ⟨k1, k2, k3, k4, k5, k6, k7⟩ := h12 a (by omega) (by omega)
      have hA : ∀ t : Int, 0 ≤ t → t < s 6 0 3 → 0 ≤ s 8 t 4 ∧ s 8 t 4 < 1024 ∧ (bi (s 8 t 4) a ↔ s 79 0 a = t) := by
        intro t t0 t1
        obtain ⟨g1, g2, g3, g4, g5, g6, g7, g8⟩ := h15 t t0 (by omega)
        refine ⟨g6, g7, ?_⟩
        rw [g8 a hc.1]
        exact ⟨fun z => z.2, fun z => ⟨by omega, z⟩⟩
      have hw : s 79 0 a = -1 ∨ 0 ≤ s 79 0 a ∧ s 79 0 a < s 6 0 3 := by omega
      obtain ⟨s1, c1, c2, c3, c4, c5⟩ := mv3 (s := s) a (s 79 0 a) b hc.1 (by omega) (by omega) (fun t t0 t1 => ⟨(hA t t0 t1).1, (hA t t0 t1).2.1⟩) hw hq
      have kB := fun (m pc : Nat) (ls st : List zV) (fs : List zFr) (Q : List zV → zS → Prop) => k_askedBy (m := m) (pc := pc) (ls := ls) (st := st) (fs := fs) (Q := Q) (s := s) a (s 79 0 a) zU hc.1 (by omega) (by omega) (by omega) hA hw
      refine ⟨s 79 0 a, s1, zup s1 79 0 a b, ?_, ?_, ?_, c2 110 (by omega), c2 111 (by omega)⟩
      · intro m pc ls st fs Q
        rcases hq with hq | hq
        · have e1 : (b = -1) = True := eq_true hq
          simp only [r78_0, r78_1, r78_4, r78_5, r78_8, r78_11, r78_12, r78_13, r78_16, r78_17, r78_20, r78_21, r78_24, r78_27, r78_28, r78_30, r78_33, r78_34, r78_35, r78_38, r78_39, r78_42, r78_43, r78_44, r78_47, r78_48, r78_49, r78_50, r78_53, r78_54, k_hasPupil, q1, e1, kB, c1, zclr_I, zclr_R, zclr_L, zclr_U, reduceIte, Int.reduceEq, Int.reduceLT, Int.reduceLE, Int.reduceNeg, not_true_eq_false, not_false_eq_true, or_true, true_or, or_false, false_or, and_true, true_and, and_false, false_and, z01_or]
        · have e1 : (b = -1) = False := eq_false (by omega)
          have q4 := z01_t hq
          simp only [r78_0, r78_1, r78_4, r78_5, r78_8, r78_11, r78_12, r78_13, r78_16, r78_17, r78_20, r78_21, r78_24, r78_27, r78_28, r78_30, r78_33, r78_34, r78_35, r78_38, r78_39, r78_42, r78_43, r78_44, r78_47, r78_48, r78_49, r78_50, r78_53, r78_54, k_hasPupil, k_hasTeacher, q1, q4, e1, kB, c1, zclr_I, zclr_R, zclr_L, zclr_U, reduceIte, Int.reduceEq, Int.reduceLT, Int.reduceLE, Int.reduceNeg, not_true_eq_false, not_false_eq_true, or_true, true_or, or_false, false_or, and_true, true_and, and_false, false_and, z01_or]
      · intro m pc ls st fs Q
        have f1 : s1 11 = s 11 := c2 11 (by omega)
        have f2 : s1 79 = s 79 := c2 79 (by omega)
        rcases hq with hq | hq
        · have e1 : (b = -1) = True := eq_true hq
          simp only [r132_0, r132_1, r132_2, r132_5, r132_8, r132_9, r132_10, r132_13, r132_14, r132_15, r132_18, r132_21, r132_22, r132_24, r132_27, r132_28, r132_29, r132_32, r132_33, r132_34, r132_35, r132_36, r132_39, r132_40, r132_41, r132_42, r132_43, k_isPupil, f1, f2, w0, q2, e1, b1, zak_40, zln_40, zak_41, zln_41, zak_42, zln_42, zak_43, zln_43, zak_44, zln_44, zak_45, zln_45, zak_46, zln_46, zak_47, zln_47, zak_48, zln_48, zak_49, zln_49, zak_50, zln_50, zak_51, zln_51, zak_52, zln_52, zak_53, zln_53, zak_54, zln_54, zak_55, zln_55, zak_73, zln_73, zak_74, zln_74, zak_75, zln_75, zak_76, zln_76, zak_77, zln_77, zak_78, zln_78, zak_79, zln_79, zak_80, zln_80, zak_81, zln_81, zak_82, zln_82, zak_83, zln_83, zak_84, zln_84, zak_85, zln_85, zak_86, zln_86, zak_87, zln_87, zak_88, zln_88, zak_89, zln_89, zak_90, zln_90, zak_91, zln_91, zak_92, zln_92, zak_93, zln_93, zak_94, zln_94, zak_95, zln_95, zak_96, zln_96, zak_97, zln_97, zak_98, zln_98, zak_99, zln_99, zak_100, zln_100, zak_101, zln_101, zak_102, zln_102, zak_103, zln_103, zak_104, zln_104, zak_105, zln_105, zak_108, zln_108, zak_109, zln_109, Nat.reduceLeDiff, zclr_I, zclr_R, zclr_L, zclr_U, reduceIte, Int.reduceEq, Int.reduceLT, Int.reduceLE, Int.reduceNeg, not_true_eq_false, not_false_eq_true, or_true, true_or, or_false, false_or, and_true, true_and, and_false, false_and, z01_or]
        · have e1 : (b = -1) = False := eq_false (by omega)
          have q4 : z01 (0 ≤ b ∧ b ≤ s 11 0 1 - 1) = 1 := z01_t (by omega)
          simp only [r132_0, r132_1, r132_2, r132_5, r132_8, r132_9, r132_10, r132_13, r132_14, r132_15, r132_18, r132_21, r132_22, r132_24, r132_27, r132_28, r132_29, r132_32, r132_33, r132_34, r132_35, r132_36, r132_39, r132_40, r132_41, r132_42, r132_43, k_isPupil, k_isTeacher, f1, f2, w0, w1, q2, q4, e1, b1, zak_40, zln_40, zak_41, zln_41, zak_42, zln_42, zak_43, zln_43, zak_44, zln_44, zak_45, zln_45, zak_46, zln_46, zak_47, zln_47, zak_48, zln_48, zak_49, zln_49, zak_50, zln_50, zak_51, zln_51, zak_52, zln_52, zak_53, zln_53, zak_54, zln_54, zak_55, zln_55, zak_73, zln_73, zak_74, zln_74, zak_75, zln_75, zak_76, zln_76, zak_77, zln_77, zak_78, zln_78, zak_79, zln_79, zak_80, zln_80, zak_81, zln_81, zak_82, zln_82, zak_83, zln_83, zak_84, zln_84, zak_85, zln_85, zak_86, zln_86, zak_87, zln_87, zak_88, zln_88, zak_89, zln_89, zak_90, zln_90, zak_91, zln_91, zak_92, zln_92, zak_93, zln_93, zak_94, zln_94, zak_95, zln_95, zak_96, zln_96, zak_97, zln_97, zak_98, zln_98, zak_99, zln_99, zak_100, zln_100, zak_101, zln_101, zak_102, zln_102, zak_103, zln_103, zak_104, zln_104, zak_105, zln_105, zak_108, zln_108, zak_109, zln_109, Nat.reduceLeDiff, zclr_I, zclr_R, zclr_L, zclr_U, reduceIte, Int.reduceEq, Int.reduceLT, Int.reduceLE, Int.reduceNeg, not_true_eq_false, not_false_eq_true, or_true, true_or, or_false, false_or, and_true, true_and, and_false, false_and, z01_or]
      · unfold Inv
        simp only [zclr_I, zclr_R, zclr_L, zclr_U, reduceIte, Int.reduceEq, Int.reduceLT, Int.reduceLE, Int.reduceNeg, not_true_eq_false, not_false_eq_true, or_true, true_or, or_false, false_or, and_true, true_and, and_false, false_and, z01_or, zup_g, Nat.reduceEqDiff, c2]
        refine ⟨h1, h2, h3, h4, h5, h6, h7, h8, h9, h10, h11, fun i i0 i1 => ?_, h13, h14, fun t t0 t1 => ?_, fun t t0 t1 => ?_, h17⟩
        · by_cases e : i = a
          · subst e
            simp only [zclr_I, zclr_R, zclr_L, zclr_U, reduceIte, Int.reduceEq, Int.reduceLT, Int.reduceLE, Int.reduceNeg, not_true_eq_false, not_false_eq_true, or_true, true_or, or_false, false_or, and_true, true_and, and_false, false_and, z01_or]
            exact ⟨k1, k2, k3, k4, k5, by omega, k7⟩
          · simp only [e, zclr_I, zclr_R, zclr_L, zclr_U, reduceIte, Int.reduceEq, Int.reduceLT, Int.reduceLE, Int.reduceNeg, not_true_eq_false, not_false_eq_true, or_true, true_or, or_false, false_or, and_true, true_and, and_false, false_and, z01_or]
            exact h12 i i0 i1
        · obtain ⟨g1, g2, g3, g4, g5, g6⟩ := h15 t t0 t1
          obtain ⟨x0, x1, x2⟩ := c5 t t0 (by omega)
          rw [c3 t 0 (by omega), c3 t 1 (by omega), c3 t 2 (by omega), c3 t 3 (by omega), c3 t 5 (by omega)]
          refine ⟨g1, g2, g3, g4, g5, x0, x1, fun p p0 => ?_⟩
          rw [x2 p p0, g6.2.2 p p0]
          by_cases e : p = a
          · subst e
            simp only [zclr_I, zclr_R, zclr_L, zclr_U, reduceIte, Int.reduceEq, Int.reduceLT, Int.reduceLE, Int.reduceNeg, not_true_eq_false, not_false_eq_true, or_true, true_or, or_false, false_or, and_true, true_and, and_false, false_and, z01_or]
            omega
          · simp only [e, zclr_I, zclr_R, zclr_L, zclr_U, reduceIte, Int.reduceEq, Int.reduceLT, Int.reduceLE, Int.reduceNeg, not_true_eq_false, not_false_eq_true, or_true, true_or, or_false, false_or, and_true, true_and, and_false, false_and, z01_or]
        · obtain ⟨g1, g2, g3, g4⟩ := h16 t t0 t1
          rw [c3 t 2 (by omega), c3 t 3 (by omega), c3 t 5 (by omega), c4 t (by omega)]
          exact ⟨g1, g2, g3, g4⟩
    · have e1 : (b = -1) = False := eq_false (by omega)
      have q4 : z01 (0 ≤ b ∧ b < s 6 0 3) = 0 := z01_f (by omega)
      have q5 : z01 (0 ≤ b ∧ b ≤ s 11 0 1 - 1) = 0 := z01_f (by omega)
      refine pf (-1000001) hs ?_ ?_ <;> intro m pc ls st fs Q
      · simp only [r78_0, r78_1, r78_4, r78_5, r78_8, r78_11, r78_12, r78_13, r78_16, r78_17, r78_20, r78_21, r78_24, r78_27, r78_28, r78_30, r78_33, r78_34, r78_35, r78_38, r78_39, r78_42, r78_43, r78_44, r78_47, r78_48, r78_49, r78_50, r78_53, r78_54, k_hasPupil, k_hasTeacher, k_finding, q1, q4, e1, zclr_I, zclr_R, zclr_L, zclr_U, reduceIte, Int.reduceEq, Int.reduceLT, Int.reduceLE, Int.reduceNeg, not_true_eq_false, not_false_eq_true, or_true, true_or, or_false, false_or, and_true, true_and, and_false, false_and, z01_or]
      · simp only [r132_0, r132_1, r132_2, r132_5, r132_8, r132_9, r132_10, r132_13, r132_14, r132_15, r132_18, r132_21, r132_22, r132_24, r132_27, r132_28, r132_29, r132_32, r132_33, r132_34, r132_35, r132_36, r132_39, r132_40, r132_41, r132_42, r132_43, k_isPupil, k_isTeacher, k_finds, zup_g, Nat.reduceEqDiff, w0, w1, q2, q5, e1, zclr_I, zclr_R, zclr_L, zclr_U, reduceIte, Int.reduceEq, Int.reduceLT, Int.reduceLE, Int.reduceNeg, not_true_eq_false, not_false_eq_true, or_true, true_or, or_false, false_or, and_true, true_and, and_false, false_and, z01_or]
  · have q1 := z01_f hc
    have q2 : z01 (0 ≤ a ∧ a ≤ s 11 0 0 - 1) = 0 := z01_f (by omega)
    refine pf (-1000001) hs ?_ ?_ <;> intro m pc ls st fs Q
    · simp only [r78_0, r78_1, r78_4, r78_5, r78_8, r78_11, r78_12, r78_13, r78_16, r78_17, r78_20, r78_21, r78_24, r78_27, r78_28, r78_30, r78_33, r78_34, r78_35, r78_38, r78_39, r78_42, r78_43, r78_44, r78_47, r78_48, r78_49, r78_50, r78_53, r78_54, k_hasPupil, k_finding, q1, zclr_I, zclr_R, zclr_L, zclr_U, reduceIte, Int.reduceEq, Int.reduceLT, Int.reduceLE, Int.reduceNeg, not_true_eq_false, not_false_eq_true, or_true, true_or, or_false, false_or, and_true, true_and, and_false, false_and, z01_or]
    · simp only [r132_0, r132_1, r132_2, r132_5, r132_8, r132_9, r132_10, r132_13, r132_14, r132_15, r132_18, r132_21, r132_22, r132_24, r132_27, r132_28, r132_29, r132_32, r132_33, r132_34, r132_35, r132_36, r132_39, r132_40, r132_41, r132_42, r132_43, k_isPupil, k_finds, zup_g, Nat.reduceEqDiff, w0, q2, zclr_I, zclr_R, zclr_L, zclr_U, reduceIte, Int.reduceEq, Int.reduceLT, Int.reduceLE, Int.reduceNeg, not_true_eq_false, not_false_eq_true, or_true, true_or, or_false, false_or, and_true, true_and, and_false, false_and, z01_or]

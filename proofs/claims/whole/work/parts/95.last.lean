/-! classes as planned -/
theorem lp57 : ∀ (k : Nat) (t : Int) (s : zS), 0 ≤ t → t + k = s 6 0 3 → s 6 0 3 ≤ 5 → ∃ s1 : zS, (∀ (m pc : Nat) (ls st : List zV) (fs : List zFr) (Q : List zV → zS → Prop), Ev ((57, 2, [zR 6 0, zR 47 0, zI t], []) :: (m, pc, ls, st) :: fs) s Q = Ev ((m, pc, ls, st) :: fs) s1 Q) ∧ (∀ g : Nat, ¬ g = 8 → s1 g = s g) ∧ (∀ u l : Int, ¬ l = 5 → s1 8 u l = s 8 u l) ∧ ∀ u : Int, s1 8 u 5 = if t ≤ u ∧ u < s 6 0 3 then s 47 0 u else s 8 u 5 := by
  intro k
  induction k with
  | zero =>
    intro t s t0 t1 hT
    have e1 : (s 6 0 3 ≤ t) = True := eq_true (by omega)
    refine ⟨s, fun m pc ls st fs Q => ?_, fun _ _ => rfl, fun _ _ _ => rfl, fun u => by rw [if_neg (by omega)]⟩
    rw [r57_2]
    simp only [r57_3, r57_4, r57_7, r57_34, e1, zclr_I, zclr_R, zclr_L, zclr_U, reduceIte, Int.reduceEq, Int.reduceLT, Int.reduceLE, Int.reduceNeg, not_true_eq_false, not_false_eq_true, or_true, true_or, or_false, false_or, and_true, true_and, and_false, false_and, z01_or]
  | succ k ih =>
    intro t s t0 t1 hT
    have e1 : (s 6 0 3 ≤ t) = False := eq_false (by omega)
    have e5 : ((5 : Int) ≤ t) = False := eq_false (by omega)
    have b1 : (0 ≤ t ∧ t < 5) = True := eq_true (by omega)
    have w1 : w32 (t + 1) = t + 1 := w32_id (by omega) (by omega)
    have g6 : zup s 8 t 5 (s 47 0 t) 6 = s 6 := zup_ng (by omega)
    have g47 : zup s 8 t 5 (s 47 0 t) 47 = s 47 := zup_ng (by omega)
    obtain ⟨s1, c1, c2, c3, c4⟩ := ih (t + 1) (zup s 8 t 5 (s 47 0 t)) (by omega) (by rw [g6]; omega) (by rw [g6]; exact hT)
    rw [g6, g47] at c4
    refine ⟨s1, fun m pc ls st fs Q => ?_, fun g hg => by rw [c2 g hg, zup_ng hg], fun u l hl => by rw [c3 u l hl, zup_nk hl], fun u => ?_⟩
    · rw [r57_2]
      simp only [r57_0, r57_1, r57_3, r57_4, r57_7, r57_10, r57_11, r57_12, r57_13, r57_16, r57_17, r57_20, r57_21, r57_22, r57_23, r57_24, r57_25, r57_28, r57_31, r57_34, e1, e5, b1, w1, zak_40, zln_40, zak_41, zln_41, zak_42, zln_42, zak_43, zln_43, zak_44, zln_44, zak_45, zln_45, zak_46, zln_46, zak_47, zln_47, zak_48, zln_48, zak_49, zln_49, zak_50, zln_50, zak_51, zln_51, zak_52, zln_52, zak_53, zln_53, zak_54, zln_54, zak_55, zln_55, zak_73, zln_73, zak_74, zln_74, zak_75, zln_75, zak_76, zln_76, zak_77, zln_77, zak_78, zln_78, zak_79, zln_79, zak_80, zln_80, zak_81, zln_81, zak_82, zln_82, zak_83, zln_83, zak_84, zln_84, zak_85, zln_85, zak_86, zln_86, zak_87, zln_87, zak_88, zln_88, zak_89, zln_89, zak_90, zln_90, zak_91, zln_91, zak_92, zln_92, zak_93, zln_93, zak_94, zln_94, zak_95, zln_95, zak_96, zln_96, zak_97, zln_97, zak_98, zln_98, zak_99, zln_99, zak_100, zln_100, zak_101, zln_101, zak_102, zln_102, zak_103, zln_103, zak_104, zln_104, zak_105, zln_105, zak_108, zln_108, zak_109, zln_109, Nat.reduceLeDiff, zclr_I, zclr_R, zclr_L, zclr_U, reduceIte, Int.reduceEq, Int.reduceLT, Int.reduceLE, Int.reduceNeg, not_true_eq_false, not_false_eq_true, or_true, true_or, or_false, false_or, and_true, true_and, and_false, false_and, z01_or]
      exact c1 m pc ls st fs Q
    · rw [c4 u]
      by_cases e : u = t
      · rw [e, if_neg (by omega), zup_eq, if_pos (by omega)]
      · rw [zup_ni e]
        by_cases c : t + 1 ≤ u ∧ u < s 6 0 3
        · rw [if_pos c, if_pos (by omega)]
        · rw [if_neg c, if_neg (by omega)]
theorem lp56 {s : zS} (hT : s 6 0 3 ≤ 5) (hB : ∀ u : Int, 0 ≤ u → u < s 6 0 3 → TeB s u ∧ 0 ≤ s 47 0 u ∧ s 47 0 u < 1024) : ∀ (k : Nat) (t c : Int), 0 ≤ t → t + k = s 6 0 3 → 0 ≤ c → c ≤ 10 * t → ∀ (m pc : Nat) (ls st : List zV) (fs : List zFr) (Q : List zV → zS → Prop), Ev ((56, 4, [zR 6 0, zR 47 0, zI c, zI t], []) :: (m, pc, ls, st) :: fs) s Q = Ev ((m, pc, ls, zI (c + sumF (fun u => mC s u (s 47 0 u)) t k) :: st) :: fs) s Q := by
  intro k
  induction k with
  | zero =>
    intro t c t0 t1 c0 c1 m pc ls st fs Q
    have e1 : (s 6 0 3 ≤ t) = True := eq_true (by omega)
    rw [r56_4]
    simp only [r56_5, r56_6, r56_9, r56_40, r56_41, e1, sumF, Int.add_zero, zclr_I, zclr_R, zclr_L, zclr_U, reduceIte, Int.reduceEq, Int.reduceLT, Int.reduceLE, Int.reduceNeg, not_true_eq_false, not_false_eq_true, or_true, true_or, or_false, false_or, and_true, true_and, and_false, false_and, z01_or]
  | succ k ih =>
    intro t c t0 t1 c0 c1 m pc ls st fs Q
    have e1 : (s 6 0 3 ≤ t) = False := eq_false (by omega)
    have e5 : ((5 : Int) ≤ t) = False := eq_false (by omega)
    have b1 : (0 ≤ t ∧ t < 5) = True := eq_true (by omega)
    have w1 : w32 (t + 1) = t + 1 := w32_id (by omega) (by omega)
    obtain ⟨h1, h2, h3⟩ := hB t t0 (by omega)
    have mb := mC_b h1 h2 h3
    have w2 : w32 (c + mC s t (s 47 0 t)) = c + mC s t (s 47 0 t) := w32_id (by omega) (by omega)
    rw [r56_4]
    simp only [r56_0, r56_1, r56_2, r56_3, r56_5, r56_6, r56_9, r56_12, r56_13, r56_14, r56_15, r56_18, r56_19, r56_20, r56_21, r56_24, r56_25, r56_26, r56_27, r56_28, r56_29, r56_32, r56_33, r56_34, r56_37, r56_40, r56_41, k_movedTo t _ h1 h2 h3, e1, e5, b1, w1, w2, zak_40, zln_40, zak_41, zln_41, zak_42, zln_42, zak_43, zln_43, zak_44, zln_44, zak_45, zln_45, zak_46, zln_46, zak_47, zln_47, zak_48, zln_48, zak_49, zln_49, zak_50, zln_50, zak_51, zln_51, zak_52, zln_52, zak_53, zln_53, zak_54, zln_54, zak_55, zln_55, zak_73, zln_73, zak_74, zln_74, zak_75, zln_75, zak_76, zln_76, zak_77, zln_77, zak_78, zln_78, zak_79, zln_79, zak_80, zln_80, zak_81, zln_81, zak_82, zln_82, zak_83, zln_83, zak_84, zln_84, zak_85, zln_85, zak_86, zln_86, zak_87, zln_87, zak_88, zln_88, zak_89, zln_89, zak_90, zln_90, zak_91, zln_91, zak_92, zln_92, zak_93, zln_93, zak_94, zln_94, zak_95, zln_95, zak_96, zln_96, zak_97, zln_97, zak_98, zln_98, zak_99, zln_99, zak_100, zln_100, zak_101, zln_101, zak_102, zln_102, zak_103, zln_103, zak_104, zln_104, zak_105, zln_105, zak_108, zln_108, zak_109, zln_109, Nat.reduceLeDiff, zclr_I, zclr_R, zclr_L, zclr_U, reduceIte, Int.reduceEq, Int.reduceLT, Int.reduceLE, Int.reduceNeg, not_true_eq_false, not_false_eq_true, or_true, true_or, or_false, false_or, and_true, true_and, and_false, false_and, z01_or]
    rw [ih (t + 1) _ (by omega) (by omega) (by omega) (by omega)]
    have : c + sumF (fun u => mC s u (s 47 0 u)) t (k + 1) = c + mC s t (s 47 0 t) + sumF (fun u => mC s u (s 47 0 u)) (t + 1) k := by
      show c + (mC s t (s 47 0 t) + _) = _
      omega
    rw [this]
theorem lp55 {s : zS} (hT : s 6 0 3 ≤ 5) (hB : ∀ u : Int, 0 ≤ u → u < s 6 0 3 → TeB s u ∧ 0 ≤ s 47 0 u ∧ s 47 0 u < 1024) : ∀ (k : Nat) (t c : Int), 0 ≤ t → t + k = s 6 0 3 → 0 ≤ c → c ≤ 180 * t → ∀ (m pc : Nat) (ls st : List zV) (fs : List zFr) (Q : List zV → zS → Prop), Ev ((55, 4, [zR 6 0, zR 47 0, zI c, zI t], []) :: (m, pc, ls, st) :: fs) s Q = Ev ((m, pc, ls, zI (c + sumF (fun u => wC s u (s 47 0 u)) t k) :: st) :: fs) s Q := by
  intro k
  induction k with
  | zero =>
    intro t c t0 t1 c0 c1 m pc ls st fs Q
    have e1 : (s 6 0 3 ≤ t) = True := eq_true (by omega)
    rw [r55_4]
    simp only [r55_5, r55_6, r55_9, r55_40, r55_41, e1, sumF, Int.add_zero, zclr_I, zclr_R, zclr_L, zclr_U, reduceIte, Int.reduceEq, Int.reduceLT, Int.reduceLE, Int.reduceNeg, not_true_eq_false, not_false_eq_true, or_true, true_or, or_false, false_or, and_true, true_and, and_false, false_and, z01_or]
  | succ k ih =>
    intro t c t0 t1 c0 c1 m pc ls st fs Q
    have e1 : (s 6 0 3 ≤ t) = False := eq_false (by omega)
    have e5 : ((5 : Int) ≤ t) = False := eq_false (by omega)
    have b1 : (0 ≤ t ∧ t < 5) = True := eq_true (by omega)
    have w1 : w32 (t + 1) = t + 1 := w32_id (by omega) (by omega)
    obtain ⟨h1, h2, h3⟩ := hB t t0 (by omega)
    obtain ⟨m1, m2⟩ := wC_b h1 h2 h3
    have e : wC s t (s 47 0 t) = s 6 0 7 * popc (zand (s 47 0 t) (s 8 t 5)) + s 6 0 8 * popc (zand (s 47 0 t) (s 8 t 4)) := rfl
    have w2 : w32 (c + wC s t (s 47 0 t)) = c + wC s t (s 47 0 t) := w32_id (by omega) (by omega)
    rw [r55_4]
    simp only [r55_0, r55_1, r55_2, r55_3, r55_5, r55_6, r55_9, r55_12, r55_13, r55_14, r55_15, r55_18, r55_19, r55_20, r55_21, r55_24, r55_25, r55_26, r55_27, r55_28, r55_29, r55_32, r55_33, r55_34, r55_37, r55_40, r55_41, k_worthOf t _ h1 h2 h3, e1, e5, b1, w1, w2, zak_40, zln_40, zak_41, zln_41, zak_42, zln_42, zak_43, zln_43, zak_44, zln_44, zak_45, zln_45, zak_46, zln_46, zak_47, zln_47, zak_48, zln_48, zak_49, zln_49, zak_50, zln_50, zak_51, zln_51, zak_52, zln_52, zak_53, zln_53, zak_54, zln_54, zak_55, zln_55, zak_73, zln_73, zak_74, zln_74, zak_75, zln_75, zak_76, zln_76, zak_77, zln_77, zak_78, zln_78, zak_79, zln_79, zak_80, zln_80, zak_81, zln_81, zak_82, zln_82, zak_83, zln_83, zak_84, zln_84, zak_85, zln_85, zak_86, zln_86, zak_87, zln_87, zak_88, zln_88, zak_89, zln_89, zak_90, zln_90, zak_91, zln_91, zak_92, zln_92, zak_93, zln_93, zak_94, zln_94, zak_95, zln_95, zak_96, zln_96, zak_97, zln_97, zak_98, zln_98, zak_99, zln_99, zak_100, zln_100, zak_101, zln_101, zak_102, zln_102, zak_103, zln_103, zak_104, zln_104, zak_105, zln_105, zak_108, zln_108, zak_109, zln_109, Nat.reduceLeDiff, zclr_I, zclr_R, zclr_L, zclr_U, reduceIte, Int.reduceEq, Int.reduceLT, Int.reduceLE, Int.reduceNeg, not_true_eq_false, not_false_eq_true, or_true, true_or, or_false, false_or, and_true, true_and, and_false, false_and, z01_or]
    rw [ih (t + 1) _ (by omega) (by omega) (by omega) (by omega)]
    have : c + sumF (fun u => wC s u (s 47 0 u)) t (k + 1) = c + wC s t (s 47 0 t) + sumF (fun u => wC s u (s 47 0 u)) (t + 1) k := by
      show c + (wC s t (s 47 0 t) + _) = _
      omega
    rw [this]
theorem lp149 : ∀ (k : Nat) (t c : Int) (s : zS), 0 ≤ t → t + k = s 11 0 1 → s 11 0 1 ≤ 5 → 0 ≤ c → c ≤ t → ∃ s1 : zS, (∀ (m pc : Nat) (ls st : List zV) (fs : List zFr) (Q : List zV → zS → Prop), Ev ((149, 4, [zR 11 0, zI c, zI t], []) :: (m, pc, ls, st) :: fs) s Q = Ev ((m, pc, ls, zI (c + sumF (fun i => if s 104 0 i = 0 then 0 else 1) t k) :: st) :: fs) s1 Q) ∧ (∀ g : Nat, ¬ g = 86 → s1 g = s g) ∧ ∀ u : Int, s1 86 0 u = if t ≤ u ∧ u < s 11 0 1 then s 104 0 u else s 86 0 u := by
  intro k
  induction k with
  | zero =>
    intro t c s t0 t1 hT c0 c1
    have e1 : (s 11 0 1 ≤ t) = True := eq_true (by omega)
    refine ⟨s, fun m pc ls st fs Q => ?_, fun _ _ => rfl, fun u => by rw [if_neg (by omega)]⟩
    rw [r149_4]
    simp only [r149_5, r149_6, r149_9, r149_47, r149_48, e1, sumF, Int.add_zero, zclr_I, zclr_R, zclr_L, zclr_U, reduceIte, Int.reduceEq, Int.reduceLT, Int.reduceLE, Int.reduceNeg, not_true_eq_false, not_false_eq_true, or_true, true_or, or_false, false_or, and_true, true_and, and_false, false_and, z01_or]
  | succ k ih =>
    intro t c s t0 t1 hT c0 c1
    have e1 : (s 11 0 1 ≤ t) = False := eq_false (by omega)
    have b1 : (0 ≤ t ∧ t < 5) = True := eq_true (by omega)
    have w1 : w32 (t + 1) = t + 1 := w32_id (by omega) (by omega)
    have w2 : w32 (c + 1) = c + 1 := w32_id (by omega) (by omega)
    have w3 : w32 (c + 0) = c := by rw [Int.add_zero]; exact w32_id (by omega) (by omega)
    have g11 : zup s 86 0 t (s 104 0 t) 11 = s 11 := zup_ng (by omega)
    have g104 : zup s 86 0 t (s 104 0 t) 104 = s 104 := zup_ng (by omega)
    have fin : ∀ (s1 : zS), (∀ u : Int, s1 86 0 u = if t + 1 ≤ u ∧ u < s 11 0 1 then s 104 0 u else zup s 86 0 t (s 104 0 t) 86 0 u) → ∀ u : Int, s1 86 0 u = if t ≤ u ∧ u < s 11 0 1 then s 104 0 u else s 86 0 u := by
      intro s1 h u
      rw [h u]
      by_cases e : u = t
      · rw [e, if_neg (by omega), zup_eq, if_pos (by omega)]
      · rw [zup_nk e]
        by_cases c : t + 1 ≤ u ∧ u < s 11 0 1
        · rw [if_pos c, if_pos (by omega)]
        · rw [if_neg c, if_neg (by omega)]
    have eS : sumF (fun i => if s 104 0 i = 0 then 0 else 1) t (k + 1) = (if s 104 0 t = 0 then 0 else 1) + sumF (fun i => if s 104 0 i = 0 then 0 else 1) (t + 1) k := rfl
    rw [eS]
    by_cases hz : s 104 0 t = 0
    · obtain ⟨s1, c1, c2, c3⟩ := ih (t + 1) c (zup s 86 0 t (s 104 0 t)) (by omega) (by rw [g11]; omega) (by rw [g11]; exact hT) c0 (by omega)
      rw [g11, g104] at c3
      rw [g104] at c1
      refine ⟨s1, fun m pc ls st fs Q => ?_, fun g hg => by rw [c2 g hg, zup_ng hg], fin s1 c3⟩
      rw [r149_4, if_pos hz, Int.zero_add]
      have hz' := eq_true hz
      simp only [r149_0, r149_1, r149_2, r149_3, r149_5, r149_6, r149_9, r149_12, r149_13, r149_16, r149_17, r149_18, r149_21, r149_22, r149_23, r149_24, r149_25, r149_26, r149_29, r149_30, r149_31, r149_34, r149_35, r149_38, r149_39, r149_40, r149_41, r149_44, r149_47, r149_48, e1, b1, g104, hz', w1, w3, zak_40, zln_40, zak_41, zln_41, zak_42, zln_42, zak_43, zln_43, zak_44, zln_44, zak_45, zln_45, zak_46, zln_46, zak_47, zln_47, zak_48, zln_48, zak_49, zln_49, zak_50, zln_50, zak_51, zln_51, zak_52, zln_52, zak_53, zln_53, zak_54, zln_54, zak_55, zln_55, zak_73, zln_73, zak_74, zln_74, zak_75, zln_75, zak_76, zln_76, zak_77, zln_77, zak_78, zln_78, zak_79, zln_79, zak_80, zln_80, zak_81, zln_81, zak_82, zln_82, zak_83, zln_83, zak_84, zln_84, zak_85, zln_85, zak_86, zln_86, zak_87, zln_87, zak_88, zln_88, zak_89, zln_89, zak_90, zln_90, zak_91, zln_91, zak_92, zln_92, zak_93, zln_93, zak_94, zln_94, zak_95, zln_95, zak_96, zln_96, zak_97, zln_97, zak_98, zln_98, zak_99, zln_99, zak_100, zln_100, zak_101, zln_101, zak_102, zln_102, zak_103, zln_103, zak_104, zln_104, zak_105, zln_105, zak_108, zln_108, zak_109, zln_109, Nat.reduceLeDiff, zclr_I, zclr_R, zclr_L, zclr_U, reduceIte, Int.reduceEq, Int.reduceLT, Int.reduceLE, Int.reduceNeg, not_true_eq_false, not_false_eq_true, or_true, true_or, or_false, false_or, and_true, true_and, and_false, false_and, z01_or]
      exact c1 m pc ls st fs Q
    · obtain ⟨s1, c1, c2, c3⟩ := ih (t + 1) (c + 1) (zup s 86 0 t (s 104 0 t)) (by omega) (by rw [g11]; omega) (by rw [g11]; exact hT) (by omega) (by omega)
      rw [g11, g104] at c3
      rw [g104] at c1
      refine ⟨s1, fun m pc ls st fs Q => ?_, fun g hg => by rw [c2 g hg, zup_ng hg], fin s1 c3⟩
      rw [r149_4, if_neg hz, ← Int.add_assoc]
      have hz' := eq_false hz
      simp only [r149_0, r149_1, r149_2, r149_3, r149_5, r149_6, r149_9, r149_12, r149_13, r149_16, r149_17, r149_18, r149_21, r149_22, r149_23, r149_24, r149_25, r149_26, r149_29, r149_30, r149_31, r149_34, r149_35, r149_38, r149_39, r149_40, r149_41, r149_44, r149_47, r149_48, e1, b1, g104, hz', w1, w2, zak_40, zln_40, zak_41, zln_41, zak_42, zln_42, zak_43, zln_43, zak_44, zln_44, zak_45, zln_45, zak_46, zln_46, zak_47, zln_47, zak_48, zln_48, zak_49, zln_49, zak_50, zln_50, zak_51, zln_51, zak_52, zln_52, zak_53, zln_53, zak_54, zln_54, zak_55, zln_55, zak_73, zln_73, zak_74, zln_74, zak_75, zln_75, zak_76, zln_76, zak_77, zln_77, zak_78, zln_78, zak_79, zln_79, zak_80, zln_80, zak_81, zln_81, zak_82, zln_82, zak_83, zln_83, zak_84, zln_84, zak_85, zln_85, zak_86, zln_86, zak_87, zln_87, zak_88, zln_88, zak_89, zln_89, zak_90, zln_90, zak_91, zln_91, zak_92, zln_92, zak_93, zln_93, zak_94, zln_94, zak_95, zln_95, zak_96, zln_96, zak_97, zln_97, zak_98, zln_98, zak_99, zln_99, zak_100, zln_100, zak_101, zln_101, zak_102, zln_102, zak_103, zln_103, zak_104, zln_104, zak_105, zln_105, zak_108, zln_108, zak_109, zln_109, Nat.reduceLeDiff, zclr_I, zclr_R, zclr_L, zclr_U, reduceIte, Int.reduceEq, Int.reduceLT, Int.reduceLE, Int.reduceNeg, not_true_eq_false, not_false_eq_true, or_true, true_or, or_false, false_or, and_true, true_and, and_false, false_and, z01_or]
      exact c1 m pc ls st fs Q
theorem zand_0 {y : Int} (y0 : 0 ≤ y) (y1 : y < 1024) : zand 0 y = 0 := by
  obtain ⟨b0, b1, b2⟩ := zand_bi (x := 0) (by omega) (by omega) y0 y1
  exact (zero_bi b0).mpr (fun q q0 hq => bi_0 q ((b2 q q0).mp hq).1)
theorem zandn_0 {y : Int} (y0 : 0 ≤ y) (y1 : y < 1024) : zand 0 (zxor y (-1)) = 0 := by
  obtain ⟨b0, b1, b2⟩ := zandnot_bi (x := 0) (by omega) (by omega) y0 y1
  exact (zero_bi b0).mpr (fun q q0 hq => bi_0 q ((b2 q q0).mp hq).1)
theorem wmC_0 {s : zS} {t : Int} (hB : TeB s t) : wC s t 0 = 0 ∧ mC s t 0 = 0 := by
  obtain ⟨h1, h2, h3, h4⟩ := hB
  have p : popc 0 = 0 := by decide
  unfold wC mC
  rw [zand_0 h1.1 h1.2, zand_0 h2.1 h2.2, zandn_0 h1.1 h1.2, p, Int.mul_zero, Int.mul_zero]
  exact ⟨rfl, rfl⟩
theorem CA_sum {c : Int → Int → Int} {T : Int} {A : Int → Int} (T0 : 0 ≤ T) (h : ∀ u : Int, 0 ≤ u → u < T → A u = 0 → c u 0 = 0) : sumF (fun u => c u (A u)) 0 T.toNat = CA c 0 T A := by
  unfold CA
  rw [show (T - 0).toNat = T.toNat by omega]
  refine sumF_c _ _ (fun u u0 u1 => ?_)
  by_cases e : A u = 0
  · rw [if_pos e, e]; exact h u u0 (by omega) e
  · rw [if_neg e]
theorem lp152 {L : Nat} {s0 s : zS} (hs : Inv L s0) (hS : Sm8 s0 s) (hv : ∀ u : Int, 0 ≤ u → u < s0 11 0 1 → s 104 0 u = 0 ∨ okS s0 u (s 104 0 u)) : ∀ (k : Nat) (t c : Int), 0 ≤ t → t + k = s0 11 0 1 → 0 ≤ c → c ≤ 180 * t → ∀ (m pc : Nat) (ls st : List zV) (fs : List zFr) (Q : List zV → zS → Prop), Ev ((152, 21, [zR 11 0, zI c, zI t], []) :: (m, pc, ls, st) :: fs) s Q = Ev ((m, pc, ls, zI (c + sumF (fun u => if s 104 0 u = 0 then 0 else wC s0 u (s 104 0 u)) t k) :: st) :: fs) s Q := by
  obtain ⟨h1, h2, h3, h4, h5, h6, h7, h8, h9, h10, h11, h12, h13, h14, h15, h16⟩ := id hs
  have h50 := h5.2
  have e11 : s 11 = s0 11 := hS 11 (by unfold Scr; omega) (by omega)
  intro k
  induction k with
  | zero =>
    intro t c t0 t1 c0 c1 m pc ls st fs Q
    have e1 : (s0 11 0 1 ≤ t) = True := eq_true (by omega)
    rw [r152_21]
    simp only [r152_22, r152_23, r152_26, r152_67, r152_68, e11, e1, sumF, Int.add_zero, zclr_I, zclr_R, zclr_L, zclr_U, reduceIte, Int.reduceEq, Int.reduceLT, Int.reduceLE, Int.reduceNeg, not_true_eq_false, not_false_eq_true, or_true, true_or, or_false, false_or, and_true, true_and, and_false, false_and, z01_or]
  | succ k ih =>
    intro t c t0 t1 c0 c1 m pc ls st fs Q
    have e1 : (s0 11 0 1 ≤ t) = False := eq_false (by omega)
    have b1 : (0 ≤ t ∧ t < 5) = True := eq_true (by omega)
    have w1 : w32 (t + 1) = t + 1 := w32_id (by omega) (by omega)
    have eS : sumF (fun u => if s 104 0 u = 0 then 0 else wC s0 u (s 104 0 u)) t (k + 1) = (if s 104 0 t = 0 then 0 else wC s0 t (s 104 0 t)) + sumF (fun u => if s 104 0 u = 0 then 0 else wC s0 u (s 104 0 u)) (t + 1) k := rfl
    rw [r152_21, eS]
    by_cases hz : s 104 0 t = 0
    · have hz' := eq_true hz
      have w3 : w32 (c + 0) = c := by rw [Int.add_zero]; exact w32_id (by omega) (by omega)
      rw [if_pos hz, Int.zero_add]
      simp only [r152_22, r152_23, r152_26, r152_29, r152_30, r152_31, r152_34, r152_35, r152_36, r152_39, r152_40, r152_43, r152_46, r152_47, r152_48, r152_49, r152_52, r152_53, r152_54, r152_55, r152_58, r152_59, r152_60, r152_61, r152_64, e11, e1, b1, hz', w1, w3, zak_40, zln_40, zak_41, zln_41, zak_42, zln_42, zak_43, zln_43, zak_44, zln_44, zak_45, zln_45, zak_46, zln_46, zak_47, zln_47, zak_48, zln_48, zak_49, zln_49, zak_50, zln_50, zak_51, zln_51, zak_52, zln_52, zak_53, zln_53, zak_54, zln_54, zak_55, zln_55, zak_73, zln_73, zak_74, zln_74, zak_75, zln_75, zak_76, zln_76, zak_77, zln_77, zak_78, zln_78, zak_79, zln_79, zak_80, zln_80, zak_81, zln_81, zak_82, zln_82, zak_83, zln_83, zak_84, zln_84, zak_85, zln_85, zak_86, zln_86, zak_87, zln_87, zak_88, zln_88, zak_89, zln_89, zak_90, zln_90, zak_91, zln_91, zak_92, zln_92, zak_93, zln_93, zak_94, zln_94, zak_95, zln_95, zak_96, zln_96, zak_97, zln_97, zak_98, zln_98, zak_99, zln_99, zak_100, zln_100, zak_101, zln_101, zak_102, zln_102, zak_103, zln_103, zak_104, zln_104, zak_105, zln_105, zak_108, zln_108, zak_109, zln_109, Nat.reduceLeDiff, zclr_I, zclr_R, zclr_L, zclr_U, reduceIte, Int.reduceEq, Int.reduceLT, Int.reduceLE, Int.reduceNeg, not_true_eq_false, not_false_eq_true, or_true, true_or, or_false, false_or, and_true, true_and, and_false, false_and, z01_or]
      exact ih (t + 1) c (by omega) (by omega) c0 (by omega) m pc ls st fs Q
    · have hok := (hv t t0 (by omega)).resolve_left hz
      have kC := k_costOf8 hs hS 0 t (s 104 0 t) (Or.inl rfl) t0 (by omega) (by have := hok.1; omega) hok.2.1
      have xr := hok.1
      obtain ⟨bw, -⟩ := wM_b hs t0 (show t < s0 11 0 1 by omega) (show 0 ≤ s 104 0 t by omega) xr.2
      have ew := (wM_C hs t0 (show t < s0 11 0 1 by omega) (show 0 ≤ s 104 0 t by omega) xr.2).1
      have ec : cst s0 0 t (s 104 0 t) = 1000 - wC s0 t (s 104 0 t) := by
        unfold cst cR
        rw [if_neg hz, if_pos hok.2.2, if_pos rfl, ew]
      have w2 : w32 (1000 - (1000 - wC s0 t (s 104 0 t))) = wC s0 t (s 104 0 t) := by rw [w32_id (by omega) (by omega)]; omega
      have w3 : w32 (c + wC s0 t (s 104 0 t)) = c + wC s0 t (s 104 0 t) := w32_id (by omega) (by omega)
      have hz' := eq_false hz
      rw [if_neg hz, ← Int.add_assoc]
      simp only [r152_22, r152_23, r152_26, r152_29, r152_30, r152_31, r152_34, r152_35, r152_36, r152_39, r152_40, r152_43, r152_46, r152_47, r152_48, r152_49, r152_52, r152_53, r152_54, r152_55, r152_58, r152_59, r152_60, r152_61, r152_64, kC, ec, e11, e1, b1, hz', w1, w2, w3, zak_40, zln_40, zak_41, zln_41, zak_42, zln_42, zak_43, zln_43, zak_44, zln_44, zak_45, zln_45, zak_46, zln_46, zak_47, zln_47, zak_48, zln_48, zak_49, zln_49, zak_50, zln_50, zak_51, zln_51, zak_52, zln_52, zak_53, zln_53, zak_54, zln_54, zak_55, zln_55, zak_73, zln_73, zak_74, zln_74, zak_75, zln_75, zak_76, zln_76, zak_77, zln_77, zak_78, zln_78, zak_79, zln_79, zak_80, zln_80, zak_81, zln_81, zak_82, zln_82, zak_83, zln_83, zak_84, zln_84, zak_85, zln_85, zak_86, zln_86, zak_87, zln_87, zak_88, zln_88, zak_89, zln_89, zak_90, zln_90, zak_91, zln_91, zak_92, zln_92, zak_93, zln_93, zak_94, zln_94, zak_95, zln_95, zak_96, zln_96, zak_97, zln_97, zak_98, zln_98, zak_99, zln_99, zak_100, zln_100, zak_101, zln_101, zak_102, zln_102, zak_103, zln_103, zak_104, zln_104, zak_105, zln_105, zak_108, zln_108, zak_109, zln_109, Nat.reduceLeDiff, zclr_I, zclr_R, zclr_L, zclr_U, reduceIte, Int.reduceEq, Int.reduceLT, Int.reduceLE, Int.reduceNeg, not_true_eq_false, not_false_eq_true, or_true, true_or, or_false, false_or, and_true, true_and, and_false, false_and, z01_or]
      exact ih (t + 1) _ (by omega) (by omega) (by omega) (by omega) m pc ls st fs Q

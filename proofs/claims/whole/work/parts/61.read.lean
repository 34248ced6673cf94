/-! read -/
def cntF (f : Int → Bool) : Int → Nat → Int
  | _, 0 => 0
  | t, k + 1 => if f t = true then 1 + cntF f (t + 1) k else 0
theorem cntF_c {f g : Int → Bool} : ∀ (k : Nat) (t : Int), (∀ i, t ≤ i → i < t + k → f i = g i) → cntF f t k = cntF g t k := by
  intro k
  induction k with
  | zero => intro t _; rfl
  | succ k ih =>
    intro t h
    show (if f t = true then 1 + cntF f (t + 1) k else 0) = (if g t = true then 1 + cntF g (t + 1) k else 0)
    rw [h t (by omega) (by omega), ih (t + 1) (fun i h1 h2 => h i (by omega) (by omega))]
theorem cntF_b {f : Int → Bool} : ∀ (k : Nat) (t : Int), 0 ≤ cntF f t k ∧ cntF f t k ≤ k ∧ ∀ i, t ≤ i → i < t + cntF f t k → f i = true := by
  intro k
  induction k with
  | zero => intro t; exact ⟨Int.le_refl 0, Int.le_refl 0, fun i h1 h2 => by have : cntF f t 0 = 0 := rfl; omega⟩
  | succ k ih =>
    intro t
    obtain ⟨h1, h2, h3⟩ := ih (t + 1)
    by_cases h : f t = true
    · have e : cntF f t (k + 1) = 1 + cntF f (t + 1) k := if_pos h
      rw [e]
      refine ⟨by omega, by omega, fun i i0 i1 => ?_⟩
      by_cases ei : i = t
      · rw [ei]; exact h
      · exact h3 i (by omega) (by omega)
    · have e : cntF f t (k + 1) = 0 := if_neg h
      rw [e]
      exact ⟨by omega, by omega, fun i i0 i1 => by omega⟩
theorem dr_b : ∀ x : Fin 100, 0 ≤ zdiv (x.val : Nat) 10 ∧ zdiv (x.val : Nat) 10 ≤ 9 ∧ 0 ≤ zrem (x.val : Nat) 10 ∧ zrem (x.val : Nat) 10 ≤ 9 := by decide +kernel
theorem dr_i {x : Int} (h0 : 0 ≤ x) (h1 : x ≤ 99) : 0 ≤ zdiv x 10 ∧ zdiv x 10 ≤ 9 ∧ 0 ≤ zrem x 10 ∧ zrem x 10 ≤ 9 := by
  have h := dr_b ⟨x.toNat, by omega⟩
  simp only [Int.toNat_of_nonneg h0] at h
  exact h
def okR (lo hi x : Int) : Bool := decide (¬ (zrem x 10 < zdiv x 10 ∨ nhi hi (zrem x 10) < nlo lo (zdiv x 10)))
section
variable {m pc : Nat} {ls st : List zV} {fs : List zFr} {Q : List zV → zS → Prop}
theorem lp65 {s : zS} (a : Int) (h : s 7 a 1 ≤ 10) : ∀ (k : Nat) (t : Int), 0 ≤ t → t + k = s 7 a 1 → Ev ((65, 2, [zR 7 a, zI t], []) :: (m, pc, ls, st) :: fs) s Q = Ev ((m, pc, ls, zI (z01 (anyF (fun i => decide (s 54 a i < 0 ∨ 99 < s 54 a i)) t k = false)) :: st) :: fs) s Q := by
  intro k
  induction k with
  | zero =>
    intro t h0 h1
    have e1 : (s 7 a 1 ≤ t) = True := eq_true (by omega)
    rw [r65_2, z01_t (show anyF (fun i => decide (s 54 a i < 0 ∨ 99 < s 54 a i)) t 0 = false from rfl)]
    simp only [r65_0, r65_1, r65_3, r65_4, r65_7, r65_10, r65_11, r65_14, r65_15, r65_16, r65_19, r65_20, r65_23, r65_24, r65_25, r65_27, r65_30, r65_31, r65_32, r65_35, r65_38, r65_39, e1, zclr_I, zclr_R, zclr_L, zclr_U, reduceIte, Int.reduceEq, Int.reduceLT, Int.reduceLE, Int.reduceNeg, not_true_eq_false, not_false_eq_true, or_true, true_or, or_false, false_or, and_true, true_and, and_false, false_and, z01_or]
  | succ k ih =>
    intro t h0 h1
    have e1 : (s 7 a 1 ≤ t) = False := eq_false (by omega)
    have b1 : (0 ≤ t ∧ t < 10) = True := eq_true (by omega)
    have w1 : w32 (t + 1) = t + 1 := w32_id (by omega) (by omega)
    rw [r65_2]
    by_cases c : s 54 a t < 0 ∨ 99 < s 54 a t
    · have : anyF (fun i => decide (s 54 a i < 0 ∨ 99 < s 54 a i)) t (k + 1) = true := by
        show (decide _ || _) = _
        rw [decide_eq_true c, Bool.true_or]
      rw [z01_f (fun z => by rw [this] at z; cases z)]
      by_cases c1 : s 54 a t < 0
      · simp only [r65_0, r65_1, r65_3, r65_4, r65_7, r65_10, r65_11, r65_14, r65_15, r65_16, r65_19, r65_20, r65_23, r65_24, r65_25, r65_27, r65_30, r65_31, r65_32, r65_35, r65_38, r65_39, e1, b1, c1, zak_40, zln_40, zak_41, zln_41, zak_42, zln_42, zak_43, zln_43, zak_44, zln_44, zak_45, zln_45, zak_46, zln_46, zak_47, zln_47, zak_48, zln_48, zak_49, zln_49, zak_50, zln_50, zak_51, zln_51, zak_52, zln_52, zak_53, zln_53, zak_54, zln_54, zak_55, zln_55, zak_73, zln_73, zak_74, zln_74, zak_75, zln_75, zak_76, zln_76, zak_77, zln_77, zak_78, zln_78, zak_79, zln_79, zak_80, zln_80, zak_81, zln_81, zak_82, zln_82, zak_83, zln_83, zak_84, zln_84, zak_85, zln_85, zak_86, zln_86, zak_87, zln_87, zak_88, zln_88, zak_89, zln_89, zak_90, zln_90, zak_91, zln_91, zak_92, zln_92, zak_93, zln_93, zak_94, zln_94, zak_95, zln_95, zak_96, zln_96, zak_97, zln_97, zak_98, zln_98, zak_99, zln_99, zak_100, zln_100, zak_101, zln_101, zak_102, zln_102, zak_103, zln_103, zak_104, zln_104, zak_105, zln_105, zak_108, zln_108, zak_109, zln_109, Nat.reduceLeDiff, zclr_I, zclr_R, zclr_L, zclr_U, reduceIte, Int.reduceEq, Int.reduceLT, Int.reduceLE, Int.reduceNeg, not_true_eq_false, not_false_eq_true, or_true, true_or, or_false, false_or, and_true, true_and, and_false, false_and, z01_or]
      · have c2 : (s 54 a t ≤ 99) = False := eq_false (by omega)
        simp only [r65_0, r65_1, r65_3, r65_4, r65_7, r65_10, r65_11, r65_14, r65_15, r65_16, r65_19, r65_20, r65_23, r65_24, r65_25, r65_27, r65_30, r65_31, r65_32, r65_35, r65_38, r65_39, e1, b1, c1, c2, zak_40, zln_40, zak_41, zln_41, zak_42, zln_42, zak_43, zln_43, zak_44, zln_44, zak_45, zln_45, zak_46, zln_46, zak_47, zln_47, zak_48, zln_48, zak_49, zln_49, zak_50, zln_50, zak_51, zln_51, zak_52, zln_52, zak_53, zln_53, zak_54, zln_54, zak_55, zln_55, zak_73, zln_73, zak_74, zln_74, zak_75, zln_75, zak_76, zln_76, zak_77, zln_77, zak_78, zln_78, zak_79, zln_79, zak_80, zln_80, zak_81, zln_81, zak_82, zln_82, zak_83, zln_83, zak_84, zln_84, zak_85, zln_85, zak_86, zln_86, zak_87, zln_87, zak_88, zln_88, zak_89, zln_89, zak_90, zln_90, zak_91, zln_91, zak_92, zln_92, zak_93, zln_93, zak_94, zln_94, zak_95, zln_95, zak_96, zln_96, zak_97, zln_97, zak_98, zln_98, zak_99, zln_99, zak_100, zln_100, zak_101, zln_101, zak_102, zln_102, zak_103, zln_103, zak_104, zln_104, zak_105, zln_105, zak_108, zln_108, zak_109, zln_109, Nat.reduceLeDiff, zclr_I, zclr_R, zclr_L, zclr_U, reduceIte, Int.reduceEq, Int.reduceLT, Int.reduceLE, Int.reduceNeg, not_true_eq_false, not_false_eq_true, or_true, true_or, or_false, false_or, and_true, true_and, and_false, false_and, z01_or]
    · have : anyF (fun i => decide (s 54 a i < 0 ∨ 99 < s 54 a i)) t (k + 1) = anyF (fun i => decide (s 54 a i < 0 ∨ 99 < s 54 a i)) (t + 1) k := by
        show (decide _ || _) = _
        rw [decide_eq_false c, Bool.false_or]
      have c1 : (s 54 a t < 0) = False := eq_false (by omega)
      have c2 : (s 54 a t ≤ 99) = True := eq_true (by omega)
      rw [this]
      simp only [r65_0, r65_1, r65_3, r65_4, r65_7, r65_10, r65_11, r65_14, r65_15, r65_16, r65_19, r65_20, r65_23, r65_24, r65_25, r65_27, r65_30, r65_31, r65_32, r65_35, r65_38, r65_39, e1, b1, c1, c2, w1, zak_40, zln_40, zak_41, zln_41, zak_42, zln_42, zak_43, zln_43, zak_44, zln_44, zak_45, zln_45, zak_46, zln_46, zak_47, zln_47, zak_48, zln_48, zak_49, zln_49, zak_50, zln_50, zak_51, zln_51, zak_52, zln_52, zak_53, zln_53, zak_54, zln_54, zak_55, zln_55, zak_73, zln_73, zak_74, zln_74, zak_75, zln_75, zak_76, zln_76, zak_77, zln_77, zak_78, zln_78, zak_79, zln_79, zak_80, zln_80, zak_81, zln_81, zak_82, zln_82, zak_83, zln_83, zak_84, zln_84, zak_85, zln_85, zak_86, zln_86, zak_87, zln_87, zak_88, zln_88, zak_89, zln_89, zak_90, zln_90, zak_91, zln_91, zak_92, zln_92, zak_93, zln_93, zak_94, zln_94, zak_95, zln_95, zak_96, zln_96, zak_97, zln_97, zak_98, zln_98, zak_99, zln_99, zak_100, zln_100, zak_101, zln_101, zak_102, zln_102, zak_103, zln_103, zak_104, zln_104, zak_105, zln_105, zak_108, zln_108, zak_109, zln_109, Nat.reduceLeDiff, zclr_I, zclr_R, zclr_L, zclr_U, reduceIte, Int.reduceEq, Int.reduceLT, Int.reduceLE, Int.reduceNeg, not_true_eq_false, not_false_eq_true, or_true, true_or, or_false, false_or, and_true, true_and, and_false, false_and, z01_or]
      exact ih (t + 1) (by omega) (by omega)
theorem lp185a {s : zS} (a : Int) (a0 : 0 ≤ a ∧ a ≤ 3) (h : s 100 0 a ≤ 10) : ∀ (k : Nat) (t : Int), 0 ≤ t → t + k = s 100 0 a → Ev ((185, 53, [zR 11 0, zI a, zI t], []) :: (m, pc, ls, st) :: fs) s Q = if anyF (fun i => decide (s 101 0 (10 * a + i) < 0 ∨ 99 < s 101 0 (10 * a + i))) t k = false then Ev ((185, 96, [zR 11 0, zI a, zI (s 100 0 a)], []) :: (m, pc, ls, st) :: fs) s Q else Ev ((m, pc, ls, zI (-1000001) :: st) :: fs) (zup s 11 0 5 (w32 (s 11 0 5 + 1))) Q := by
  intro k
  have ba : (0 ≤ a ∧ a < 4) = True := eq_true (by omega)
  induction k with
  | zero =>
    intro t h0 h1
    have e1 : (s 100 0 a ≤ t) = True := eq_true (by omega)
    have e2 : t = s 100 0 a := by omega
    rw [r185_53, if_pos (show anyF (fun i => decide (s 101 0 (10 * a + i) < 0 ∨ 99 < s 101 0 (10 * a + i))) t 0 = false from rfl)]
    simp only [r185_54, r185_55, r185_58, r185_59, r185_60, r185_63, r185_64, r185_67, r185_69, r185_70, r185_71, r185_72, r185_73, r185_74, r185_75, r185_77, r185_80, r185_83, r185_84, r185_86, r185_89, r185_90, r185_93, e1, ba, zak_40, zln_40, zak_41, zln_41, zak_42, zln_42, zak_43, zln_43, zak_44, zln_44, zak_45, zln_45, zak_46, zln_46, zak_47, zln_47, zak_48, zln_48, zak_49, zln_49, zak_50, zln_50, zak_51, zln_51, zak_52, zln_52, zak_53, zln_53, zak_54, zln_54, zak_55, zln_55, zak_73, zln_73, zak_74, zln_74, zak_75, zln_75, zak_76, zln_76, zak_77, zln_77, zak_78, zln_78, zak_79, zln_79, zak_80, zln_80, zak_81, zln_81, zak_82, zln_82, zak_83, zln_83, zak_84, zln_84, zak_85, zln_85, zak_86, zln_86, zak_87, zln_87, zak_88, zln_88, zak_89, zln_89, zak_90, zln_90, zak_91, zln_91, zak_92, zln_92, zak_93, zln_93, zak_94, zln_94, zak_95, zln_95, zak_96, zln_96, zak_97, zln_97, zak_98, zln_98, zak_99, zln_99, zak_100, zln_100, zak_101, zln_101, zak_102, zln_102, zak_103, zln_103, zak_104, zln_104, zak_105, zln_105, zak_108, zln_108, zak_109, zln_109, Nat.reduceLeDiff, zclr_I, zclr_R, zclr_L, zclr_U, reduceIte, Int.reduceEq, Int.reduceLT, Int.reduceLE, Int.reduceNeg, not_true_eq_false, not_false_eq_true, or_true, true_or, or_false, false_or, and_true, true_and, and_false, false_and, z01_or]
    rw [e2]
  | succ k ih =>
    intro t h0 h1
    have e1 : (s 100 0 a ≤ t) = False := eq_false (by omega)
    have b1 : (0 ≤ 10 * a + t ∧ 10 * a + t < 40) = True := eq_true (by omega)
    have w1 : w32 (t + 1) = t + 1 := w32_id (by omega) (by omega)
    have w2 : w32 (10 * a) = 10 * a := w32_id (by omega) (by omega)
    have w3 : w32 (10 * a + t) = 10 * a + t := w32_id (by omega) (by omega)
    rw [r185_53]
    by_cases c : s 101 0 (10 * a + t) < 0 ∨ 99 < s 101 0 (10 * a + t)
    · have : anyF (fun i => decide (s 101 0 (10 * a + i) < 0 ∨ 99 < s 101 0 (10 * a + i))) t (k + 1) = true := by
        show (decide _ || _) = _
        rw [decide_eq_true c, Bool.true_or]
      have q : z01 (0 ≤ s 101 0 (10 * a + t) ∧ s 101 0 (10 * a + t) ≤ 99) = 0 := z01_f (by omega)
      rw [if_neg (fun z => by rw [this] at z; cases z)]
      simp only [r185_54, r185_55, r185_58, r185_59, r185_60, r185_63, r185_64, r185_67, r185_69, r185_70, r185_71, r185_72, r185_73, r185_74, r185_75, r185_77, r185_80, r185_83, r185_84, r185_86, r185_89, r185_90, r185_93, k_in, k_finds, e1, ba, b1, w2, w3, q, zak_40, zln_40, zak_41, zln_41, zak_42, zln_42, zak_43, zln_43, zak_44, zln_44, zak_45, zln_45, zak_46, zln_46, zak_47, zln_47, zak_48, zln_48, zak_49, zln_49, zak_50, zln_50, zak_51, zln_51, zak_52, zln_52, zak_53, zln_53, zak_54, zln_54, zak_55, zln_55, zak_73, zln_73, zak_74, zln_74, zak_75, zln_75, zak_76, zln_76, zak_77, zln_77, zak_78, zln_78, zak_79, zln_79, zak_80, zln_80, zak_81, zln_81, zak_82, zln_82, zak_83, zln_83, zak_84, zln_84, zak_85, zln_85, zak_86, zln_86, zak_87, zln_87, zak_88, zln_88, zak_89, zln_89, zak_90, zln_90, zak_91, zln_91, zak_92, zln_92, zak_93, zln_93, zak_94, zln_94, zak_95, zln_95, zak_96, zln_96, zak_97, zln_97, zak_98, zln_98, zak_99, zln_99, zak_100, zln_100, zak_101, zln_101, zak_102, zln_102, zak_103, zln_103, zak_104, zln_104, zak_105, zln_105, zak_108, zln_108, zak_109, zln_109, Nat.reduceLeDiff, zclr_I, zclr_R, zclr_L, zclr_U, reduceIte, Int.reduceEq, Int.reduceLT, Int.reduceLE, Int.reduceNeg, not_true_eq_false, not_false_eq_true, or_true, true_or, or_false, false_or, and_true, true_and, and_false, false_and, z01_or]
    · have : anyF (fun i => decide (s 101 0 (10 * a + i) < 0 ∨ 99 < s 101 0 (10 * a + i))) t (k + 1) = anyF (fun i => decide (s 101 0 (10 * a + i) < 0 ∨ 99 < s 101 0 (10 * a + i))) (t + 1) k := by
        show (decide _ || _) = _
        rw [decide_eq_false c, Bool.false_or]
      have q : z01 (0 ≤ s 101 0 (10 * a + t) ∧ s 101 0 (10 * a + t) ≤ 99) = 1 := z01_t (by omega)
      rw [this]
      simp only [r185_54, r185_55, r185_58, r185_59, r185_60, r185_63, r185_64, r185_67, r185_69, r185_70, r185_71, r185_72, r185_73, r185_74, r185_75, r185_77, r185_80, r185_83, r185_84, r185_86, r185_89, r185_90, r185_93, k_in, e1, ba, b1, w1, w2, w3, q, zak_40, zln_40, zak_41, zln_41, zak_42, zln_42, zak_43, zln_43, zak_44, zln_44, zak_45, zln_45, zak_46, zln_46, zak_47, zln_47, zak_48, zln_48, zak_49, zln_49, zak_50, zln_50, zak_51, zln_51, zak_52, zln_52, zak_53, zln_53, zak_54, zln_54, zak_55, zln_55, zak_73, zln_73, zak_74, zln_74, zak_75, zln_75, zak_76, zln_76, zak_77, zln_77, zak_78, zln_78, zak_79, zln_79, zak_80, zln_80, zak_81, zln_81, zak_82, zln_82, zak_83, zln_83, zak_84, zln_84, zak_85, zln_85, zak_86, zln_86, zak_87, zln_87, zak_88, zln_88, zak_89, zln_89, zak_90, zln_90, zak_91, zln_91, zak_92, zln_92, zak_93, zln_93, zak_94, zln_94, zak_95, zln_95, zak_96, zln_96, zak_97, zln_97, zak_98, zln_98, zak_99, zln_99, zak_100, zln_100, zak_101, zln_101, zak_102, zln_102, zak_103, zln_103, zak_104, zln_104, zak_105, zln_105, zak_108, zln_108, zak_109, zln_109, Nat.reduceLeDiff, zclr_I, zclr_R, zclr_L, zclr_U, reduceIte, Int.reduceEq, Int.reduceLT, Int.reduceLE, Int.reduceNeg, not_true_eq_false, not_false_eq_true, or_true, true_or, or_false, false_or, and_true, true_and, and_false, false_and, z01_or]
      exact ih (t + 1) (by omega) (by omega)
end
theorem lp107 (a : Int) : ∀ (k : Nat) (t : Int) (s : zS), 0 ≤ t → t + k = s 7 a 1 → s 7 a 1 ≤ 10 → ∃ s1 : zS, (∀ (F : List zFr) (Q : List zV → zS → Prop), Ev ((107, 67, [zR 10 0, zI a, zR 7 a, zI t], []) :: F) s Q = Ev ((107, 114, [zR 10 0, zI a, zR 7 a, zI (t + cntF (fun i => okR (s 5 i 3) (s 5 i 4) (s 54 a i)) t k)], []) :: F) s1 Q) ∧ (∀ g : Nat, ¬ g = 5 → s1 g = s g) ∧ (∀ i j : Int, ¬ j = 3 → ¬ j = 4 → s1 5 i j = s 5 i j) ∧ (∀ i : Int, s1 5 i 3 = if t ≤ i ∧ i < t + cntF (fun i => okR (s 5 i 3) (s 5 i 4) (s 54 a i)) t k then nlo (s 5 i 3) (zdiv (s 54 a i) 10) else s 5 i 3) ∧ (∀ i : Int, s1 5 i 4 = if t ≤ i ∧ i < t + cntF (fun i => okR (s 5 i 3) (s 5 i 4) (s 54 a i)) t k then nhi (s 5 i 4) (zrem (s 54 a i) 10) else s 5 i 4) := by
  intro k
  induction k with
  | zero =>
    intro t s h0 h1 h2
    have e0 : cntF (fun i => okR (s 5 i 3) (s 5 i 4) (s 54 a i)) t 0 = 0 := rfl
    rw [e0]
    refine ⟨s, fun F Q => ?_, fun _ _ => rfl, fun _ _ _ _ => rfl, fun i => by rw [if_neg (by omega)], fun i => by rw [if_neg (by omega)]⟩
    have e1 : (s 7 a 1 ≤ t) = True := eq_true (by omega)
    rw [r107_67]
    simp only [r107_68, r107_69, r107_72, r107_75, r107_76, r107_79, r107_82, r107_83, r107_84, r107_85, r107_88, r107_89, r107_90, r107_92, r107_93, r107_94, r107_97, r107_98, r107_99, r107_101, r107_102, r107_105, r107_108, r107_111, e1, zclr_I, zclr_R, zclr_L, zclr_U, reduceIte, Int.reduceEq, Int.reduceLT, Int.reduceLE, Int.reduceNeg, not_true_eq_false, not_false_eq_true, or_true, true_or, or_false, false_or, and_true, true_and, and_false, false_and, z01_or]
    rw [Int.add_zero]
  | succ k ih =>
    intro t s h0 h1 h2
    have e1 : (s 7 a 1 ≤ t) = False := eq_false (by omega)
    have b1 : (0 ≤ t ∧ t < 10) = True := eq_true (by omega)
    have w1 : w32 (t + 1) = t + 1 := w32_id (by omega) (by omega)
    have ten : ((10 : Int) = 0) = False := eq_false (by omega)
    by_cases c : zrem (s 54 a t) 10 < zdiv (s 54 a t) 10 ∨ nhi (s 5 t 4) (zrem (s 54 a t) 10) < nlo (s 5 t 3) (zdiv (s 54 a t) 10)
    · have e0 : cntF (fun i => okR (s 5 i 3) (s 5 i 4) (s 54 a i)) t (k + 1) = 0 := if_neg (fun z => (of_decide_eq_true z) c)
      rw [e0]
      refine ⟨s, fun F Q => ?_, fun _ _ => rfl, fun _ _ _ _ => rfl, fun i => by rw [if_neg (by omega)], fun i => by rw [if_neg (by omega)]⟩
      rw [r107_67]
      simp only [r107_68, r107_69, r107_72, r107_75, r107_76, r107_79, r107_82, r107_83, r107_84, r107_85, r107_88, r107_89, r107_90, r107_92, r107_93, r107_94, r107_97, r107_98, r107_99, r107_101, r107_102, e1, b1, ten, zak_40, zln_40, zak_41, zln_41, zak_42, zln_42, zak_43, zln_43, zak_44, zln_44, zak_45, zln_45, zak_46, zln_46, zak_47, zln_47, zak_48, zln_48, zak_49, zln_49, zak_50, zln_50, zak_51, zln_51, zak_52, zln_52, zak_53, zln_53, zak_54, zln_54, zak_55, zln_55, zak_73, zln_73, zak_74, zln_74, zak_75, zln_75, zak_76, zln_76, zak_77, zln_77, zak_78, zln_78, zak_79, zln_79, zak_80, zln_80, zak_81, zln_81, zak_82, zln_82, zak_83, zln_83, zak_84, zln_84, zak_85, zln_85, zak_86, zln_86, zak_87, zln_87, zak_88, zln_88, zak_89, zln_89, zak_90, zln_90, zak_91, zln_91, zak_92, zln_92, zak_93, zln_93, zak_94, zln_94, zak_95, zln_95, zak_96, zln_96, zak_97, zln_97, zak_98, zln_98, zak_99, zln_99, zak_100, zln_100, zak_101, zln_101, zak_102, zln_102, zak_103, zln_103, zak_104, zln_104, zak_105, zln_105, zak_108, zln_108, zak_109, zln_109, Nat.reduceLeDiff, zclr_I, zclr_R, zclr_L, zclr_U, reduceIte, Int.reduceEq, Int.reduceLT, Int.reduceLE, Int.reduceNeg, not_true_eq_false, not_false_eq_true, or_true, true_or, or_false, false_or, and_true, true_and, and_false, false_and, z01_or]
      rw [k_narrow, if_pos c]
      simp only [r107_105, r107_108, r107_111, zclr_I, zclr_R, zclr_L, zclr_U, reduceIte, Int.reduceEq, Int.reduceLT, Int.reduceLE, Int.reduceNeg, not_true_eq_false, not_false_eq_true, or_true, true_or, or_false, false_or, and_true, true_and, and_false, false_and, z01_or]
      rw [Int.add_zero]
    · have hk : okR (s 5 t 3) (s 5 t 4) (s 54 a t) = true := decide_eq_true c
      have e0 : cntF (fun i => okR (s 5 i 3) (s 5 i 4) (s 54 a i)) t (k + 1) = 1 + cntF (fun i => okR (s 5 i 3) (s 5 i 4) (s 54 a i)) (t + 1) k := if_pos hk
      have e6 : zup (zup s 5 t 3 (nlo (s 5 t 3) (zdiv (s 54 a t) 10))) 5 t 4 (nhi (s 5 t 4) (zrem (s 54 a t) 10)) 7 = s 7 := by rw [zup_ng (by omega), zup_ng (by omega)]
      have e54 : zup (zup s 5 t 3 (nlo (s 5 t 3) (zdiv (s 54 a t) 10))) 5 t 4 (nhi (s 5 t 4) (zrem (s 54 a t) 10)) 54 = s 54 := by rw [zup_ng (by omega), zup_ng (by omega)]
      have e5 : ∀ i j : Int, ¬ i = t → zup (zup s 5 t 3 (nlo (s 5 t 3) (zdiv (s 54 a t) 10))) 5 t 4 (nhi (s 5 t 4) (zrem (s 54 a t) 10)) 5 i j = s 5 i j := fun i j hi => by rw [zup_ni hi, zup_ni hi]
      have e53 : zup (zup s 5 t 3 (nlo (s 5 t 3) (zdiv (s 54 a t) 10))) 5 t 4 (nhi (s 5 t 4) (zrem (s 54 a t) 10)) 5 t 3 = nlo (s 5 t 3) (zdiv (s 54 a t) 10) := by rw [zup_nk (by omega), zup_eq]
      have e5g : zup (zup s 5 t 3 (nlo (s 5 t 3) (zdiv (s 54 a t) 10))) 5 t 4 (nhi (s 5 t 4) (zrem (s 54 a t) 10)) 5 t 4 = nhi (s 5 t 4) (zrem (s 54 a t) 10) := by rw [zup_eq]
      have e5h : ∀ i j : Int, ¬ j = 3 → ¬ j = 4 → zup (zup s 5 t 3 (nlo (s 5 t 3) (zdiv (s 54 a t) 10))) 5 t 4 (nhi (s 5 t 4) (zrem (s 54 a t) 10)) 5 i j = s 5 i j := fun i j hj hj4 => by rw [zup_nk hj4, zup_nk hj]
      have eg : ∀ g : Nat, ¬ g = 5 → zup (zup s 5 t 3 (nlo (s 5 t 3) (zdiv (s 54 a t) 10))) 5 t 4 (nhi (s 5 t 4) (zrem (s 54 a t) 10)) g = s g := fun g hg => by rw [zup_ng hg, zup_ng hg]
      have kn := fun (m pc : Nat) (ls st : List zV) (fs : List zFr) (Q : List zV → zS → Prop) => k_narrow (m := m) (pc := pc) (ls := ls) (st := st) (fs := fs) (Q := Q) (s := s) t (zdiv (s 54 a t) 10) (zrem (s 54 a t) 10)
      simp only [if_neg c] at kn
      generalize hX : zup (zup s 5 t 3 (nlo (s 5 t 3) (zdiv (s 54 a t) 10))) 5 t 4 (nhi (s 5 t 4) (zrem (s 54 a t) 10)) = X at *
      obtain ⟨s1, c1, c2, c3, c4, c5⟩ := ih (t + 1) X (by omega) (by rw [e6]; omega) (by rw [e6]; exact h2)
      have ec : cntF (fun i => okR (X 5 i 3) (X 5 i 4) (X 54 a i)) (t + 1) k = cntF (fun i => okR (s 5 i 3) (s 5 i 4) (s 54 a i)) (t + 1) k := cntF_c _ _ (fun i i0 i1 => by rw [e5 i 3 (by omega), e5 i 4 (by omega), e54])
      rw [ec] at c1 c4 c5
      rw [e54] at c4 c5
      rw [e0]
      obtain ⟨n0, -⟩ := cntF_b (f := fun i => okR (s 5 i 3) (s 5 i 4) (s 54 a i)) k (t + 1)
      generalize cntF (fun i => okR (s 5 i 3) (s 5 i 4) (s 54 a i)) (t + 1) k = N at *
      refine ⟨s1, fun F Q => ?_, fun g hg => by rw [c2 g hg, eg g hg], fun i j hj hj4 => by rw [c3 i j hj hj4, e5h i j hj hj4], fun i => ?_, fun i => ?_⟩
      · rw [r107_67]
        simp only [r107_68, r107_69, r107_72, r107_75, r107_76, r107_79, r107_82, r107_83, r107_84, r107_85, r107_88, r107_89, r107_90, r107_92, r107_93, r107_94, r107_97, r107_98, r107_99, r107_101, r107_102, e1, b1, ten, zak_40, zln_40, zak_41, zln_41, zak_42, zln_42, zak_43, zln_43, zak_44, zln_44, zak_45, zln_45, zak_46, zln_46, zak_47, zln_47, zak_48, zln_48, zak_49, zln_49, zak_50, zln_50, zak_51, zln_51, zak_52, zln_52, zak_53, zln_53, zak_54, zln_54, zak_55, zln_55, zak_73, zln_73, zak_74, zln_74, zak_75, zln_75, zak_76, zln_76, zak_77, zln_77, zak_78, zln_78, zak_79, zln_79, zak_80, zln_80, zak_81, zln_81, zak_82, zln_82, zak_83, zln_83, zak_84, zln_84, zak_85, zln_85, zak_86, zln_86, zak_87, zln_87, zak_88, zln_88, zak_89, zln_89, zak_90, zln_90, zak_91, zln_91, zak_92, zln_92, zak_93, zln_93, zak_94, zln_94, zak_95, zln_95, zak_96, zln_96, zak_97, zln_97, zak_98, zln_98, zak_99, zln_99, zak_100, zln_100, zak_101, zln_101, zak_102, zln_102, zak_103, zln_103, zak_104, zln_104, zak_105, zln_105, zak_108, zln_108, zak_109, zln_109, Nat.reduceLeDiff, zclr_I, zclr_R, zclr_L, zclr_U, reduceIte, Int.reduceEq, Int.reduceLT, Int.reduceLE, Int.reduceNeg, not_true_eq_false, not_false_eq_true, or_true, true_or, or_false, false_or, and_true, true_and, and_false, false_and, z01_or]
        rw [kn]
        simp only [r107_105, r107_108, r107_111, w1, zclr_I, zclr_R, zclr_L, zclr_U, reduceIte, Int.reduceEq, Int.reduceLT, Int.reduceLE, Int.reduceNeg, not_true_eq_false, not_false_eq_true, or_true, true_or, or_false, false_or, and_true, true_and, and_false, false_and, z01_or]
        rw [c1, Int.add_assoc]
      · rw [c4 i]
        by_cases ei : i = t
        · subst ei
          rw [if_neg (by omega), if_pos (by omega), e53]
        · rw [e5 i 3 ei]
          by_cases r : t + 1 ≤ i ∧ i < t + 1 + N
          · rw [if_pos r, if_pos (by omega)]
          · rw [if_neg r, if_neg (by omega)]
      · rw [c5 i]
        by_cases ei : i = t
        · subst ei
          rw [if_neg (by omega), if_pos (by omega), e5g]
        · rw [e5 i 4 ei]
          by_cases r : t + 1 ≤ i ∧ i < t + 1 + N
          · rw [if_pos r, if_pos (by omega)]
          · rw [if_neg r, if_neg (by omega)]

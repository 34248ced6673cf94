def sumF (f : Int → Int) : Int → Nat → Int
  | _, 0 => 0
  | t, k + 1 => f t + sumF f (t + 1) k
section CNT
variable {m pc : Nat} {ls st : List zV} {fs : List zFr} {s : zS} {Q : List zV → zS → Prop}
theorem lp58 (hT : s 6 0 3 ≤ 5) : ∀ (k : Nat) (t c : Int), 0 ≤ t → t + k = s 6 0 3 → 0 ≤ c → c ≤ t → Ev ((58, 4, [zR 6 0, zI c, zI t], []) :: (m, pc, ls, st) :: fs) s Q = Ev ((m, pc, ls, zI (c + sumF (fun i => if s 8 i 5 = 0 then 0 else 1) t k) :: st) :: fs) s Q := by
  intro k
  induction k with
  | zero =>
    intro t c h0 h1 h2 h3
    have e1 : (s 6 0 3 ≤ t) = True := eq_true (by omega)
    rw [r58_4]
    simp only [r58_0, r58_1, r58_2, r58_3, r58_5, r58_6, r58_9, r58_12, r58_13, r58_16, r58_17, r58_18, r58_21, r58_24, r58_27, r58_30, r58_33, r58_34, e1, sumF, Int.add_zero, zclr_I, zclr_R, zclr_L, zclr_U, reduceIte, Int.reduceEq, Int.reduceLT, Int.reduceLE, Int.reduceNeg, not_true_eq_false, not_false_eq_true, or_true, true_or, or_false, false_or, and_true, true_and, and_false, false_and, z01_or]
  | succ k ih =>
    intro t c h0 h1 h2 h3
    have e1 : (s 6 0 3 ≤ t) = False := eq_false (by omega)
    have b1 : (0 ≤ t ∧ t < 5) = True := eq_true (by omega)
    have w1 : w32 (t + 1) = t + 1 := w32_id (by omega) (by omega)
    have w2 : w32 (c + 1) = c + 1 := w32_id (by omega) (by omega)
    rw [r58_4]
    by_cases hz : s 8 t 5 = 0
    · simp only [r58_0, r58_1, r58_2, r58_3, r58_5, r58_6, r58_9, r58_12, r58_13, r58_16, r58_17, r58_18, r58_21, r58_24, r58_27, r58_30, r58_33, r58_34, e1, b1, hz, w1, zak_40, zln_40, zak_41, zln_41, zak_42, zln_42, zak_43, zln_43, zak_44, zln_44, zak_45, zln_45, zak_46, zln_46, zak_47, zln_47, zak_48, zln_48, zak_49, zln_49, zak_50, zln_50, zak_51, zln_51, zak_52, zln_52, zak_53, zln_53, zak_54, zln_54, zak_55, zln_55, zak_73, zln_73, zak_74, zln_74, zak_75, zln_75, zak_76, zln_76, zak_77, zln_77, zak_78, zln_78, zak_79, zln_79, zak_80, zln_80, zak_81, zln_81, zak_82, zln_82, zak_83, zln_83, zak_84, zln_84, zak_85, zln_85, zak_86, zln_86, zak_87, zln_87, zak_88, zln_88, zak_89, zln_89, zak_90, zln_90, zak_91, zln_91, zak_92, zln_92, zak_93, zln_93, zak_94, zln_94, zak_95, zln_95, zak_96, zln_96, zak_97, zln_97, zak_98, zln_98, zak_99, zln_99, zak_100, zln_100, zak_101, zln_101, zak_102, zln_102, zak_103, zln_103, zak_104, zln_104, zak_105, zln_105, zak_108, zln_108, zak_109, zln_109, Nat.reduceLeDiff, zclr_I, zclr_R, zclr_L, zclr_U, reduceIte, Int.reduceEq, Int.reduceLT, Int.reduceLE, Int.reduceNeg, not_true_eq_false, not_false_eq_true, or_true, true_or, or_false, false_or, and_true, true_and, and_false, false_and, z01_or]
      rw [ih (t + 1) c (by omega) (by omega) h2 (by omega)]
      have : c + sumF (fun i => if s 8 i 5 = 0 then 0 else 1) t (k + 1) = c + sumF (fun i => if s 8 i 5 = 0 then 0 else 1) (t + 1) k := by
        show c + ((if s 8 t 5 = 0 then 0 else 1) + _) = _
        rw [if_pos hz]
        omega
      rw [this]
    · simp only [r58_0, r58_1, r58_2, r58_3, r58_5, r58_6, r58_9, r58_12, r58_13, r58_16, r58_17, r58_18, r58_21, r58_24, r58_27, r58_30, r58_33, r58_34, e1, b1, hz, w1, w2, zak_40, zln_40, zak_41, zln_41, zak_42, zln_42, zak_43, zln_43, zak_44, zln_44, zak_45, zln_45, zak_46, zln_46, zak_47, zln_47, zak_48, zln_48, zak_49, zln_49, zak_50, zln_50, zak_51, zln_51, zak_52, zln_52, zak_53, zln_53, zak_54, zln_54, zak_55, zln_55, zak_73, zln_73, zak_74, zln_74, zak_75, zln_75, zak_76, zln_76, zak_77, zln_77, zak_78, zln_78, zak_79, zln_79, zak_80, zln_80, zak_81, zln_81, zak_82, zln_82, zak_83, zln_83, zak_84, zln_84, zak_85, zln_85, zak_86, zln_86, zak_87, zln_87, zak_88, zln_88, zak_89, zln_89, zak_90, zln_90, zak_91, zln_91, zak_92, zln_92, zak_93, zln_93, zak_94, zln_94, zak_95, zln_95, zak_96, zln_96, zak_97, zln_97, zak_98, zln_98, zak_99, zln_99, zak_100, zln_100, zak_101, zln_101, zak_102, zln_102, zak_103, zln_103, zak_104, zln_104, zak_105, zln_105, zak_108, zln_108, zak_109, zln_109, Nat.reduceLeDiff, zclr_I, zclr_R, zclr_L, zclr_U, reduceIte, Int.reduceEq, Int.reduceLT, Int.reduceLE, Int.reduceNeg, not_true_eq_false, not_false_eq_true, or_true, true_or, or_false, false_or, and_true, true_and, and_false, false_and, z01_or]
      rw [ih (t + 1) (c + 1) (by omega) (by omega) (by omega) (by omega)]
      have : c + sumF (fun i => if s 8 i 5 = 0 then 0 else 1) t (k + 1) = c + 1 + sumF (fun i => if s 8 i 5 = 0 then 0 else 1) (t + 1) k := by
        show c + ((if s 8 t 5 = 0 then 0 else 1) + _) = _
        rw [if_neg hz]
        omega
      rw [this]
theorem k_countClasses (hT : 0 ≤ s 6 0 3 ∧ s 6 0 3 ≤ 5) : Ev ((58, 0, [zR 6 0, zU, zU], []) :: (m, pc, ls, st) :: fs) s Q = Ev ((m, pc, ls, zI (sumF (fun i => if s 8 i 5 = 0 then 0 else 1) 0 (s 6 0 3).toNat) :: st) :: fs) s Q := by
  simp only [r58_0, r58_1, r58_2, r58_3, r58_5, r58_6, r58_9, r58_12, r58_13, r58_16, r58_17, r58_18, r58_21, r58_24, r58_27, r58_30, r58_33, r58_34, zclr_I, zclr_R, zclr_L, zclr_U, reduceIte, Int.reduceEq, Int.reduceLT, Int.reduceLE, Int.reduceNeg, not_true_eq_false, not_false_eq_true, or_true, true_or, or_false, false_or, and_true, true_and, and_false, false_and, z01_or]
  rw [lp58 hT.2 (s 6 0 3).toNat 0 0 (by omega) (by omega) (by omega) (by omega), Int.zero_add]
theorem sumF_c {f g : Int → Int} : ∀ (k : Nat) (t : Int), (∀ i, t ≤ i → i < t + k → f i = g i) → sumF f t k = sumF g t k := by
  intro k
  induction k with
  | zero => intro t _; rfl
  | succ k ih =>
    intro t h
    show f t + sumF f (t + 1) k = g t + sumF g (t + 1) k
    rw [h t (by omega) (by omega), ih (t + 1) (fun i h1 h2 => h i (by omega) (by omega))]
end CNT

/-- the class's reasonAgainst -/
abbrev gdC (s : zS) (t : Int) : Prop := ((¬ s 2 0 8 = 0 ∨ 8 ≤ s 2 0 2) ∧ (s 8 t 0 = 2 ∨ s 8 t 0 = 3)) ∨ (¬ (¬ s 2 0 8 = 0 ∨ 8 ≤ s 2 0 2) ∧ (s 2 0 2 ≤ 3 ∨ ¬ s 8 t 0 = 1))
def rsC (s : zS) (t : Int) : Int := if ¬ s 8 t 2 = 0 then 1 else if ¬ zand (s 2 0 0) (zxor (s 8 t 3) (-1)) = 0 then 2 else if s 2 0 3 < s 2 0 2 then 3 else if (if s 2 0 7 = 0 then s 6 0 5 else zdiv (s 6 0 5) 2) < s 2 0 1 then 4 else if s 6 0 6 < s 2 0 5 - s 2 0 4 then 5 else if ¬ zand (zand (s 2 0 6) (s 6 0 4)) (zxor (s 2 0 0) (-1)) = 0 then 6 else if gdC s t then 0 else 7
section
variable {m pc : Nat} {ls st : List zV} {fs : List zFr} {s : zS} {Q : List zV → zS → Prop}
theorem k_hasLevel : Ev ((17, 0, [zR 2 0], []) :: (m, pc, ls, st) :: fs) s Q = Ev ((m, pc, ls, zI (z01 (s 2 0 2 ≤ s 2 0 3)) :: st) :: fs) s Q := by
  by_cases h : s 2 0 2 ≤ s 2 0 3
  · have e : (s 2 0 3 < s 2 0 2) = False := eq_false (by omega)
    rw [z01_t h]
    simp only [r17_0, r17_1, r17_4, r17_5, r17_8, r17_11, r17_12, r17_15, r17_16, e, zclr_I, zclr_R, zclr_L, zclr_U, reduceIte, Int.reduceEq, Int.reduceLT, Int.reduceLE, Int.reduceNeg, not_true_eq_false, not_false_eq_true, or_true, true_or, or_false, false_or, and_true, true_and, and_false, false_and, z01_or]
  · have e : (s 2 0 3 < s 2 0 2) = True := eq_true (by omega)
    rw [z01_f h]
    simp only [r17_0, r17_1, r17_4, r17_5, r17_8, r17_11, r17_12, r17_15, r17_16, e, zclr_I, zclr_R, zclr_L, zclr_U, reduceIte, Int.reduceEq, Int.reduceLT, Int.reduceLE, Int.reduceNeg, not_true_eq_false, not_false_eq_true, or_true, true_or, or_false, false_or, and_true, true_and, and_false, false_and, z01_or]
theorem k_good (hk : I_k (s 108) (s 109)) (t : Int) (h1 : 0 ≤ s 8 t 0 ∧ s 8 t 0 ≤ 3) : Ev ((68, 0, [zR 8 t, zR 2 0], []) :: (m, pc, ls, st) :: fs) s Q = Ev ((m, pc, ls, zI (z01 (gdC s t)) :: st) :: fs) s Q := by
  have kM := fun (m pc : Nat) (ls st : List zV) (fs : List zFr) (Q : List zV → zS → Prop) => k_isAT (m := m) (pc := pc) (ls := ls) (st := st) (fs := fs) (Q := Q) (s := s) hk t 2 h1 (by omega)
  have kL := fun (m pc : Nat) (ls st : List zV) (fs : List zFr) (Q : List zV → zS → Prop) => k_isAT (m := m) (pc := pc) (ls := ls) (st := st) (fs := fs) (Q := Q) (s := s) hk t 1 h1 (by omega)
  by_cases hr : ¬ s 2 0 8 = 0 ∨ 8 ≤ s 2 0 2
  · have e : z01 (gdC s t) = z01 ((2 : Int) = 0 ∨ s 8 t 0 = 2 ∨ ((2 : Int) = 2 ∧ s 8 t 0 = 3)) := by
      by_cases hm : s 8 t 0 = 2 ∨ s 8 t 0 = 3
      · rw [z01_t (Or.inl ⟨hr, hm⟩), z01_t (by omega)]
      · rw [z01_f (fun z => z.elim (fun y => hm y.2) (fun y => y.1 hr)), z01_f (by omega)]
    rw [e]
    by_cases h8 : s 2 0 8 = 0
    · have l8 : (s 2 0 2 < 8) = False := eq_false (by omega)
      simp only [r68_0, r68_1, r68_4, r68_7, r68_8, r68_11, r68_13, r68_16, r68_17, h8, l8, zclr_I, zclr_R, zclr_L, zclr_U, reduceIte, Int.reduceEq, Int.reduceLT, Int.reduceLE, Int.reduceNeg, not_true_eq_false, not_false_eq_true, or_true, true_or, or_false, false_or, and_true, true_and, and_false, false_and, z01_or]
      rw [r68_18, kM]
      simp only [r68_21, zclr_I, zclr_R, zclr_L, zclr_U, reduceIte, Int.reduceEq, Int.reduceLT, Int.reduceLE, Int.reduceNeg, not_true_eq_false, not_false_eq_true, or_true, true_or, or_false, false_or, and_true, true_and, and_false, false_and, z01_or, z01_or]
    · simp only [r68_0, r68_1, r68_4, r68_7, r68_8, r68_11, r68_13, r68_16, r68_17, h8, zclr_I, zclr_R, zclr_L, zclr_U, reduceIte, Int.reduceEq, Int.reduceLT, Int.reduceLE, Int.reduceNeg, not_true_eq_false, not_false_eq_true, or_true, true_or, or_false, false_or, and_true, true_and, and_false, false_and, z01_or]
      rw [r68_18, kM]
      simp only [r68_21, zclr_I, zclr_R, zclr_L, zclr_U, reduceIte, Int.reduceEq, Int.reduceLT, Int.reduceLE, Int.reduceNeg, not_true_eq_false, not_false_eq_true, or_true, true_or, or_false, false_or, and_true, true_and, and_false, false_and, z01_or, z01_or]
  · have h8 : s 2 0 8 = 0 := by omega
    have l8 : (s 2 0 2 < 8) = True := eq_true (by omega)
    by_cases h3 : s 2 0 2 ≤ 3
    · rw [z01_t (Or.inr ⟨hr, Or.inl h3⟩)]
      simp only [r68_0, r68_1, r68_4, r68_7, r68_8, r68_11, r68_13, r68_16, r68_17, r68_18, r68_21, r68_22, r68_23, r68_26, r68_27, r68_30, r68_31, r68_32, r68_35, r68_38, r68_39, r68_42, r68_43, h8, l8, h3, zclr_I, zclr_R, zclr_L, zclr_U, reduceIte, Int.reduceEq, Int.reduceLT, Int.reduceLE, Int.reduceNeg, not_true_eq_false, not_false_eq_true, or_true, true_or, or_false, false_or, and_true, true_and, and_false, false_and, z01_or]
    · by_cases h4 : s 8 t 0 = 1
      · rw [z01_f (fun z => z.elim (fun y => hr y.1) (fun y => y.2.elim h3 (fun x => x h4)))]
        simp only [r68_0, r68_1, r68_4, r68_7, r68_8, r68_11, r68_13, r68_16, r68_17, r68_18, r68_21, r68_22, r68_23, r68_26, r68_27, r68_30, r68_31, h8, l8, h3, zclr_I, zclr_R, zclr_L, zclr_U, reduceIte, Int.reduceEq, Int.reduceLT, Int.reduceLE, Int.reduceNeg, not_true_eq_false, not_false_eq_true, or_true, true_or, or_false, false_or, and_true, true_and, and_false, false_and, z01_or]
        rw [r68_32, kL, z01_t (by omega)]
        simp only [r68_35, r68_38, r68_39, r68_42, r68_43, zclr_I, zclr_R, zclr_L, zclr_U, reduceIte, Int.reduceEq, Int.reduceLT, Int.reduceLE, Int.reduceNeg, not_true_eq_false, not_false_eq_true, or_true, true_or, or_false, false_or, and_true, true_and, and_false, false_and, z01_or]
      · rw [z01_t (Or.inr ⟨hr, Or.inr h4⟩)]
        simp only [r68_0, r68_1, r68_4, r68_7, r68_8, r68_11, r68_13, r68_16, r68_17, r68_18, r68_21, r68_22, r68_23, r68_26, r68_27, r68_30, r68_31, h8, l8, h3, zclr_I, zclr_R, zclr_L, zclr_U, reduceIte, Int.reduceEq, Int.reduceLT, Int.reduceLE, Int.reduceNeg, not_true_eq_false, not_false_eq_true, or_true, true_or, or_false, false_or, and_true, true_and, and_false, false_and, z01_or]
        rw [r68_32, kL, z01_f (by omega)]
        simp only [r68_35, r68_38, r68_39, r68_42, r68_43, zclr_I, zclr_R, zclr_L, zclr_U, reduceIte, Int.reduceEq, Int.reduceLT, Int.reduceLE, Int.reduceNeg, not_true_eq_false, not_false_eq_true, or_true, true_or, or_false, false_or, and_true, true_and, and_false, false_and, z01_or]
theorem k_reason (hk : I_k (s 108) (s 109)) (t : Int) (h1 : 0 ≤ s 8 t 0 ∧ s 8 t 0 ≤ 3) (hA : -1000000 ≤ s 2 0 5 - s 2 0 4 ∧ s 2 0 5 - s 2 0 4 ≤ 1000000) : Ev ((52, 0, [zR 6 0, zR 8 t, zR 2 0], []) :: (m, pc, ls, st) :: fs) s Q = Ev ((m, pc, ls, zI (rsC s t) :: st) :: fs) s Q := by
  have w1 : w32 (s 2 0 5 - s 2 0 4) = s 2 0 5 - s 2 0 4 := w32_id (by omega) (by omega)
  have two : ((2 : Int) = 0) = False := eq_false (by omega)
  have kG := fun (m pc : Nat) (ls st : List zV) (fs : List zFr) (Q : List zV → zS → Prop) => k_good (m := m) (pc := pc) (ls := ls) (st := st) (fs := fs) (Q := Q) (s := s) hk t h1
  unfold rsC
  by_cases h1 : s 8 t 2 = 0
  · rw [if_neg (fun z => z h1)]
    by_cases h2 : zand (s 2 0 0) (zxor (s 8 t 3) (-1)) = 0
    · rw [if_neg (fun z => z h2)]
      by_cases h3 : s 2 0 3 < s 2 0 2
      · have q := z01_f (show ¬ s 2 0 2 ≤ s 2 0 3 by omega)
        rw [if_pos h3]
        simp only [r52_0, r52_1, r52_4, r52_7, r52_8, r52_9, r52_10, r52_13, r52_14, r52_17, r52_18, r52_19, r52_20, r52_23, r52_24, r52_25, r52_26, r52_29, r52_32, r52_33, k_hasLevel, h1, h2, q, zclr_I, zclr_R, zclr_L, zclr_U, reduceIte, Int.reduceEq, Int.reduceLT, Int.reduceLE, Int.reduceNeg, not_true_eq_false, not_false_eq_true, or_true, true_or, or_false, false_or, and_true, true_and, and_false, false_and, z01_or]
      · have q := z01_t (show s 2 0 2 ≤ s 2 0 3 by omega)
        rw [if_neg h3]
        have step : Ev ((52, 0, [zR 6 0, zR 8 t, zR 2 0], []) :: (m, pc, ls, st) :: fs) s Q = Ev ((52, 34, [zR 6 0, zR 8 t, zR 2 0], []) :: (m, pc, ls, st) :: fs) s Q := by
          simp only [r52_0, r52_1, r52_4, r52_7, r52_8, r52_9, r52_10, r52_13, r52_14, r52_17, r52_18, r52_19, r52_20, r52_23, r52_24, r52_25, r52_26, r52_29, r52_32, r52_33, k_hasLevel, h1, h2, q, zclr_I, zclr_R, zclr_L, zclr_U, reduceIte, Int.reduceEq, Int.reduceLT, Int.reduceLE, Int.reduceNeg, not_true_eq_false, not_false_eq_true, or_true, true_or, or_false, false_or, and_true, true_and, and_false, false_and, z01_or]
        rw [step]
        by_cases h4 : (if s 2 0 7 = 0 then s 6 0 5 else zdiv (s 6 0 5) 2) < s 2 0 1
        · rw [if_pos h4]
          by_cases h7 : s 2 0 7 = 0
          · rw [if_pos h7] at h4
            have e4 : (s 2 0 1 ≤ s 6 0 5) = False := eq_false (by omega)
            simp only [r52_34, r52_35, r52_38, r52_39, r52_42, r52_45, r52_46, r52_49, r52_50, r52_51, r52_54, r52_55, r52_58, r52_61, r52_62, h7, e4, two, zclr_I, zclr_R, zclr_L, zclr_U, reduceIte, Int.reduceEq, Int.reduceLT, Int.reduceLE, Int.reduceNeg, not_true_eq_false, not_false_eq_true, or_true, true_or, or_false, false_or, and_true, true_and, and_false, false_and, z01_or]
          · rw [if_neg h7] at h4
            have e4 : (s 2 0 1 ≤ zdiv (s 6 0 5) 2) = False := eq_false (by omega)
            simp only [r52_34, r52_35, r52_38, r52_39, r52_42, r52_45, r52_46, r52_49, r52_50, r52_51, r52_54, r52_55, r52_58, r52_61, r52_62, h7, e4, two, zclr_I, zclr_R, zclr_L, zclr_U, reduceIte, Int.reduceEq, Int.reduceLT, Int.reduceLE, Int.reduceNeg, not_true_eq_false, not_false_eq_true, or_true, true_or, or_false, false_or, and_true, true_and, and_false, false_and, z01_or]
        · rw [if_neg h4]
          have step2 : Ev ((52, 34, [zR 6 0, zR 8 t, zR 2 0], []) :: (m, pc, ls, st) :: fs) s Q = Ev ((52, 63, [zR 6 0, zR 8 t, zR 2 0], []) :: (m, pc, ls, st) :: fs) s Q := by
            by_cases h7 : s 2 0 7 = 0
            · rw [if_pos h7] at h4
              have e4 : (s 2 0 1 ≤ s 6 0 5) = True := eq_true (by omega)
              simp only [r52_34, r52_35, r52_38, r52_39, r52_42, r52_45, r52_46, r52_49, r52_50, r52_51, r52_54, r52_55, r52_58, r52_61, r52_62, h7, e4, two, zclr_I, zclr_R, zclr_L, zclr_U, reduceIte, Int.reduceEq, Int.reduceLT, Int.reduceLE, Int.reduceNeg, not_true_eq_false, not_false_eq_true, or_true, true_or, or_false, false_or, and_true, true_and, and_false, false_and, z01_or]
            · rw [if_neg h7] at h4
              have e4 : (s 2 0 1 ≤ zdiv (s 6 0 5) 2) = True := eq_true (by omega)
              simp only [r52_34, r52_35, r52_38, r52_39, r52_42, r52_45, r52_46, r52_49, r52_50, r52_51, r52_54, r52_55, r52_58, r52_61, r52_62, h7, e4, two, zclr_I, zclr_R, zclr_L, zclr_U, reduceIte, Int.reduceEq, Int.reduceLT, Int.reduceLE, Int.reduceNeg, not_true_eq_false, not_false_eq_true, or_true, true_or, or_false, false_or, and_true, true_and, and_false, false_and, z01_or]
          rw [step2]
          by_cases h5 : s 6 0 6 < s 2 0 5 - s 2 0 4
          · have e5 : (s 2 0 5 - s 2 0 4 ≤ s 6 0 6) = False := eq_false (by omega)
            rw [if_pos h5]
            simp only [r52_63, r52_64, r52_67, r52_68, r52_71, r52_72, r52_73, r52_76, r52_79, r52_80, w1, e5, zclr_I, zclr_R, zclr_L, zclr_U, reduceIte, Int.reduceEq, Int.reduceLT, Int.reduceLE, Int.reduceNeg, not_true_eq_false, not_false_eq_true, or_true, true_or, or_false, false_or, and_true, true_and, and_false, false_and, z01_or]
          · have e5 : (s 2 0 5 - s 2 0 4 ≤ s 6 0 6) = True := eq_true (by omega)
            rw [if_neg h5]
            by_cases h6 : zand (zand (s 2 0 6) (s 6 0 4)) (zxor (s 2 0 0) (-1)) = 0
            · rw [if_neg (fun z => z h6)]
              by_cases h7 : gdC s t
              · rw [if_pos h7]
                simp only [r52_63, r52_64, r52_67, r52_68, r52_71, r52_72, r52_73, r52_76, r52_79, r52_80, r52_81, r52_82, r52_85, r52_86, r52_89, r52_90, r52_91, r52_94, r52_95, r52_96, r52_97, r52_100, r52_102, r52_103, r52_104, w1, e5, h6, zclr_I, zclr_R, zclr_L, zclr_U, reduceIte, Int.reduceEq, Int.reduceLT, Int.reduceLE, Int.reduceNeg, not_true_eq_false, not_false_eq_true, or_true, true_or, or_false, false_or, and_true, true_and, and_false, false_and, z01_or]
                rw [r52_105, kG, z01_t h7]
                simp only [r52_108, r52_111, r52_112, r52_115, r52_117, zclr_I, zclr_R, zclr_L, zclr_U, reduceIte, Int.reduceEq, Int.reduceLT, Int.reduceLE, Int.reduceNeg, not_true_eq_false, not_false_eq_true, or_true, true_or, or_false, false_or, and_true, true_and, and_false, false_and, z01_or]
              · rw [if_neg h7]
                simp only [r52_63, r52_64, r52_67, r52_68, r52_71, r52_72, r52_73, r52_76, r52_79, r52_80, r52_81, r52_82, r52_85, r52_86, r52_89, r52_90, r52_91, r52_94, r52_95, r52_96, r52_97, r52_100, r52_102, r52_103, r52_104, w1, e5, h6, zclr_I, zclr_R, zclr_L, zclr_U, reduceIte, Int.reduceEq, Int.reduceLT, Int.reduceLE, Int.reduceNeg, not_true_eq_false, not_false_eq_true, or_true, true_or, or_false, false_or, and_true, true_and, and_false, false_and, z01_or]
                rw [r52_105, kG, z01_f h7]
                simp only [r52_108, r52_111, r52_112, r52_115, r52_117, zclr_I, zclr_R, zclr_L, zclr_U, reduceIte, Int.reduceEq, Int.reduceLT, Int.reduceLE, Int.reduceNeg, not_true_eq_false, not_false_eq_true, or_true, true_or, or_false, false_or, and_true, true_and, and_false, false_and, z01_or]
            · rw [if_pos h6]
              simp only [r52_63, r52_64, r52_67, r52_68, r52_71, r52_72, r52_73, r52_76, r52_79, r52_80, r52_81, r52_82, r52_85, r52_86, r52_89, r52_90, r52_91, r52_94, r52_95, r52_96, r52_97, r52_100, r52_102, w1, e5, h6, zclr_I, zclr_R, zclr_L, zclr_U, reduceIte, Int.reduceEq, Int.reduceLT, Int.reduceLE, Int.reduceNeg, not_true_eq_false, not_false_eq_true, or_true, true_or, or_false, false_or, and_true, true_and, and_false, false_and, z01_or]
    · rw [if_pos h2]
      simp only [r52_0, r52_1, r52_4, r52_7, r52_8, r52_9, r52_10, r52_13, r52_14, r52_17, r52_18, r52_19, r52_20, r52_23, r52_24, h1, h2, zclr_I, zclr_R, zclr_L, zclr_U, reduceIte, Int.reduceEq, Int.reduceLT, Int.reduceLE, Int.reduceNeg, not_true_eq_false, not_false_eq_true, or_true, true_or, or_false, false_or, and_true, true_and, and_false, false_and, z01_or]
  · rw [if_pos h1]
    simp only [r52_0, r52_1, r52_4, r52_7, r52_8, h1, zclr_I, zclr_R, zclr_L, zclr_U, reduceIte, Int.reduceEq, Int.reduceLT, Int.reduceLE, Int.reduceNeg, not_true_eq_false, not_false_eq_true, or_true, true_or, or_false, false_or, and_true, true_and, and_false, false_and, z01_or]
theorem k_hasAll (x : Int) : Ev ((44, 0, [zR 6 0, zI x], []) :: (m, pc, ls, st) :: fs) s Q = Ev ((m, pc, ls, zI (z01 (0 < x ∧ x < zshl 1 (s 6 0 1))) :: st) :: fs) s Q := by
  by_cases h1 : x ≤ 0
  · rw [z01_f (by omega)]
    simp only [r44_0, r44_1, r44_4, r44_5, r44_6, r44_7, r44_10, r44_11, r44_14, r44_15, r44_18, r44_19, h1, zclr_I, zclr_R, zclr_L, zclr_U, reduceIte, Int.reduceEq, Int.reduceLT, Int.reduceLE, Int.reduceNeg, not_true_eq_false, not_false_eq_true, or_true, true_or, or_false, false_or, and_true, true_and, and_false, false_and, z01_or]
  · by_cases h2 : zshl 1 (s 6 0 1) ≤ x
    · rw [z01_f (by omega)]
      simp only [r44_0, r44_1, r44_4, r44_5, r44_6, r44_7, r44_10, r44_11, r44_14, r44_15, r44_18, r44_19, h1, h2, zclr_I, zclr_R, zclr_L, zclr_U, reduceIte, Int.reduceEq, Int.reduceLT, Int.reduceLE, Int.reduceNeg, not_true_eq_false, not_false_eq_true, or_true, true_or, or_false, false_or, and_true, true_and, and_false, false_and, z01_or]
    · rw [z01_t (by omega)]
      simp only [r44_0, r44_1, r44_4, r44_5, r44_6, r44_7, r44_10, r44_11, r44_14, r44_15, r44_18, r44_19, h1, h2, zclr_I, zclr_R, zclr_L, zclr_U, reduceIte, Int.reduceEq, Int.reduceLT, Int.reduceLE, Int.reduceNeg, not_true_eq_false, not_false_eq_true, or_true, true_or, or_false, false_or, and_true, true_and, and_false, false_and, z01_or]
theorem k_isSet (x : Int) : Ev ((137, 0, [zR 11 0, zI x], []) :: (m, pc, ls, st) :: fs) s Q = Ev ((m, pc, ls, zI (z01 (0 < x ∧ x < zshl 1 (s 11 0 0))) :: st) :: fs) s Q := by
  by_cases h1 : x ≤ 0
  · rw [z01_f (by omega)]
    simp only [r137_0, r137_1, r137_4, r137_5, r137_6, r137_7, r137_10, r137_11, r137_14, r137_15, r137_18, r137_19, h1, zclr_I, zclr_R, zclr_L, zclr_U, reduceIte, Int.reduceEq, Int.reduceLT, Int.reduceLE, Int.reduceNeg, not_true_eq_false, not_false_eq_true, or_true, true_or, or_false, false_or, and_true, true_and, and_false, false_and, z01_or]
  · by_cases h2 : zshl 1 (s 11 0 0) ≤ x
    · rw [z01_f (by omega)]
      simp only [r137_0, r137_1, r137_4, r137_5, r137_6, r137_7, r137_10, r137_11, r137_14, r137_15, r137_18, r137_19, h1, h2, zclr_I, zclr_R, zclr_L, zclr_U, reduceIte, Int.reduceEq, Int.reduceLT, Int.reduceLE, Int.reduceNeg, not_true_eq_false, not_false_eq_true, or_true, true_or, or_false, false_or, and_true, true_and, and_false, false_and, z01_or]
    · rw [z01_t (by omega)]
      simp only [r137_0, r137_1, r137_4, r137_5, r137_6, r137_7, r137_10, r137_11, r137_14, r137_15, r137_18, r137_19, h1, h2, zclr_I, zclr_R, zclr_L, zclr_U, reduceIte, Int.reduceEq, Int.reduceLT, Int.reduceLE, Int.reduceNeg, not_true_eq_false, not_false_eq_true, or_true, true_or, or_false, false_or, and_true, true_and, and_false, false_and, z01_or]
end
theorem set_P {x P : Int} (h0 : 0 ≤ x) (h1 : x < zshl 1 P) (p0 : 0 ≤ P) (p1 : P ≤ 10) : x < 1024 ∧ ∀ q : Int, 0 ≤ q → bi x q → q < P := by
  obtain ⟨P, rfl⟩ := Int.eq_ofNat_of_zero_le p0
  rw [zshl_1 (by omega)] at h1
  have hp : 2 ^ P ≤ 2 ^ 10 := Nat.pow_le_pow_right (by omega) (by omega)
  refine ⟨by omega, fun q q0 hq => ?_⟩
  refine Classical.byContradiction fun hn => ?_
  unfold bi at hq
  have h2 : 2 ^ P ≤ 2 ^ q.toNat := Nat.pow_le_pow_right (by omega) (by omega)
  rw [Nat.testBit_lt_two_pow (Nat.lt_of_lt_of_le (show x.toNat < 2 ^ P by omega) h2)] at hq
  cases hq
theorem zero_bi {x : Int} (h0 : 0 ≤ x) : x = 0 ↔ ∀ q : Int, 0 ≤ q → ¬ bi x q := by
  constructor
  · intro h q _; rw [h]; exact bi_0 q
  · intro h
    exact bi_ext h0 (by omega) (fun p p0 => ⟨fun z => absurd z (h p p0), fun z => absurd z (bi_0 p)⟩)
theorem zand_comm (x y : Int) : zand x y = zand y x := by
  unfold zand
  rw [Int32.and_comm]
theorem mxF_c {f g : Int → Int} {x a t : Int} {k : Nat} (h : ∀ i, t ≤ i → i < t + k → f i = g i) : mxF f x a t k = mxF g x a t k := foldI_c k a t (fun a i i0 i1 => by rw [h i i0 i1])
theorem mnF_c {f g : Int → Int} {x a t : Int} {k : Nat} (h : ∀ i, t ≤ i → i < t + k → f i = g i) : mnF f x a t k = mnF g x a t k := foldI_c k a t (fun a i i0 i1 => by rw [h i i0 i1])
theorem kdF_c {w : Int} {f g : Int → Int} {x a t : Int} {k : Nat} (h : ∀ i, t ≤ i → i < t + k → f i = g i) : kdF w f x a t k = kdF w g x a t k := foldI_c k a t (fun a i i0 i1 => by rw [h i i0 i1])

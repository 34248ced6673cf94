/-- the reference's mayTeach -/
def mayM (s : zS) (t x : Int) : Int := if ¬ s 87 0 t = 0 then 1 else if tgM s t x = true then 2 else if lvM s x < 0 then 3 else if (if kdM s x 3 = true then zdiv (s 11 0 6) 2 else s 11 0 6) < popc x then 4 else if s 11 0 7 < oldM s x - yngM s x then 5 else if frM s x = true then 6 else if s 84 0 t = 1 ∧ 3 < lvM s x then 7 else if (7 < lvM s x ∨ kdM s x 2 = true) ∧ ¬ (s 84 0 t = 2 ∨ s 84 0 t = 3) then 7 else 0
section
variable {m pc : Nat} {ls st : List zV} {fs : List zFr} {s : zS} {Q : List zV → zS → Prop}
theorem k_mayTeach (t x : Int) (v : zV) (t0 : 0 ≤ t ∧ t < 5) (x0 : 0 ≤ x) (x1 : x < 1024) (hn : 0 ≤ s 11 0 0) (hP : s 11 0 0 ≤ 10) (hF : ∀ p : Int, 0 ≤ p → p < s 11 0 0 → s 78 0 p < 10) (hA : -1000000 ≤ oldM s x - yngM s x ∧ oldM s x - yngM s x ≤ 1000000) : Ev ((144, 0, [zR 11 0, zI t, zI x, v], []) :: (m, pc, ls, st) :: fs) s Q = Ev ((m, pc, ls, zI (mayM s t x) :: st) :: fs) s Q := by
  have b1 : (0 ≤ t ∧ t < 5) = True := eq_true t0
  have two : ((2 : Int) = 0) = False := eq_false (by omega)
  have L140 := fun (m pc : Nat) (ls st : List zV) (fs : List zFr) (Q : List zV → zS → Prop) => lp140 (m := m) (pc := pc) (ls := ls) (st := st) (fs := fs) (Q := Q) (s := s) t x t0 x0 x1 hP (s 11 0 0).toNat 0 (by omega) (by omega)
  have L142 := fun (F : List zFr) (Q : List zV → zS → Prop) => lp142 (Q := Q) (s := s) x x0 x1 hP (s 11 0 0).toNat 0 1000 0 F (by omega) (by omega)
  have L143 := fun (m pc : Nat) (ls st : List zV) (fs : List zFr) (Q : List zV → zS → Prop) => lp143 (m := m) (pc := pc) (ls := ls) (st := st) (fs := fs) (Q := Q) (s := s) x x0 x1 hP hF (s 11 0 0).toNat 0 (by omega) (by omega)
  have w1 : w32 (oldM s x - yngM s x) = oldM s x - yngM s x := w32_id (by omega) (by omega)
  unfold mayM
  by_cases h1 : s 87 0 t = 0
  · rw [if_neg (fun z => z h1)]
    by_cases h2 : tgM s t x = true
    · rw [if_pos h2]
      simp only [r144_0, r144_1, r144_4, r144_5, r144_6, r144_9, r144_10, r144_11, r144_12, r144_13, r144_14, r144_17, r140_0, r140_1, h1, b1, zak_40, zln_40, zak_41, zln_41, zak_42, zln_42, zak_43, zln_43, zak_44, zln_44, zak_45, zln_45, zak_46, zln_46, zak_47, zln_47, zak_48, zln_48, zak_49, zln_49, zak_50, zln_50, zak_51, zln_51, zak_52, zln_52, zak_53, zln_53, zak_54, zln_54, zak_55, zln_55, zak_73, zln_73, zak_74, zln_74, zak_75, zln_75, zak_76, zln_76, zak_77, zln_77, zak_78, zln_78, zak_79, zln_79, zak_80, zln_80, zak_81, zln_81, zak_82, zln_82, zak_83, zln_83, zak_84, zln_84, zak_85, zln_85, zak_86, zln_86, zak_87, zln_87, zak_88, zln_88, zak_89, zln_89, zak_90, zln_90, zak_91, zln_91, zak_92, zln_92, zak_93, zln_93, zak_94, zln_94, zak_95, zln_95, zak_96, zln_96, zak_97, zln_97, zak_98, zln_98, zak_99, zln_99, zak_100, zln_100, zak_101, zln_101, zak_102, zln_102, zak_103, zln_103, zak_104, zln_104, zak_105, zln_105, zak_108, zln_108, zak_109, zln_109, Nat.reduceLeDiff, zclr_I, zclr_R, zclr_L, zclr_U, reduceIte, Int.reduceEq, Int.reduceLT, Int.reduceLE, Int.reduceNeg, not_true_eq_false, not_false_eq_true, or_true, true_or, or_false, false_or, and_true, true_and, and_false, false_and, z01_or]
      rw [L140, if_pos (show anyF (fun p => tb x p && decide (zand (s 75 0 p) (s 85 0 t) = 0)) 0 (s 11 0 0).toNat = true from h2)]
      simp only [r144_17, r144_20, r144_21, zclr_I, zclr_R, zclr_L, zclr_U, reduceIte, Int.reduceEq, Int.reduceLT, Int.reduceLE, Int.reduceNeg, not_true_eq_false, not_false_eq_true, or_true, true_or, or_false, false_or, and_true, true_and, and_false, false_and, z01_or]
    · rw [if_neg h2]
      simp only [r144_0, r144_1, r144_4, r144_5, r144_6, r144_9, r144_10, r144_11, r144_12, r144_13, r144_14, r140_0, r140_1, h1, b1, zak_40, zln_40, zak_41, zln_41, zak_42, zln_42, zak_43, zln_43, zak_44, zln_44, zak_45, zln_45, zak_46, zln_46, zak_47, zln_47, zak_48, zln_48, zak_49, zln_49, zak_50, zln_50, zak_51, zln_51, zak_52, zln_52, zak_53, zln_53, zak_54, zln_54, zak_55, zln_55, zak_73, zln_73, zak_74, zln_74, zak_75, zln_75, zak_76, zln_76, zak_77, zln_77, zak_78, zln_78, zak_79, zln_79, zak_80, zln_80, zak_81, zln_81, zak_82, zln_82, zak_83, zln_83, zak_84, zln_84, zak_85, zln_85, zak_86, zln_86, zak_87, zln_87, zak_88, zln_88, zak_89, zln_89, zak_90, zln_90, zak_91, zln_91, zak_92, zln_92, zak_93, zln_93, zak_94, zln_94, zak_95, zln_95, zak_96, zln_96, zak_97, zln_97, zak_98, zln_98, zak_99, zln_99, zak_100, zln_100, zak_101, zln_101, zak_102, zln_102, zak_103, zln_103, zak_104, zln_104, zak_105, zln_105, zak_108, zln_108, zak_109, zln_109, Nat.reduceLeDiff, zclr_I, zclr_R, zclr_L, zclr_U, reduceIte, Int.reduceEq, Int.reduceLT, Int.reduceLE, Int.reduceNeg, not_true_eq_false, not_false_eq_true, or_true, true_or, or_false, false_or, and_true, true_and, and_false, false_and, z01_or]
      rw [L140, if_neg (show ¬ anyF (fun p => tb x p && decide (zand (s 75 0 p) (s 85 0 t) = 0)) 0 (s 11 0 0).toNat = true from h2)]
      simp only [r144_17, r144_20, r144_21, r144_22, r144_23, r144_24, zclr_I, zclr_R, zclr_L, zclr_U, reduceIte, Int.reduceEq, Int.reduceLT, Int.reduceLE, Int.reduceNeg, not_true_eq_false, not_false_eq_true, or_true, true_or, or_false, false_or, and_true, true_and, and_false, false_and, z01_or]
      rw [k_levelOf x zU zU x0 x1 hn hP]
      by_cases h3 : lvM s x < 0
      · have e3 : (0 ≤ lvM s x) = False := eq_false (by omega)
        rw [if_pos h3]
        simp only [r144_27, r144_28, r144_29, r144_32, r144_33, e3, zclr_I, zclr_R, zclr_L, zclr_U, reduceIte, Int.reduceEq, Int.reduceLT, Int.reduceLE, Int.reduceNeg, not_true_eq_false, not_false_eq_true, or_true, true_or, or_false, false_or, and_true, true_and, and_false, false_and, z01_or]
      · have e3 : (0 ≤ lvM s x) = True := eq_true (by omega)
        rw [if_neg h3]
        simp only [r144_27, r144_28, r144_29, r144_32, r144_33, r144_34, r144_35, k_ones x zU zU x0 x1, e3, zclr_I, zclr_R, zclr_L, zclr_U, reduceIte, Int.reduceEq, Int.reduceLT, Int.reduceLE, Int.reduceNeg, not_true_eq_false, not_false_eq_true, or_true, true_or, or_false, false_or, and_true, true_and, and_false, false_and, z01_or]
        simp only [r144_38, r144_39, r144_40, r144_41, zclr_I, zclr_R, zclr_L, zclr_U, reduceIte, Int.reduceEq, Int.reduceLT, Int.reduceLE, Int.reduceNeg, not_true_eq_false, not_false_eq_true, or_true, true_or, or_false, false_or, and_true, true_and, and_false, false_and, z01_or]
        rw [k_hasKind x 3 zU x0 x1 hn hP]
        by_cases h4 : (if kdM s x 3 = true then zdiv (s 11 0 6) 2 else s 11 0 6) < popc x
        · rw [if_pos h4]
          by_cases hk : kdM s x 3 = true
          · rw [if_pos hk] at h4 ⊢
            have e4 : (popc x ≤ zdiv (s 11 0 6) 2) = False := eq_false (by omega)
            simp only [r144_44, r144_47, r144_48, r144_51, r144_52, r144_53, r144_56, r144_57, r144_60, r144_63, r144_64, e4, two, zclr_I, zclr_R, zclr_L, zclr_U, reduceIte, Int.reduceEq, Int.reduceLT, Int.reduceLE, Int.reduceNeg, not_true_eq_false, not_false_eq_true, or_true, true_or, or_false, false_or, and_true, true_and, and_false, false_and, z01_or]
          · rw [if_neg hk] at h4 ⊢
            have e4 : (popc x ≤ s 11 0 6) = False := eq_false (by omega)
            simp only [r144_44, r144_47, r144_48, r144_51, r144_52, r144_53, r144_56, r144_57, r144_60, r144_63, r144_64, e4, two, zclr_I, zclr_R, zclr_L, zclr_U, reduceIte, Int.reduceEq, Int.reduceLT, Int.reduceLE, Int.reduceNeg, not_true_eq_false, not_false_eq_true, or_true, true_or, or_false, false_or, and_true, true_and, and_false, false_and, z01_or]
        · rw [if_neg h4]
          have step : Ev ((144, 44, [zR 11 0, zI t, zI x, zI (lvM s x)], [zI (if kdM s x 3 = true then 1 else 0), zI (popc x)]) :: (m, pc, ls, st) :: fs) s Q = Ev ((144, 65, [zR 11 0, zI t, zI x, zI (lvM s x)], []) :: (m, pc, ls, st) :: fs) s Q := by
            by_cases hk : kdM s x 3 = true
            · rw [if_pos hk] at h4 ⊢
              have e4 : (popc x ≤ zdiv (s 11 0 6) 2) = True := eq_true (by omega)
              simp only [r144_44, r144_47, r144_48, r144_51, r144_52, r144_53, r144_56, r144_57, r144_60, r144_63, r144_64, e4, two, zclr_I, zclr_R, zclr_L, zclr_U, reduceIte, Int.reduceEq, Int.reduceLT, Int.reduceLE, Int.reduceNeg, not_true_eq_false, not_false_eq_true, or_true, true_or, or_false, false_or, and_true, true_and, and_false, false_and, z01_or]
            · rw [if_neg hk] at h4 ⊢
              have e4 : (popc x ≤ s 11 0 6) = True := eq_true (by omega)
              simp only [r144_44, r144_47, r144_48, r144_51, r144_52, r144_53, r144_56, r144_57, r144_60, r144_63, r144_64, e4, two, zclr_I, zclr_R, zclr_L, zclr_U, reduceIte, Int.reduceEq, Int.reduceLT, Int.reduceLE, Int.reduceNeg, not_true_eq_false, not_false_eq_true, or_true, true_or, or_false, false_or, and_true, true_and, and_false, false_and, z01_or]
          rw [step]
          simp only [r144_65, r144_66, r144_67, r142_0, r142_3, r142_4, r142_5, r142_6, r142_7, zclr_I, zclr_R, zclr_L, zclr_U, reduceIte, Int.reduceEq, Int.reduceLT, Int.reduceLE, Int.reduceNeg, not_true_eq_false, not_false_eq_true, or_true, true_or, or_false, false_or, and_true, true_and, and_false, false_and, z01_or]
          rw [L142]
          simp only [r142_82, r142_83, r142_84, r142_85, r142_86, zclr_I, zclr_R, zclr_L, zclr_U, reduceIte, Int.reduceEq, Int.reduceLT, Int.reduceLE, Int.reduceNeg, not_true_eq_false, not_false_eq_true, or_true, true_or, or_false, false_or, and_true, true_and, and_false, false_and, z01_or]
          rw [show mxF (fun p => s 74 0 p) x 0 0 (s 11 0 0).toNat = oldM s x from rfl, show mnF (fun p => s 74 0 p) x 1000 0 (s 11 0 0).toNat = yngM s x from rfl, w1]
          by_cases h5 : s 11 0 7 < oldM s x - yngM s x
          · rw [if_pos h5]
            simp only [r142_89, r142_92, r142_93, r142_96, r142_97, r144_70, r144_73, r144_74, h5, zclr_I, zclr_R, zclr_L, zclr_U, reduceIte, Int.reduceEq, Int.reduceLT, Int.reduceLE, Int.reduceNeg, not_true_eq_false, not_false_eq_true, or_true, true_or, or_false, false_or, and_true, true_and, and_false, false_and, z01_or]
          · rw [if_neg h5]
            simp only [r142_89, r142_92, r142_93, r142_96, r142_97, r144_70, r144_73, r144_74, r144_75, r144_76, r144_77, r143_0, r143_1, h5, zclr_I, zclr_R, zclr_L, zclr_U, reduceIte, Int.reduceEq, Int.reduceLT, Int.reduceLE, Int.reduceNeg, not_true_eq_false, not_false_eq_true, or_true, true_or, or_false, false_or, and_true, true_and, and_false, false_and, z01_or]
            rw [L143]
            by_cases h6 : frM s x = true
            · rw [if_pos h6, if_pos (show anyF (fun p => tb x p && decide (0 ≤ s 78 0 p ∧ ¬ s 83 0 (s 78 0 p) = 0 ∧ ¬ tb x (s 78 0 p) = true)) 0 (s 11 0 0).toNat = true from h6)]
              simp only [r144_80, r144_83, r144_85, zclr_I, zclr_R, zclr_L, zclr_U, reduceIte, Int.reduceEq, Int.reduceLT, Int.reduceLE, Int.reduceNeg, not_true_eq_false, not_false_eq_true, or_true, true_or, or_false, false_or, and_true, true_and, and_false, false_and, z01_or]
            · rw [if_neg h6, if_neg (show ¬ anyF (fun p => tb x p && decide (0 ≤ s 78 0 p ∧ ¬ s 83 0 (s 78 0 p) = 0 ∧ ¬ tb x (s 78 0 p) = true)) 0 (s 11 0 0).toNat = true from h6)]
              have tail : Ev ((144, 104, [zR 11 0, zI t, zI x, zI (lvM s x)], []) :: (m, pc, ls, st) :: fs) s Q = Ev ((m, pc, ls, zI (if (7 < lvM s x ∨ kdM s x 2 = true) ∧ ¬ (s 84 0 t = 2 ∨ s 84 0 t = 3) then 7 else 0) :: st) :: fs) s Q := by
                by_cases hm : s 84 0 t = 2 ∨ s 84 0 t = 3
                · have qm := z01_t hm
                  rw [if_neg (fun z => z.2 hm)]
                  by_cases h8 : 7 < lvM s x
                  · simp only [r144_104, r144_105, r144_107, r144_110, r144_111, r144_112, r144_113, r144_116, r144_119, r144_120, r144_121, r144_124, r144_127, r144_129, r144_132, r144_133, h8, zclr_I, zclr_R, zclr_L, zclr_U, reduceIte, Int.reduceEq, Int.reduceLT, Int.reduceLE, Int.reduceNeg, not_true_eq_false, not_false_eq_true, or_true, true_or, or_false, false_or, and_true, true_and, and_false, false_and, z01_or]
                    rw [k_isMaster t t0, qm]
                    simp only [r144_104, r144_105, r144_107, r144_110, r144_111, r144_112, r144_113, r144_116, r144_119, r144_120, r144_121, r144_124, r144_127, r144_129, r144_132, r144_133, zclr_I, zclr_R, zclr_L, zclr_U, reduceIte, Int.reduceEq, Int.reduceLT, Int.reduceLE, Int.reduceNeg, not_true_eq_false, not_false_eq_true, or_true, true_or, or_false, false_or, and_true, true_and, and_false, false_and, z01_or]
                  · simp only [r144_104, r144_105, r144_107, r144_110, r144_111, r144_112, r144_113, h8, zclr_I, zclr_R, zclr_L, zclr_U, reduceIte, Int.reduceEq, Int.reduceLT, Int.reduceLE, Int.reduceNeg, not_true_eq_false, not_false_eq_true, or_true, true_or, or_false, false_or, and_true, true_and, and_false, false_and, z01_or]
                    rw [k_hasKind x 2 zU x0 x1 hn hP]
                    by_cases hk : kdM s x 2 = true
                    · rw [if_pos hk]
                      simp only [r144_116, r144_119, r144_120, r144_121, r144_124, r144_127, r144_129, r144_132, r144_133, zclr_I, zclr_R, zclr_L, zclr_U, reduceIte, Int.reduceEq, Int.reduceLT, Int.reduceLE, Int.reduceNeg, not_true_eq_false, not_false_eq_true, or_true, true_or, or_false, false_or, and_true, true_and, and_false, false_and, z01_or]
                      rw [k_isMaster t t0, qm]
                      simp only [r144_116, r144_119, r144_120, r144_121, r144_124, r144_127, r144_129, r144_132, r144_133, zclr_I, zclr_R, zclr_L, zclr_U, reduceIte, Int.reduceEq, Int.reduceLT, Int.reduceLE, Int.reduceNeg, not_true_eq_false, not_false_eq_true, or_true, true_or, or_false, false_or, and_true, true_and, and_false, false_and, z01_or]
                    · rw [if_neg hk]
                      simp only [r144_116, r144_119, r144_120, r144_121, r144_124, r144_127, r144_129, r144_132, r144_133, zclr_I, zclr_R, zclr_L, zclr_U, reduceIte, Int.reduceEq, Int.reduceLT, Int.reduceLE, Int.reduceNeg, not_true_eq_false, not_false_eq_true, or_true, true_or, or_false, false_or, and_true, true_and, and_false, false_and, z01_or]
                · have qm := z01_f hm
                  by_cases h8 : 7 < lvM s x
                  · rw [if_pos ⟨Or.inl h8, hm⟩]
                    simp only [r144_104, r144_105, r144_107, r144_110, r144_111, r144_112, r144_113, r144_116, r144_119, r144_120, r144_121, r144_124, r144_127, r144_129, r144_132, r144_133, h8, zclr_I, zclr_R, zclr_L, zclr_U, reduceIte, Int.reduceEq, Int.reduceLT, Int.reduceLE, Int.reduceNeg, not_true_eq_false, not_false_eq_true, or_true, true_or, or_false, false_or, and_true, true_and, and_false, false_and, z01_or]
                    rw [k_isMaster t t0, qm]
                    simp only [r144_104, r144_105, r144_107, r144_110, r144_111, r144_112, r144_113, r144_116, r144_119, r144_120, r144_121, r144_124, r144_127, r144_129, r144_132, r144_133, zclr_I, zclr_R, zclr_L, zclr_U, reduceIte, Int.reduceEq, Int.reduceLT, Int.reduceLE, Int.reduceNeg, not_true_eq_false, not_false_eq_true, or_true, true_or, or_false, false_or, and_true, true_and, and_false, false_and, z01_or]
                  · simp only [r144_104, r144_105, r144_107, r144_110, r144_111, r144_112, r144_113, h8, zclr_I, zclr_R, zclr_L, zclr_U, reduceIte, Int.reduceEq, Int.reduceLT, Int.reduceLE, Int.reduceNeg, not_true_eq_false, not_false_eq_true, or_true, true_or, or_false, false_or, and_true, true_and, and_false, false_and, z01_or]
                    rw [k_hasKind x 2 zU x0 x1 hn hP]
                    by_cases hk : kdM s x 2 = true
                    · rw [if_pos hk, if_pos ⟨hk, hm⟩]
                      simp only [r144_116, r144_119, r144_120, r144_121, r144_124, r144_127, r144_129, r144_132, r144_133, zclr_I, zclr_R, zclr_L, zclr_U, reduceIte, Int.reduceEq, Int.reduceLT, Int.reduceLE, Int.reduceNeg, not_true_eq_false, not_false_eq_true, or_true, true_or, or_false, false_or, and_true, true_and, and_false, false_and, z01_or]
                      rw [k_isMaster t t0, qm]
                      simp only [r144_116, r144_119, r144_120, r144_121, r144_124, r144_127, r144_129, r144_132, r144_133, zclr_I, zclr_R, zclr_L, zclr_U, reduceIte, Int.reduceEq, Int.reduceLT, Int.reduceLE, Int.reduceNeg, not_true_eq_false, not_false_eq_true, or_true, true_or, or_false, false_or, and_true, true_and, and_false, false_and, z01_or]
                    · rw [if_neg hk, if_neg (fun z => hk z.1)]
                      simp only [r144_116, r144_119, r144_120, r144_121, r144_124, r144_127, r144_129, r144_132, r144_133, zclr_I, zclr_R, zclr_L, zclr_U, reduceIte, Int.reduceEq, Int.reduceLT, Int.reduceLE, Int.reduceNeg, not_true_eq_false, not_false_eq_true, or_true, true_or, or_false, false_or, and_true, true_and, and_false, false_and, z01_or]
              by_cases h7 : s 84 0 t = 1 ∧ 3 < lvM s x
              · rw [if_pos h7]
                have e7 : (lvM s x ≤ 3) = False := eq_false (by omega)
                simp only [r144_80, r144_83, r144_85, r144_86, r144_87, r144_90, r144_91, r144_92, r144_93, r144_96, r144_97, r144_98, r144_101, r144_103, b1, h7.1, e7, zak_40, zln_40, zak_41, zln_41, zak_42, zln_42, zak_43, zln_43, zak_44, zln_44, zak_45, zln_45, zak_46, zln_46, zak_47, zln_47, zak_48, zln_48, zak_49, zln_49, zak_50, zln_50, zak_51, zln_51, zak_52, zln_52, zak_53, zln_53, zak_54, zln_54, zak_55, zln_55, zak_73, zln_73, zak_74, zln_74, zak_75, zln_75, zak_76, zln_76, zak_77, zln_77, zak_78, zln_78, zak_79, zln_79, zak_80, zln_80, zak_81, zln_81, zak_82, zln_82, zak_83, zln_83, zak_84, zln_84, zak_85, zln_85, zak_86, zln_86, zak_87, zln_87, zak_88, zln_88, zak_89, zln_89, zak_90, zln_90, zak_91, zln_91, zak_92, zln_92, zak_93, zln_93, zak_94, zln_94, zak_95, zln_95, zak_96, zln_96, zak_97, zln_97, zak_98, zln_98, zak_99, zln_99, zak_100, zln_100, zak_101, zln_101, zak_102, zln_102, zak_103, zln_103, zak_104, zln_104, zak_105, zln_105, zak_108, zln_108, zak_109, zln_109, Nat.reduceLeDiff, zclr_I, zclr_R, zclr_L, zclr_U, reduceIte, Int.reduceEq, Int.reduceLT, Int.reduceLE, Int.reduceNeg, not_true_eq_false, not_false_eq_true, or_true, true_or, or_false, false_or, and_true, true_and, and_false, false_and, z01_or]
              · rw [if_neg h7]
                by_cases h7a : s 84 0 t = 1
                · have e7 : (lvM s x ≤ 3) = True := eq_true (by omega)
                  simp only [r144_80, r144_83, r144_85, r144_86, r144_87, r144_90, r144_91, r144_92, r144_93, r144_96, r144_97, r144_98, r144_101, r144_103, b1, h7a, e7, zak_40, zln_40, zak_41, zln_41, zak_42, zln_42, zak_43, zln_43, zak_44, zln_44, zak_45, zln_45, zak_46, zln_46, zak_47, zln_47, zak_48, zln_48, zak_49, zln_49, zak_50, zln_50, zak_51, zln_51, zak_52, zln_52, zak_53, zln_53, zak_54, zln_54, zak_55, zln_55, zak_73, zln_73, zak_74, zln_74, zak_75, zln_75, zak_76, zln_76, zak_77, zln_77, zak_78, zln_78, zak_79, zln_79, zak_80, zln_80, zak_81, zln_81, zak_82, zln_82, zak_83, zln_83, zak_84, zln_84, zak_85, zln_85, zak_86, zln_86, zak_87, zln_87, zak_88, zln_88, zak_89, zln_89, zak_90, zln_90, zak_91, zln_91, zak_92, zln_92, zak_93, zln_93, zak_94, zln_94, zak_95, zln_95, zak_96, zln_96, zak_97, zln_97, zak_98, zln_98, zak_99, zln_99, zak_100, zln_100, zak_101, zln_101, zak_102, zln_102, zak_103, zln_103, zak_104, zln_104, zak_105, zln_105, zak_108, zln_108, zak_109, zln_109, Nat.reduceLeDiff, zclr_I, zclr_R, zclr_L, zclr_U, reduceIte, Int.reduceEq, Int.reduceLT, Int.reduceLE, Int.reduceNeg, not_true_eq_false, not_false_eq_true, or_true, true_or, or_false, false_or, and_true, true_and, and_false, false_and, z01_or]
                  rw [tail]
                  simp only [h7a, zclr_I, zclr_R, zclr_L, zclr_U, reduceIte, Int.reduceEq, Int.reduceLT, Int.reduceLE, Int.reduceNeg, not_true_eq_false, not_false_eq_true, or_true, true_or, or_false, false_or, and_true, true_and, and_false, false_and, z01_or]
                · simp only [r144_80, r144_83, r144_85, r144_86, r144_87, r144_90, r144_91, r144_92, r144_93, r144_96, r144_97, r144_98, r144_101, r144_103, b1, h7a, zak_40, zln_40, zak_41, zln_41, zak_42, zln_42, zak_43, zln_43, zak_44, zln_44, zak_45, zln_45, zak_46, zln_46, zak_47, zln_47, zak_48, zln_48, zak_49, zln_49, zak_50, zln_50, zak_51, zln_51, zak_52, zln_52, zak_53, zln_53, zak_54, zln_54, zak_55, zln_55, zak_73, zln_73, zak_74, zln_74, zak_75, zln_75, zak_76, zln_76, zak_77, zln_77, zak_78, zln_78, zak_79, zln_79, zak_80, zln_80, zak_81, zln_81, zak_82, zln_82, zak_83, zln_83, zak_84, zln_84, zak_85, zln_85, zak_86, zln_86, zak_87, zln_87, zak_88, zln_88, zak_89, zln_89, zak_90, zln_90, zak_91, zln_91, zak_92, zln_92, zak_93, zln_93, zak_94, zln_94, zak_95, zln_95, zak_96, zln_96, zak_97, zln_97, zak_98, zln_98, zak_99, zln_99, zak_100, zln_100, zak_101, zln_101, zak_102, zln_102, zak_103, zln_103, zak_104, zln_104, zak_105, zln_105, zak_108, zln_108, zak_109, zln_109, Nat.reduceLeDiff, zclr_I, zclr_R, zclr_L, zclr_U, reduceIte, Int.reduceEq, Int.reduceLT, Int.reduceLE, Int.reduceNeg, not_true_eq_false, not_false_eq_true, or_true, true_or, or_false, false_or, and_true, true_and, and_false, false_and, z01_or]
                  rw [tail]
  · rw [if_pos h1]
    simp only [r144_0, r144_1, r144_4, r144_5, r144_6, r144_9, r144_10, h1, b1, zak_40, zln_40, zak_41, zln_41, zak_42, zln_42, zak_43, zln_43, zak_44, zln_44, zak_45, zln_45, zak_46, zln_46, zak_47, zln_47, zak_48, zln_48, zak_49, zln_49, zak_50, zln_50, zak_51, zln_51, zak_52, zln_52, zak_53, zln_53, zak_54, zln_54, zak_55, zln_55, zak_73, zln_73, zak_74, zln_74, zak_75, zln_75, zak_76, zln_76, zak_77, zln_77, zak_78, zln_78, zak_79, zln_79, zak_80, zln_80, zak_81, zln_81, zak_82, zln_82, zak_83, zln_83, zak_84, zln_84, zak_85, zln_85, zak_86, zln_86, zak_87, zln_87, zak_88, zln_88, zak_89, zln_89, zak_90, zln_90, zak_91, zln_91, zak_92, zln_92, zak_93, zln_93, zak_94, zln_94, zak_95, zln_95, zak_96, zln_96, zak_97, zln_97, zak_98, zln_98, zak_99, zln_99, zak_100, zln_100, zak_101, zln_101, zak_102, zln_102, zak_103, zln_103, zak_104, zln_104, zak_105, zln_105, zak_108, zln_108, zak_109, zln_109, Nat.reduceLeDiff, zclr_I, zclr_R, zclr_L, zclr_U, reduceIte, Int.reduceEq, Int.reduceLT, Int.reduceLE, Int.reduceNeg, not_true_eq_false, not_false_eq_true, or_true, true_or, or_false, false_or, and_true, true_and, and_false, false_and, z01_or]
end

/-! the class's search: placing -/
theorem lp32 (t d r P : Int) (t0 : 0 ≤ t ∧ t < 5) (d0 : 0 ≤ d) (d1 : d < 1024) (r0 : 0 ≤ r) (r1 : r < 1024) (P0 : 0 ≤ P ∧ P ≤ 2305843009213693952) : ∀ (n : Nat) (y : Int) (s : zS) (v7 v8 : zV), y ≤ n → 0 ≤ y → SubB y r → (∀ x : Int, 0 < x → SubB x r → 0 ≤ s 44 t x ∧ s 44 t x ≤ 2305843009213693952) → ∃ s1 : zS, (∀ (m pc : Nat) (ls st : List zV) (fs : List zFr) (Q : List zV → zS → Prop), Ev ((32, 11, [zR 4 0, zI r, zR 44 t, zI d, zL P, zU, zI y, v7, v8], []) :: (m, pc, ls, st) :: fs) s Q = Ev ((m, pc, ls, st) :: fs) s1 Q) ∧ (∀ g : Nat, ¬ g = 46 → s1 g = s g) ∧ (∀ D : Int, s1 46 0 D ≤ s 46 0 D) ∧ (∀ x : Int, 0 < x → x ≤ y → SubB x r → s1 46 0 (zor d x) ≤ P + s 44 t x) ∧ ∀ D : Int, s1 46 0 D = s 46 0 D ∨ ∃ x : Int, 0 < x ∧ SubB x r ∧ D = zor d x ∧ s1 46 0 D = P + s 44 t x := by
  intro n
  induction n with
  | zero =>
    intro y s v7 v8 hn h0 hs hr
    have e1 : (y ≤ 0) = True := eq_true (by omega)
    refine ⟨s, fun m pc ls st fs Q => ?_, fun _ _ => rfl, fun _ => Int.le_refl _, fun x x0 x1 _ => by omega, fun _ => Or.inl rfl⟩
    rw [r32_11]
    simp only [r32_13, r32_16, r32_18, r32_19, r32_21, r32_22, r32_23, r32_25, r32_27, r32_28, r32_31, r32_32, r32_34, r32_35, r32_36, r32_37, r32_40, r32_41, r32_44, r32_45, r32_47, r32_48, r32_50, r32_51, r32_53, r32_54, r32_55, r32_56, r32_57, r32_59, r32_62, e1, zclr_I, zclr_R, zclr_L, zclr_U, reduceIte, Int.reduceEq, Int.reduceLT, Int.reduceLE, Int.reduceNeg, not_true_eq_false, not_false_eq_true, or_true, true_or, or_false, false_or, and_true, true_and, and_false, false_and, z01_or]
  | succ n ih =>
    intro y s v7 v8 hn h0 hs hr
    by_cases hy : y ≤ 0
    · have e1 : (y ≤ 0) = True := eq_true hy
      refine ⟨s, fun m pc ls st fs Q => ?_, fun _ _ => rfl, fun _ => Int.le_refl _, fun x x0 x1 _ => by omega, fun _ => Or.inl rfl⟩
      rw [r32_11]
      simp only [r32_13, r32_16, r32_18, r32_19, r32_21, r32_22, r32_23, r32_25, r32_27, r32_28, r32_31, r32_32, r32_34, r32_35, r32_36, r32_37, r32_40, r32_41, r32_44, r32_45, r32_47, r32_48, r32_50, r32_51, r32_53, r32_54, r32_55, r32_56, r32_57, r32_59, r32_62, e1, zclr_I, zclr_R, zclr_L, zclr_U, reduceIte, Int.reduceEq, Int.reduceLT, Int.reduceLE, Int.reduceNeg, not_true_eq_false, not_false_eq_true, or_true, true_or, or_false, false_or, and_true, true_and, and_false, false_and, z01_or]
    · have e1 : (y ≤ 0) = False := eq_false hy
      have yr := SubB_le h0 r0 hs
      obtain ⟨z0, z1, z2⟩ := zor_bi d0 d1 h0 (show y < 1024 by omega)
      obtain ⟨x0, x1, x2, x3⟩ := sub_next r0 r1 (show 0 < y by omega) hs
      have hp := hr y (by omega) hs
      have b1 : (0 ≤ y ∧ y < 1024) = True := eq_true (by omega)
      have b2 : (0 ≤ zor d y ∧ zor d y < 1024) = True := eq_true ⟨z0, z1⟩
      have w1 : w64 (P + s 44 t y) = P + s 44 t y := w64_id (by omega) (by omega)
      have w2 : w32 (y - 1) = y - 1 := w32_id (by omega) (by omega)
      by_cases c : P + s 44 t y < s 46 0 (zor d y)
      · have e : (0 ≤ (if P + s 44 t y < s 46 0 (zor d y) then (-1 : Int) else if P + s 44 t y = s 46 0 (zor d y) then 0 else 1)) = False := by rw [if_pos c]; simp
        have g44 : zup s 46 0 (zor d y) (P + s 44 t y) 44 = s 44 := zup_ng (by omega)
        obtain ⟨s1, c1, c2, c3, c4, c5⟩ := ih (zand (y - 1) r) (zup s 46 0 (zor d y) (P + s 44 t y)) (zL (P + s 44 t y)) zU (by omega) x0 x2 (by rw [g44]; exact hr)
        rw [g44] at c4 c5
        have mono : ∀ D : Int, zup s 46 0 (zor d y) (P + s 44 t y) 46 0 D ≤ s 46 0 D := by
          intro D
          by_cases eD : D = zor d y
          · rw [eD, zup_eq]; omega
          · rw [zup_nk eD]; exact Int.le_refl _
        refine ⟨s1, fun m pc ls st fs Q => ?_, fun g hg => by rw [c2 g hg, zup_ng hg], fun D => Int.le_trans (c3 D) (mono D), fun x x4 x5 x6 => ?_, fun D => ?_⟩
        · rw [r32_11]
          simp only [r32_13, r32_16, r32_18, r32_19, r32_21, r32_22, r32_23, r32_25, r32_27, r32_28, r32_31, r32_32, r32_34, r32_35, r32_36, r32_37, r32_40, r32_41, r32_44, r32_45, r32_47, r32_48, r32_50, r32_51, r32_53, r32_54, r32_55, r32_56, r32_57, r32_59, r32_62, e1, b1, b2, w1, w2, e, zak_40, zln_40, zak_41, zln_41, zak_42, zln_42, zak_43, zln_43, zak_44, zln_44, zak_45, zln_45, zak_46, zln_46, zak_47, zln_47, zak_48, zln_48, zak_49, zln_49, zak_50, zln_50, zak_51, zln_51, zak_52, zln_52, zak_53, zln_53, zak_54, zln_54, zak_55, zln_55, zak_73, zln_73, zak_74, zln_74, zak_75, zln_75, zak_76, zln_76, zak_77, zln_77, zak_78, zln_78, zak_79, zln_79, zak_80, zln_80, zak_81, zln_81, zak_82, zln_82, zak_83, zln_83, zak_84, zln_84, zak_85, zln_85, zak_86, zln_86, zak_87, zln_87, zak_88, zln_88, zak_89, zln_89, zak_90, zln_90, zak_91, zln_91, zak_92, zln_92, zak_93, zln_93, zak_94, zln_94, zak_95, zln_95, zak_96, zln_96, zak_97, zln_97, zak_98, zln_98, zak_99, zln_99, zak_100, zln_100, zak_101, zln_101, zak_102, zln_102, zak_103, zln_103, zak_104, zln_104, zak_105, zln_105, zak_108, zln_108, zak_109, zln_109, Nat.reduceLeDiff, zclr_I, zclr_R, zclr_L, zclr_U, reduceIte, Int.reduceEq, Int.reduceLT, Int.reduceLE, Int.reduceNeg, not_true_eq_false, not_false_eq_true, or_true, true_or, or_false, false_or, and_true, true_and, and_false, false_and, z01_or]
          exact c1 m pc ls st fs Q
        · by_cases ex : x = y
          · rw [ex]
            have := c3 (zor d y)
            rw [zup_eq] at this
            exact this
          · exact c4 x x4 (x3 x (by omega) x6 (by omega)) x6
        · rcases c5 D with h | h
          · by_cases eD : D = zor d y
            · right
              refine ⟨y, by omega, hs, eD, ?_⟩
              rw [h, eD, zup_eq]
            · left
              rw [h, zup_nk eD]
          · exact Or.inr h
      · have e : (0 ≤ (if P + s 44 t y < s 46 0 (zor d y) then (-1 : Int) else if P + s 44 t y = s 46 0 (zor d y) then 0 else 1)) = True := by
          rw [if_neg c]
          by_cases c3 : P + s 44 t y = s 46 0 (zor d y)
          · rw [if_pos c3]; simp
          · rw [if_neg c3]; simp
        obtain ⟨s1, c1, c2, c3, c4, c5⟩ := ih (zand (y - 1) r) s (zL (P + s 44 t y)) zU (by omega) x0 x2 hr
        refine ⟨s1, fun m pc ls st fs Q => ?_, c2, c3, fun x x4 x5 x6 => ?_, c5⟩
        · rw [r32_11]
          simp only [r32_13, r32_16, r32_18, r32_19, r32_21, r32_22, r32_23, r32_25, r32_27, r32_28, r32_31, r32_32, r32_34, r32_35, r32_36, r32_37, r32_40, r32_41, r32_44, r32_45, r32_47, r32_48, r32_50, r32_51, r32_53, r32_54, r32_55, r32_56, r32_57, r32_59, r32_62, e1, b1, b2, w1, w2, e, zak_40, zln_40, zak_41, zln_41, zak_42, zln_42, zak_43, zln_43, zak_44, zln_44, zak_45, zln_45, zak_46, zln_46, zak_47, zln_47, zak_48, zln_48, zak_49, zln_49, zak_50, zln_50, zak_51, zln_51, zak_52, zln_52, zak_53, zln_53, zak_54, zln_54, zak_55, zln_55, zak_73, zln_73, zak_74, zln_74, zak_75, zln_75, zak_76, zln_76, zak_77, zln_77, zak_78, zln_78, zak_79, zln_79, zak_80, zln_80, zak_81, zln_81, zak_82, zln_82, zak_83, zln_83, zak_84, zln_84, zak_85, zln_85, zak_86, zln_86, zak_87, zln_87, zak_88, zln_88, zak_89, zln_89, zak_90, zln_90, zak_91, zln_91, zak_92, zln_92, zak_93, zln_93, zak_94, zln_94, zak_95, zln_95, zak_96, zln_96, zak_97, zln_97, zak_98, zln_98, zak_99, zln_99, zak_100, zln_100, zak_101, zln_101, zak_102, zln_102, zak_103, zln_103, zak_104, zln_104, zak_105, zln_105, zak_108, zln_108, zak_109, zln_109, Nat.reduceLeDiff, zclr_I, zclr_R, zclr_L, zclr_U, reduceIte, Int.reduceEq, Int.reduceLT, Int.reduceLE, Int.reduceNeg, not_true_eq_false, not_false_eq_true, or_true, true_or, or_false, false_or, and_true, true_and, and_false, false_and, z01_or]
          exact c1 m pc ls st fs Q
        · by_cases ex : x = y
          · rw [ex]
            have := c3 (zor d y)
            omega
          · exact c4 x x4 (x3 x (by omega) x6 (by omega)) x6
theorem k_placeEach (t d r : Int) (t0 : 0 ≤ t ∧ t < 5) (d0 : 0 ≤ d) (d1 : d < 1024) (r0 : 0 ≤ r) (r1 : r < 1024) (s : zS) (P0 : 0 ≤ s 46 0 d ∧ s 46 0 d ≤ 2305843009213693952) (hr : ∀ x : Int, 0 < x → SubB x r → 0 ≤ s 44 t x ∧ s 44 t x ≤ 2305843009213693952) : ∃ s1 : zS, (∀ (m pc : Nat) (ls st : List zV) (fs : List zFr) (Q : List zV → zS → Prop), Ev ((32, 0, [zR 4 0, zI r, zR 44 t, zI d, zU, zU, zU, zU, zU], []) :: (m, pc, ls, st) :: fs) s Q = Ev ((m, pc, ls, st) :: fs) s1 Q) ∧ (∀ g : Nat, ¬ g = 46 → s1 g = s g) ∧ (∀ D : Int, s1 46 0 D ≤ s 46 0 D) ∧ (∀ x : Int, 0 < x → SubB x r → s1 46 0 (zor d x) ≤ s 46 0 d + s 44 t x) ∧ ∀ D : Int, s1 46 0 D = s 46 0 D ∨ ∃ x : Int, 0 < x ∧ SubB x r ∧ D = zor d x ∧ s1 46 0 D = s 46 0 d + s 44 t x := by
  have b1 : (0 ≤ d ∧ d < 1024) = True := eq_true ⟨d0, d1⟩
  obtain ⟨s1, c1, c2, c3, c4, c5⟩ := lp32 t d r (s 46 0 d) t0 d0 d1 r0 r1 P0 r.toNat r s zU zU (by omega) r0 (fun _ _ h => h) hr
  refine ⟨s1, fun m pc ls st fs Q => ?_, c2, c3, fun x x0 x1 => c4 x x0 (SubB_le (by omega) r0 x1) x1, c5⟩
  simp only [r32_0, r32_1, r32_4, r32_5, r32_6, r32_8, r32_9, b1, zak_40, zln_40, zak_41, zln_41, zak_42, zln_42, zak_43, zln_43, zak_44, zln_44, zak_45, zln_45, zak_46, zln_46, zak_47, zln_47, zak_48, zln_48, zak_49, zln_49, zak_50, zln_50, zak_51, zln_51, zak_52, zln_52, zak_53, zln_53, zak_54, zln_54, zak_55, zln_55, zak_73, zln_73, zak_74, zln_74, zak_75, zln_75, zak_76, zln_76, zak_77, zln_77, zak_78, zln_78, zak_79, zln_79, zak_80, zln_80, zak_81, zln_81, zak_82, zln_82, zak_83, zln_83, zak_84, zln_84, zak_85, zln_85, zak_86, zln_86, zak_87, zln_87, zak_88, zln_88, zak_89, zln_89, zak_90, zln_90, zak_91, zln_91, zak_92, zln_92, zak_93, zln_93, zak_94, zln_94, zak_95, zln_95, zak_96, zln_96, zak_97, zln_97, zak_98, zln_98, zak_99, zln_99, zak_100, zln_100, zak_101, zln_101, zak_102, zln_102, zak_103, zln_103, zak_104, zln_104, zak_105, zln_105, zak_108, zln_108, zak_109, zln_109, Nat.reduceLeDiff, zclr_I, zclr_R, zclr_L, zclr_U, reduceIte, Int.reduceEq, Int.reduceLT, Int.reduceLE, Int.reduceNeg, not_true_eq_false, not_false_eq_true, or_true, true_or, or_false, false_or, and_true, true_and, and_false, false_and, z01_or]
  exact c1 m pc ls st fs Q

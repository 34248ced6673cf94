/-- the pupils with a tongue in common, with one more looked at -/
def acq (a b u p : Int) : Int := if zand a b = 0 then u else zor u (zshl 1 p)
section
variable {m pc : Nat} {ls st : List zV} {fs : List zFr} {s : zS} {Q : List zV → zS → Prop}
theorem k_acq (t p : Int) (p0 : 0 ≤ p) (p1 : p < 10) : Ev ((47, 0, [zR 6 0, zR 8 t, zI p], []) :: (m, pc, ls, st) :: fs) s Q = Ev ((m, pc, ls, st) :: fs) (zup s 8 t 3 (acq (s 8 t 1) (s 5 p 2) (s 8 t 3) p)) Q := by
  have b1 : (0 ≤ p ∧ p < 10) = True := eq_true ⟨p0, p1⟩
  by_cases h : zand (s 8 t 1) (s 5 p 2) = 0
  · rw [zup_id (show acq (s 8 t 1) (s 5 p 2) (s 8 t 3) p = s 8 t 3 from if_pos h)]
    simp only [r47_0, r47_1, r47_3, r47_6, r47_9, r47_10, r47_13, r47_14, r47_17, r47_18, r47_19, r47_22, r47_23, r47_26, r47_27, r47_28, r47_31, r47_32, r47_33, r47_34, r47_35, r47_38, k_isBelow, b1, z01_True, h, zak_40, zln_40, zak_41, zln_41, zak_42, zln_42, zak_43, zln_43, zak_44, zln_44, zak_45, zln_45, zak_46, zln_46, zak_47, zln_47, zak_48, zln_48, zak_49, zln_49, zak_50, zln_50, zak_51, zln_51, zak_52, zln_52, zak_53, zln_53, zak_54, zln_54, zak_55, zln_55, zak_73, zln_73, zak_74, zln_74, zak_75, zln_75, zak_76, zln_76, zak_77, zln_77, zak_78, zln_78, zak_79, zln_79, zak_80, zln_80, zak_81, zln_81, zak_82, zln_82, zak_83, zln_83, zak_84, zln_84, zak_85, zln_85, zak_86, zln_86, zak_87, zln_87, zak_88, zln_88, zak_89, zln_89, zak_90, zln_90, zak_91, zln_91, zak_92, zln_92, zak_93, zln_93, zak_94, zln_94, zak_95, zln_95, zak_96, zln_96, zak_97, zln_97, zak_98, zln_98, zak_99, zln_99, zak_100, zln_100, zak_101, zln_101, zak_102, zln_102, zak_103, zln_103, zak_104, zln_104, zak_105, zln_105, zak_108, zln_108, zak_109, zln_109, Nat.reduceLeDiff, zclr_I, zclr_R, zclr_L, zclr_U, reduceIte, Int.reduceEq, Int.reduceLT, Int.reduceLE, Int.reduceNeg, not_true_eq_false, not_false_eq_true, or_true, true_or, or_false, false_or, and_true, true_and, and_false, false_and, z01_or]
  · rw [show acq (s 8 t 1) (s 5 p 2) (s 8 t 3) p = zor (s 8 t 3) (zshl 1 p) from if_neg h]
    simp only [r47_0, r47_1, r47_3, r47_6, r47_9, r47_10, r47_13, r47_14, r47_17, r47_18, r47_19, r47_22, r47_23, r47_26, r47_27, r47_28, r47_31, r47_32, r47_33, r47_34, r47_35, r47_38, k_isBelow, b1, z01_True, h, zak_40, zln_40, zak_41, zln_41, zak_42, zln_42, zak_43, zln_43, zak_44, zln_44, zak_45, zln_45, zak_46, zln_46, zak_47, zln_47, zak_48, zln_48, zak_49, zln_49, zak_50, zln_50, zak_51, zln_51, zak_52, zln_52, zak_53, zln_53, zak_54, zln_54, zak_55, zln_55, zak_73, zln_73, zak_74, zln_74, zak_75, zln_75, zak_76, zln_76, zak_77, zln_77, zak_78, zln_78, zak_79, zln_79, zak_80, zln_80, zak_81, zln_81, zak_82, zln_82, zak_83, zln_83, zak_84, zln_84, zak_85, zln_85, zak_86, zln_86, zak_87, zln_87, zak_88, zln_88, zak_89, zln_89, zak_90, zln_90, zak_91, zln_91, zak_92, zln_92, zak_93, zln_93, zak_94, zln_94, zak_95, zln_95, zak_96, zln_96, zak_97, zln_97, zak_98, zln_98, zak_99, zln_99, zak_100, zln_100, zak_101, zln_101, zak_102, zln_102, zak_103, zln_103, zak_104, zln_104, zak_105, zln_105, zak_108, zln_108, zak_109, zln_109, Nat.reduceLeDiff, zclr_I, zclr_R, zclr_L, zclr_U, reduceIte, Int.reduceEq, Int.reduceLT, Int.reduceLE, Int.reduceNeg, not_true_eq_false, not_false_eq_true, or_true, true_or, or_false, false_or, and_true, true_and, and_false, false_and, z01_or]
end
theorem acq_bi {a b u p : Int} (u0 : 0 ≤ u) (u1 : u < 1024) (p0 : 0 ≤ p) (p1 : p < 10) : 0 ≤ acq a b u p ∧ acq a b u p < 1024 ∧ ∀ q : Int, 0 ≤ q → (bi (acq a b u p) q ↔ bi u q ∨ (q = p ∧ ¬ zand a b = 0)) := by
  unfold acq
  by_cases h : zand a b = 0
  · rw [if_pos h]
    exact ⟨u0, u1, fun q q0 => ⟨Or.inl, fun z => z.elim id (fun y => absurd h y.2)⟩⟩
  · rw [if_neg h]
    obtain ⟨c0, c1, c2⟩ := set_bi u0 u1 p0 p1
    refine ⟨c0, c1, fun q q0 => ?_⟩
    rw [c2 q q0]
    exact ⟨fun z => z.imp id (fun y => ⟨y, h⟩), fun z => z.imp id (fun y => y.1)⟩
theorem lp45 (p : Int) (v1 v2 v3 : zV) (p0 : 0 ≤ p) (p1 : p < 10) : ∀ (k : Nat) (t : Int) (s : zS), 0 ≤ t → t + k = s 6 0 3 → s 6 0 3 ≤ 5 → ∃ s1 : zS, (∀ (F : List zFr) (Q : List zV → zS → Prop), Ev ((45, 58, [zR 6 0, v1, v2, v3, zI p, zR 5 p, zI t], []) :: F) s Q = Ev ((45, 86, [zR 6 0, v1, v2, v3, zI p, zR 5 p, zI (s 6 0 3)], []) :: F) s1 Q) ∧ (∀ g : Nat, ¬ g = 8 → s1 g = s g) ∧ (∀ i j : Int, ¬ j = 3 → s1 8 i j = s 8 i j) ∧ (∀ i : Int, i < t ∨ s 6 0 3 ≤ i → s1 8 i 3 = s 8 i 3) ∧ ∀ i : Int, t ≤ i → i < s 6 0 3 → s1 8 i 3 = acq (s 8 i 1) (s 5 p 2) (s 8 i 3) p := by
  intro k
  induction k with
  | zero =>
    intro t s h0 h1 h2
    refine ⟨s, fun F Q => ?_, fun _ _ => rfl, fun _ _ _ => rfl, fun _ _ => rfl, fun i i0 i1 => by omega⟩
    have e1 : (s 6 0 3 ≤ t) = True := eq_true (by omega)
    have e2 : t = s 6 0 3 := by omega
    rw [r45_58]
    simp only [r45_60, r45_61, r45_64, r45_67, r45_68, r45_69, r45_72, r45_74, r45_75, r45_77, r45_80, r45_83, e1, zclr_I, zclr_R, zclr_L, zclr_U, reduceIte, Int.reduceEq, Int.reduceLT, Int.reduceLE, Int.reduceNeg, not_true_eq_false, not_false_eq_true, or_true, true_or, or_false, false_or, and_true, true_and, and_false, false_and, z01_or]
    rw [e2]
  | succ k ih =>
    intro t s h0 h1 h2
    have e1 : (s 6 0 3 ≤ t) = False := eq_false (by omega)
    have b1 : (0 ≤ t ∧ t < 5) = True := eq_true (by omega)
    have w1 : w32 (t + 1) = t + 1 := w32_id (by omega) (by omega)
    have e6 : zup s 8 t 3 (acq (s 8 t 1) (s 5 p 2) (s 8 t 3) p) 6 = s 6 := zup_ng (by omega)
    have e5 : zup s 8 t 3 (acq (s 8 t 1) (s 5 p 2) (s 8 t 3) p) 5 = s 5 := zup_ng (by omega)
    obtain ⟨s1, c1, c2, c3, c4, c5⟩ := ih (t + 1) (zup s 8 t 3 (acq (s 8 t 1) (s 5 p 2) (s 8 t 3) p)) (by omega) (by rw [e6]; omega) (by rw [e6]; exact h2)
    rw [e6] at c1 c4 c5
    rw [e5] at c5
    refine ⟨s1, fun F Q => ?_, fun g hg => by rw [c2 g hg, zup_ng hg], fun i j hj => by rw [c3 i j hj, zup_nk hj], fun i hi => by rw [c4 i (by omega), zup_ni (by omega)], fun i i0 i1 => ?_⟩
    · rw [r45_58]
      simp only [r45_60, r45_61, r45_64, r45_67, r45_68, r45_69, r45_72, r45_74, r45_75, r45_77, r45_80, r45_83, k_acq t p p0 p1, e1, b1, w1, zak_40, zln_40, zak_41, zln_41, zak_42, zln_42, zak_43, zln_43, zak_44, zln_44, zak_45, zln_45, zak_46, zln_46, zak_47, zln_47, zak_48, zln_48, zak_49, zln_49, zak_50, zln_50, zak_51, zln_51, zak_52, zln_52, zak_53, zln_53, zak_54, zln_54, zak_55, zln_55, zak_73, zln_73, zak_74, zln_74, zak_75, zln_75, zak_76, zln_76, zak_77, zln_77, zak_78, zln_78, zak_79, zln_79, zak_80, zln_80, zak_81, zln_81, zak_82, zln_82, zak_83, zln_83, zak_84, zln_84, zak_85, zln_85, zak_86, zln_86, zak_87, zln_87, zak_88, zln_88, zak_89, zln_89, zak_90, zln_90, zak_91, zln_91, zak_92, zln_92, zak_93, zln_93, zak_94, zln_94, zak_95, zln_95, zak_96, zln_96, zak_97, zln_97, zak_98, zln_98, zak_99, zln_99, zak_100, zln_100, zak_101, zln_101, zak_102, zln_102, zak_103, zln_103, zak_104, zln_104, zak_105, zln_105, zak_108, zln_108, zak_109, zln_109, Nat.reduceLeDiff, zclr_I, zclr_R, zclr_L, zclr_U, reduceIte, Int.reduceEq, Int.reduceLT, Int.reduceLE, Int.reduceNeg, not_true_eq_false, not_false_eq_true, or_true, true_or, or_false, false_or, and_true, true_and, and_false, false_and, z01_or]
      exact c1 F Q
    · by_cases e : i = t
      · subst e
        rw [c4 i (by omega), zup_eq]
      · rw [c5 i (by omega) i1, zup_ni e, zup_ni e]
theorem lp46 (n : Int) (v1 v2 v3 : zV) : ∀ (k : Nat) (t : Int) (s : zS), 0 ≤ t → t + k = s 6 0 1 → s 6 0 1 ≤ 10 → ∀ (F : List zFr) (Q : List zV → zS → Prop), Ev ((46, 35, [zR 6 0, v1, v2, v3, zR 8 n, zI t], []) :: F) s Q = Ev ((46, 58, [zR 6 0, v1, v2, v3, zR 8 n, zI (s 6 0 1)], []) :: F) (zup s 8 n 3 (foldI (fun u p => acq (s 8 n 1) (s 5 p 2) u p) (s 8 n 3) t k)) Q := by
  intro k
  induction k with
  | zero =>
    intro t s h0 h1 h2 F Q
    have e1 : (s 6 0 1 ≤ t) = True := eq_true (by omega)
    have e2 : t = s 6 0 1 := by omega
    rw [r46_35, zup_id (show foldI (fun u p => acq (s 8 n 1) (s 5 p 2) u p) (s 8 n 3) t 0 = s 8 n 3 from rfl)]
    simp only [r46_37, r46_38, r46_41, r46_44, r46_45, r46_47, r46_49, r46_52, r46_55, e1, zclr_I, zclr_R, zclr_L, zclr_U, reduceIte, Int.reduceEq, Int.reduceLT, Int.reduceLE, Int.reduceNeg, not_true_eq_false, not_false_eq_true, or_true, true_or, or_false, false_or, and_true, true_and, and_false, false_and, z01_or]
    rw [e2]
  | succ k ih =>
    intro t s h0 h1 h2 F Q
    have e1 : (s 6 0 1 ≤ t) = False := eq_false (by omega)
    have w1 : w32 (t + 1) = t + 1 := w32_id (by omega) (by omega)
    have e6 : zup s 8 n 3 (acq (s 8 n 1) (s 5 t 2) (s 8 n 3) t) 6 = s 6 := zup_ng (by omega)
    have e5 : zup s 8 n 3 (acq (s 8 n 1) (s 5 t 2) (s 8 n 3) t) 5 = s 5 := zup_ng (by omega)
    have e8 : zup s 8 n 3 (acq (s 8 n 1) (s 5 t 2) (s 8 n 3) t) 8 n 1 = s 8 n 1 := zup_nk (by omega)
    have c1 := ih (t + 1) (zup s 8 n 3 (acq (s 8 n 1) (s 5 t 2) (s 8 n 3) t)) (by omega) (by rw [e6]; omega) (by rw [e6]; exact h2) F Q
    rw [e6, e5, e8, zup_eq, zup_up] at c1
    rw [r46_35]
    simp only [r46_37, r46_38, r46_41, r46_44, r46_45, r46_47, r46_49, r46_52, r46_55, k_acq n t h0 (by omega), e1, w1, zclr_I, zclr_R, zclr_L, zclr_U, reduceIte, Int.reduceEq, Int.reduceLT, Int.reduceLE, Int.reduceNeg, not_true_eq_false, not_false_eq_true, or_true, true_or, or_false, false_or, and_true, true_and, and_false, false_and, z01_or]
    exact c1
theorem acqF_bi (a : Int) (b : Int → Int) : ∀ (k : Nat) (u t : Int), 0 ≤ u → u < 1024 → 0 ≤ t → t + k ≤ 10 → 0 ≤ foldI (fun u p => acq a (b p) u p) u t k ∧ foldI (fun u p => acq a (b p) u p) u t k < 1024 ∧ ∀ q : Int, 0 ≤ q → (bi (foldI (fun u p => acq a (b p) u p) u t k) q ↔ bi u q ∨ (t ≤ q ∧ q < t + k ∧ ¬ zand a (b q) = 0)) := by
  intro k
  induction k with
  | zero =>
    intro u t u0 u1 t0 t1
    exact ⟨u0, u1, fun q q0 => ⟨Or.inl, fun z => z.elim id (fun y => by omega)⟩⟩
  | succ k ih =>
    intro u t u0 u1 t0 t1
    obtain ⟨b0, b1, b2⟩ := acq_bi (a := a) (b := b t) u0 u1 t0 (show t < 10 by omega)
    obtain ⟨d0, d1, d2⟩ := ih (acq a (b t) u t) (t + 1) b0 b1 (by omega) (by omega)
    refine ⟨d0, d1, fun q q0 => ?_⟩
    show bi (foldI (fun u p => acq a (b p) u p) (acq a (b t) u t) (t + 1) k) q ↔ _
    rw [d2 q q0, b2 q q0]
    constructor
    · rintro ((h | ⟨h1, h2⟩) | ⟨h1, h2, h3⟩)
      · exact Or.inl h
      · subst h1; exact Or.inr ⟨by omega, by omega, h2⟩
      · exact Or.inr ⟨by omega, by omega, h3⟩
    · rintro (h | ⟨h1, h2, h3⟩)
      · exact Or.inl (Or.inl h)
      · by_cases e : q = t
        · subst e; exact Or.inl (Or.inr ⟨rfl, h3⟩)
        · exact Or.inr ⟨by omega, by omega, h3⟩
theorem pr_teacher (L : Nat) : Pr_teacher (Inv L) := by
  intro a b ha hb s hs
  obtain ⟨h1, h2, h3, h4, h5, h6, h7, h8, h9, h10, h11, h12, h13, h14, h15, h16, h17, h18, h19, h20⟩ := id hs
  have eP := h4.1
  have h40 := h4.2
  have eT := h5.1
  have h50 := h5.2
  by_cases hc : (0 ≤ a ∧ a < 4) ∧ 1 ≤ b ∧ b ≤ 15
  · have q1 := z01_t hc.1
    have q2 := z01_t hc.2
    have q3 : z01 (0 ≤ a ∧ a ≤ 3) = 1 := z01_t (by omega)
    by_cases hf : s 11 0 1 = 5
    · have f1 : (s 11 0 1 = 5) = True := eq_true hf
      have f2 : (s 6 0 3 < 5) = False := eq_false (by omega)
      have f3 : (5 ≤ s 6 0 3) = True := eq_true (by omega)
      refine pf (-1000002) hs ?_ ?_ <;> intro m pc ls st fs Q
      · simp only [r73_0, r73_1, r73_2, r73_5, r73_8, r73_9, r73_12, r73_15, r73_16, r73_18, r73_21, r73_22, r73_23, r73_24, r73_27, r73_28, r73_29, r73_32, r73_35, r46_0, r46_1, r46_4, r46_5, r46_6, r46_7, r46_10, r46_11, r46_12, r46_13, r46_16, r46_17, r46_18, r46_20, r46_22, r46_23, r46_26, r46_28, r46_29, r46_32, k_isBelow, k_isTongues, k_orFull, q1, q2, f2, f3, zclr_I, zclr_R, zclr_L, zclr_U, reduceIte, Int.reduceEq, Int.reduceLT, Int.reduceLE, Int.reduceNeg, not_true_eq_false, not_false_eq_true, or_true, true_or, or_false, false_or, and_true, true_and, and_false, false_and, z01_or]
      · simp only [r124_0, r124_1, r124_2, r124_3, r124_6, r124_9, r124_10, r124_11, r124_13, r124_16, r124_19, r124_20, r124_22, r124_25, r124_26, r124_27, r124_30, r124_31, r124_34, r124_35, r124_37, r124_40, r124_41, r124_42, r124_45, r124_46, r124_49, r124_50, r124_51, r124_52, r124_55, r124_56, r124_59, r124_60, r124_61, r124_62, r124_63, r124_66, r124_67, r124_68, r124_71, r124_72, r124_75, r124_76, r124_77, k_in, k_finds, q2, q3, f1, zup_g, Nat.reduceEqDiff, zclr_I, zclr_R, zclr_L, zclr_U, reduceIte, Int.reduceEq, Int.reduceLT, Int.reduceLE, Int.reduceNeg, not_true_eq_false, not_false_eq_true, or_true, true_or, or_false, false_or, and_true, true_and, and_false, false_and, z01_or]
    · have f1 : (s 11 0 1 = 5) = False := eq_false hf
      have f2 : (s 6 0 3 < 5) = True := eq_true (by omega)
      have f3 : (5 ≤ s 6 0 3) = False := eq_false (by omega)
      have b1 : (0 ≤ s 6 0 3 ∧ s 6 0 3 < 5) = True := eq_true (by omega)
      have b0 : (0 ≤ s 6 0 3) = True := eq_true (by omega)
      have b2 : (0 ≤ s 11 0 1 ∧ s 11 0 1 < 5) = True := eq_true (by omega)
      have w1 : w32 (s 6 0 3 + 1) = s 6 0 3 + 1 := w32_id (by omega) (by omega)
      have w2 : w32 (s 11 0 1 + 1) = s 11 0 1 + 1 := w32_id (by omega) (by omega)
      have w3 : w32 (s 11 0 1 + 1 - 1) = s 11 0 1 := by rw [w32_id (by omega) (by omega)]; omega
      have f4 : (s 6 0 3 = -1) = False := eq_false (by omega)
      have lp := fun (F : List zFr) (Q : List zV → zS → Prop) => lp46 (s 6 0 3) (zI a) (zI b) (zI (s 6 0 3)) (s 6 0 1).toNat 0 (zup (zup s 8 (s 6 0 3) 0 a) 8 (s 6 0 3) 1 b) (by omega) (by simp only [zup_g, Nat.reduceEqDiff, zclr_I, zclr_R, zclr_L, zclr_U, reduceIte, Int.reduceEq, Int.reduceLT, Int.reduceLE, Int.reduceNeg, not_true_eq_false, not_false_eq_true, or_true, true_or, or_false, false_or, and_true, true_and, and_false, false_and, z01_or]; omega) (by simp only [zup_g, Nat.reduceEqDiff, zclr_I, zclr_R, zclr_L, zclr_U, reduceIte, Int.reduceEq, Int.reduceLT, Int.reduceLE, Int.reduceNeg, not_true_eq_false, not_false_eq_true, or_true, true_or, or_false, false_or, and_true, true_and, and_false, false_and, z01_or]; omega) F Q
      simp only [zup_g, Nat.reduceEqDiff, zclr_I, zclr_R, zclr_L, zclr_U, reduceIte, Int.reduceEq, Int.reduceLT, Int.reduceLE, Int.reduceNeg, not_true_eq_false, not_false_eq_true, or_true, true_or, or_false, false_or, and_true, true_and, and_false, false_and, z01_or] at lp
      have u3 : s 8 (s 6 0 3) 3 = 0 := (h16 (s 6 0 3) (by omega) (by omega)).2.1
      rw [u3] at lp
      obtain ⟨d0, d1, d2⟩ := acqF_bi b (fun p => s 5 p 2) (s 6 0 1).toNat 0 0 (by omega) (by omega) (by omega) (by omega)
      generalize hX : foldI (fun u p => acq b (s 5 p 2) u p) 0 0 (s 6 0 1).toNat = X at lp d0 d1 d2
      refine ⟨s 11 0 1, zup (zup (zup (zup s 8 (s 6 0 3) 0 a) 8 (s 6 0 3) 1 b) 8 (s 6 0 3) 3 X) 6 0 3 (s 6 0 3 + 1), zup (zup (zup (zup (zup (zup (zup s 8 (s 6 0 3) 0 a) 8 (s 6 0 3) 1 b) 8 (s 6 0 3) 3 X) 6 0 3 (s 6 0 3 + 1)) 84 0 (s 11 0 1) a) 85 0 (s 11 0 1) b) 11 0 1 (s 11 0 1 + 1), ?_, ?_, ?_, rfl, rfl⟩
      · intro m pc ls st fs Q
        simp only [r73_0, r73_1, r73_2, r73_5, r73_8, r73_9, r73_12, r73_15, r73_16, r73_18, r73_21, r73_22, r73_23, r73_24, r73_27, r73_28, r73_29, r73_32, r73_35, r46_0, r46_1, r46_4, r46_5, r46_6, r46_7, r46_10, r46_11, r46_12, r46_13, r46_16, r46_17, r46_18, r46_20, r46_22, r46_23, r46_26, r46_28, r46_29, r46_32, r46_33, k_isBelow, k_isTongues, q1, q2, f2, f3, b0, b1, zak_40, zln_40, zak_41, zln_41, zak_42, zln_42, zak_43, zln_43, zak_44, zln_44, zak_45, zln_45, zak_46, zln_46, zak_47, zln_47, zak_48, zln_48, zak_49, zln_49, zak_50, zln_50, zak_51, zln_51, zak_52, zln_52, zak_53, zln_53, zak_54, zln_54, zak_55, zln_55, zak_73, zln_73, zak_74, zln_74, zak_75, zln_75, zak_76, zln_76, zak_77, zln_77, zak_78, zln_78, zak_79, zln_79, zak_80, zln_80, zak_81, zln_81, zak_82, zln_82, zak_83, zln_83, zak_84, zln_84, zak_85, zln_85, zak_86, zln_86, zak_87, zln_87, zak_88, zln_88, zak_89, zln_89, zak_90, zln_90, zak_91, zln_91, zak_92, zln_92, zak_93, zln_93, zak_94, zln_94, zak_95, zln_95, zak_96, zln_96, zak_97, zln_97, zak_98, zln_98, zak_99, zln_99, zak_100, zln_100, zak_101, zln_101, zak_102, zln_102, zak_103, zln_103, zak_104, zln_104, zak_105, zln_105, zak_108, zln_108, zak_109, zln_109, Nat.reduceLeDiff, zclr_I, zclr_R, zclr_L, zclr_U, reduceIte, Int.reduceEq, Int.reduceLT, Int.reduceLE, Int.reduceNeg, not_true_eq_false, not_false_eq_true, or_true, true_or, or_false, false_or, and_true, true_and, and_false, false_and, z01_or]
        rw [lp]
        simp only [r73_0, r73_1, r73_2, r73_5, r73_8, r73_9, r73_12, r73_15, r73_16, r73_18, r73_21, r73_22, r73_23, r73_24, r73_27, r73_28, r73_29, r73_32, r73_35, r46_58, r46_59, r46_60, r46_63, r46_64, r46_65, r46_68, r46_69, k_orFull, w1, f4, zup_g, Nat.reduceEqDiff, zclr_I, zclr_R, zclr_L, zclr_U, reduceIte, Int.reduceEq, Int.reduceLT, Int.reduceLE, Int.reduceNeg, not_true_eq_false, not_false_eq_true, or_true, true_or, or_false, false_or, and_true, true_and, and_false, false_and, z01_or]
        rw [eT]
      · intro m pc ls st fs Q
        simp only [r124_0, r124_1, r124_2, r124_3, r124_6, r124_9, r124_10, r124_11, r124_13, r124_16, r124_19, r124_20, r124_22, r124_25, r124_26, r124_27, r124_30, r124_31, r124_34, r124_35, r124_37, r124_40, r124_41, r124_42, r124_45, r124_46, r124_49, r124_50, r124_51, r124_52, r124_55, r124_56, r124_59, r124_60, r124_61, r124_62, r124_63, r124_66, r124_67, r124_68, r124_71, r124_72, r124_75, r124_76, r124_77, k_in, q2, q3, f1, b2, w2, w3, zak_40, zln_40, zak_41, zln_41, zak_42, zln_42, zak_43, zln_43, zak_44, zln_44, zak_45, zln_45, zak_46, zln_46, zak_47, zln_47, zak_48, zln_48, zak_49, zln_49, zak_50, zln_50, zak_51, zln_51, zak_52, zln_52, zak_53, zln_53, zak_54, zln_54, zak_55, zln_55, zak_73, zln_73, zak_74, zln_74, zak_75, zln_75, zak_76, zln_76, zak_77, zln_77, zak_78, zln_78, zak_79, zln_79, zak_80, zln_80, zak_81, zln_81, zak_82, zln_82, zak_83, zln_83, zak_84, zln_84, zak_85, zln_85, zak_86, zln_86, zak_87, zln_87, zak_88, zln_88, zak_89, zln_89, zak_90, zln_90, zak_91, zln_91, zak_92, zln_92, zak_93, zln_93, zak_94, zln_94, zak_95, zln_95, zak_96, zln_96, zak_97, zln_97, zak_98, zln_98, zak_99, zln_99, zak_100, zln_100, zak_101, zln_101, zak_102, zln_102, zak_103, zln_103, zak_104, zln_104, zak_105, zln_105, zak_108, zln_108, zak_109, zln_109, Nat.reduceLeDiff, zup_g, Nat.reduceEqDiff, zclr_I, zclr_R, zclr_L, zclr_U, reduceIte, Int.reduceEq, Int.reduceLT, Int.reduceLE, Int.reduceNeg, not_true_eq_false, not_false_eq_true, or_true, true_or, or_false, false_or, and_true, true_and, and_false, false_and, z01_or]
      · unfold Inv
        simp only [zclr_I, zclr_R, zclr_L, zclr_U, reduceIte, Int.reduceEq, Int.reduceLT, Int.reduceLE, Int.reduceNeg, not_true_eq_false, not_false_eq_true, or_true, true_or, or_false, false_or, and_true, true_and, and_false, false_and, z01_or, zup_g, Nat.reduceEqDiff]
        refine ⟨h1, h2, h3, h4, ⟨by omega, by omega, by omega⟩, h6, h7, h8, h9, h10, h11, fun i i0 i1 => ?_, h13, h14, fun t t0 t1 => ?_, fun t t0 t1 => ?_, h17, h18, ⟨fun i i0 i1 => ?_, h19.2⟩, h20⟩
        · obtain ⟨k1, k2, k3, k4, k5, k6, k7⟩ := h12 i i0 i1
          exact ⟨k1, k2, k3, k4, k5, ⟨k6.1, by omega⟩, k7⟩
        · by_cases e : t = s 11 0 1
          · subst e
            obtain ⟨g1, g2, g3, g4, g5, g6⟩ := h16 (s 11 0 1) (by omega) (by omega)
            rw [eT]
            simp only [zclr_I, zclr_R, zclr_L, zclr_U, reduceIte, Int.reduceEq, Int.reduceLT, Int.reduceLE, Int.reduceNeg, not_true_eq_false, not_false_eq_true, or_true, true_or, or_false, false_or, and_true, true_and, and_false, false_and, z01_or]
            refine ⟨by omega, by omega, ⟨by omega, by omega⟩, ⟨by omega, by omega, by omega⟩, ⟨d0, d1, fun p p0 => ?_⟩, by omega, by omega, fun p p0 => ?_⟩
            · rw [d2 p p0]
              constructor
              · rintro (z | ⟨z1, z2, z3⟩)
                · exact absurd z (bi_0 p)
                · have : s 5 p 2 = s 75 0 p := (h12 p p0 (by omega)).2.2.1.1
                  rw [← this]
                  exact ⟨by omega, z3⟩
              · rintro ⟨z1, z2⟩
                have : s 5 p 2 = s 75 0 p := (h12 p p0 z1).2.2.1.1
                exact Or.inr ⟨by omega, by omega, by rw [this]; exact z2⟩
            · rw [g3]
              constructor
              · exact fun z => absurd z (bi_0 p)
              · rintro ⟨z1, z2⟩
                have := (h12 p p0 z1).2.2.2.2.2.1
                omega
          · have e2 : ¬ t = s 6 0 3 := by omega
            simp only [e, e2, zclr_I, zclr_R, zclr_L, zclr_U, reduceIte, Int.reduceEq, Int.reduceLT, Int.reduceLE, Int.reduceNeg, not_true_eq_false, not_false_eq_true, or_true, true_or, or_false, false_or, and_true, true_and, and_false, false_and, z01_or]
            exact h15 t t0 (by omega)
        · have e2 : ¬ t = s 6 0 3 := by omega
          simp only [e2, zclr_I, zclr_R, zclr_L, zclr_U, reduceIte, Int.reduceEq, Int.reduceLT, Int.reduceLE, Int.reduceNeg, not_true_eq_false, not_false_eq_true, or_true, true_or, or_false, false_or, and_true, true_and, and_false, false_and, z01_or]
          exact h16 t (by omega) t1
        · obtain ⟨k1, k2⟩ := h19.1 i i0 i1
          exact ⟨⟨k1.1, k1.2.1, by omega⟩, k2⟩
  · refine pf (-1000001) hs ?_ ?_ <;> intro m pc ls st fs Q
    · by_cases c1 : 0 ≤ a ∧ a < 4
      · have q1 := z01_t c1
        have q2 : z01 (1 ≤ b ∧ b ≤ 15) = 0 := z01_f (fun z => hc ⟨c1, z⟩)
        simp only [r73_0, r73_1, r73_2, r73_5, r73_8, r73_9, r73_12, r73_15, r73_16, r73_18, r73_21, r73_22, r73_23, r73_24, r73_27, r73_28, r73_29, r73_32, r73_35, k_isBelow, k_isTongues, k_finding, q1, q2, zclr_I, zclr_R, zclr_L, zclr_U, reduceIte, Int.reduceEq, Int.reduceLT, Int.reduceLE, Int.reduceNeg, not_true_eq_false, not_false_eq_true, or_true, true_or, or_false, false_or, and_true, true_and, and_false, false_and, z01_or]
      · have q1 := z01_f c1
        simp only [r73_0, r73_1, r73_2, r73_5, r73_8, r73_9, r73_12, r73_15, r73_16, r73_18, r73_21, r73_22, r73_23, r73_24, r73_27, r73_28, r73_29, r73_32, r73_35, k_isBelow, k_isTongues, k_finding, q1, zclr_I, zclr_R, zclr_L, zclr_U, reduceIte, Int.reduceEq, Int.reduceLT, Int.reduceLE, Int.reduceNeg, not_true_eq_false, not_false_eq_true, or_true, true_or, or_false, false_or, and_true, true_and, and_false, false_and, z01_or]
    · by_cases c1 : 0 ≤ a ∧ a ≤ 3
      · have q1 := z01_t c1
        have q2 : z01 (1 ≤ b ∧ b ≤ 15) = 0 := z01_f (fun z => hc ⟨by omega, z⟩)
        simp only [r124_0, r124_1, r124_2, r124_3, r124_6, r124_9, r124_10, r124_11, r124_13, r124_16, r124_19, r124_20, r124_22, r124_25, r124_26, r124_27, r124_30, r124_31, r124_34, r124_35, r124_37, r124_40, r124_41, r124_42, r124_45, r124_46, r124_49, r124_50, r124_51, r124_52, r124_55, r124_56, r124_59, r124_60, r124_61, r124_62, r124_63, r124_66, r124_67, r124_68, r124_71, r124_72, r124_75, r124_76, r124_77, k_in, k_finds, q1, q2, zup_g, Nat.reduceEqDiff, zclr_I, zclr_R, zclr_L, zclr_U, reduceIte, Int.reduceEq, Int.reduceLT, Int.reduceLE, Int.reduceNeg, not_true_eq_false, not_false_eq_true, or_true, true_or, or_false, false_or, and_true, true_and, and_false, false_and, z01_or]
      · have q1 := z01_f c1
        simp only [r124_0, r124_1, r124_2, r124_3, r124_6, r124_9, r124_10, r124_11, r124_13, r124_16, r124_19, r124_20, r124_22, r124_25, r124_26, r124_27, r124_30, r124_31, r124_34, r124_35, r124_37, r124_40, r124_41, r124_42, r124_45, r124_46, r124_49, r124_50, r124_51, r124_52, r124_55, r124_56, r124_59, r124_60, r124_61, r124_62, r124_63, r124_66, r124_67, r124_68, r124_71, r124_72, r124_75, r124_76, r124_77, k_in, k_finds, q1, zup_g, Nat.reduceEqDiff, zclr_I, zclr_R, zclr_L, zclr_U, reduceIte, Int.reduceEq, Int.reduceLT, Int.reduceLE, Int.reduceNeg, not_true_eq_false, not_false_eq_true, or_true, true_or, or_false, false_or, and_true, true_and, and_false, false_and, z01_or]

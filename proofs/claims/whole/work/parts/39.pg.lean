section KIND
variable {m pc : Nat} {ls st : List zV} {fs : List zFr} {s : zS} {Q : List zV → zS → Prop}
theorem k_has (x n : Int) : Ev ((112, 0, [zI x, zI n], []) :: (m, pc, ls, st) :: fs) s Q = Ev ((m, pc, ls, zI (z01 (¬ zand (zshr x n) 1 = 0)) :: st) :: fs) s Q := by
  simp only [r112_0, r112_1, r112_2, r112_3, r112_4, r112_5, r112_8, r112_9, r112_12, r112_13]
  unfold z01
  by_cases h : zand (zshr x n) 1 = 0 <;> simp [h]
theorem k_hasM (x n : Int) : Ev ((121, 0, [zI x, zI n], []) :: (m, pc, ls, st) :: fs) s Q = Ev ((m, pc, ls, zI (z01 (zand (zshr x n) 1 = 1)) :: st) :: fs) s Q := by
  simp only [r121_0, r121_1, r121_2, r121_3, r121_4, r121_5, r121_6, r121_9, r121_10, r121_13, r121_14]
  unfold z01
  by_cases h : zand (zshr x n) 1 = 1 <;> simp [h]
/-- a kind, or one under it -/
abbrev isaP (k w : Int) : Prop := w = 0 ∨ k = w ∨ (w = 1 ∧ k = 3)
abbrev isaT (k w : Int) : Prop := w = 0 ∨ k = w ∨ (w = 2 ∧ k = 3)
theorem zcase4 {P : Int → Prop} (h0 : P 0) (h1 : P 1) (h2 : P 2) (h3 : P 3) (k : Int) (hk : 0 ≤ k ∧ k ≤ 3) : P k := by
  rcases (show k = 0 ∨ k = 1 ∨ k = 2 ∨ k = 3 by omega) with rfl | rfl | rfl | rfl
  · exact h0
  · exact h1
  · exact h2
  · exact h3
theorem isaP_bit : ∀ k : Fin 4, ∀ w : Fin 4, (¬ zand (zshr ([1, 3, 5, 11].getD k.val 0) (w.val : Int)) 1 = 0) ↔ ((w.val : Int) = 0 ∨ (k.val : Int) = (w.val : Int) ∨ ((w.val : Int) = 1 ∧ (k.val : Int) = 3)) := by decide +kernel
theorem isaT_bit : ∀ k : Fin 4, ∀ w : Fin 4, (¬ zand (zshr ([1, 3, 5, 13].getD k.val 0) (w.val : Int)) 1 = 0) ↔ ((w.val : Int) = 0 ∨ (k.val : Int) = (w.val : Int) ∨ ((w.val : Int) = 2 ∧ (k.val : Int) = 3)) := by decide +kernel
theorem kP_tab {r108 r109 : Int → Int → Int} (h : I_k r108 r109) (k w : Int) (hk : 0 ≤ k ∧ k ≤ 3) (hw : 0 ≤ w ∧ w ≤ 3) : (¬ zand (zshr (r108 0 k) w) 1 = 0) ↔ isaP k w := by
  obtain ⟨⟨a0, a1, a2, a3⟩, -⟩ := h
  revert hw
  revert w
  refine zcase4 (P := fun k => ∀ w, 0 ≤ w ∧ w ≤ 3 → ((¬ zand (zshr (r108 0 k) w) 1 = 0) ↔ isaP k w)) ?_ ?_ ?_ ?_ k hk
  · rw [a0]; exact zcase4 (isaP_bit 0 0) (isaP_bit 0 1) (isaP_bit 0 2) (isaP_bit 0 3)
  · rw [a1]; exact zcase4 (isaP_bit 1 0) (isaP_bit 1 1) (isaP_bit 1 2) (isaP_bit 1 3)
  · rw [a2]; exact zcase4 (isaP_bit 2 0) (isaP_bit 2 1) (isaP_bit 2 2) (isaP_bit 2 3)
  · rw [a3]; exact zcase4 (isaP_bit 3 0) (isaP_bit 3 1) (isaP_bit 3 2) (isaP_bit 3 3)
theorem kT_tab {r108 r109 : Int → Int → Int} (h : I_k r108 r109) (k w : Int) (hk : 0 ≤ k ∧ k ≤ 3) (hw : 0 ≤ w ∧ w ≤ 3) : (¬ zand (zshr (r109 0 k) w) 1 = 0) ↔ isaT k w := by
  obtain ⟨-, a0, a1, a2, a3⟩ := h
  revert hw
  revert w
  refine zcase4 (P := fun k => ∀ w, 0 ≤ w ∧ w ≤ 3 → ((¬ zand (zshr (r109 0 k) w) 1 = 0) ↔ isaT k w)) ?_ ?_ ?_ ?_ k hk
  · rw [a0]; exact zcase4 (isaT_bit 0 0) (isaT_bit 0 1) (isaT_bit 0 2) (isaT_bit 0 3)
  · rw [a1]; exact zcase4 (isaT_bit 1 0) (isaT_bit 1 1) (isaT_bit 1 2) (isaT_bit 1 3)
  · rw [a2]; exact zcase4 (isaT_bit 2 0) (isaT_bit 2 1) (isaT_bit 2 2) (isaT_bit 2 3)
  · rw [a3]; exact zcase4 (isaT_bit 3 0) (isaT_bit 3 1) (isaT_bit 3 2) (isaT_bit 3 3)
theorem z01_c {p q : Prop} [Decidable p] [Decidable q] (h : p ↔ q) : z01 p = z01 q := by
  unfold z01
  by_cases hp : p
  · rw [if_pos hp, if_pos (h.mp hp)]
  · rw [if_neg hp, if_neg (fun z => hp (h.mpr z))]
theorem z01_True : z01 True = 1 := if_pos trivial
theorem z01_False : z01 False = 0 := if_neg id
theorem k_isAP (hk : I_k (s 108) (s 109)) (p w : Int) (h1 : 0 ≤ s 5 p 0 ∧ s 5 p 0 ≤ 3) (h2 : 0 ≤ w ∧ w ≤ 3) : Ev ((36, 0, [zR 5 p, zI w], []) :: (m, pc, ls, st) :: fs) s Q = Ev ((m, pc, ls, zI (z01 (w = 0 ∨ s 5 p 0 = w ∨ (w = 1 ∧ s 5 p 0 = 3))) :: st) :: fs) s Q := by
  have q1 : z01 (0 ≤ s 5 p 0 ∧ s 5 p 0 < 4) = 1 := z01_t (by omega)
  have b1 : (0 ≤ s 5 p 0 ∧ s 5 p 0 < 4) = True := eq_true (by omega)
  simp only [r36_0, r36_1, r36_4, r36_5, r36_8, r36_11, r36_14, r36_15, r36_18, r36_19, r36_20, r36_23, r36_26, r36_27, r36_30, r36_31, k_isBelow, k_has, q1, b1, z01_True, zak_40, zln_40, zak_41, zln_41, zak_42, zln_42, zak_43, zln_43, zak_44, zln_44, zak_45, zln_45, zak_46, zln_46, zak_47, zln_47, zak_48, zln_48, zak_49, zln_49, zak_50, zln_50, zak_51, zln_51, zak_52, zln_52, zak_53, zln_53, zak_54, zln_54, zak_73, zln_73, zak_74, zln_74, zak_75, zln_75, zak_76, zln_76, zak_77, zln_77, zak_78, zln_78, zak_79, zln_79, zak_80, zln_80, zak_81, zln_81, zak_82, zln_82, zak_83, zln_83, zak_84, zln_84, zak_85, zln_85, zak_86, zln_86, zak_87, zln_87, zak_88, zln_88, zak_89, zln_89, zak_90, zln_90, zak_91, zln_91, zak_92, zln_92, zak_93, zln_93, zak_94, zln_94, zak_95, zln_95, zak_96, zln_96, zak_97, zln_97, zak_98, zln_98, zak_99, zln_99, zak_100, zln_100, zak_101, zln_101, zak_102, zln_102, zak_103, zln_103, zak_104, zln_104, zak_105, zln_105, zak_108, zln_108, zak_109, zln_109, Nat.reduceLeDiff, zclr_I, zclr_R, zclr_L, zclr_U, reduceIte, Int.reduceEq, Int.reduceLT, Int.reduceLE, Int.reduceNeg, not_true_eq_false, not_false_eq_true, or_true, true_or, or_false, false_or, and_true, true_and, and_false, false_and, z01_or]
  rw [show z01 (¬ zand (zshr (s 108 0 (s 5 p 0)) w) 1 = 0) = z01 (w = 0 ∨ s 5 p 0 = w ∨ (w = 1 ∧ s 5 p 0 = 3)) from z01_c (kP_tab hk (s 5 p 0) w h1 h2)]
  by_cases h : w = 0 ∨ s 5 p 0 = w ∨ (w = 1 ∧ s 5 p 0 = 3)
  · rw [z01_t h]; simp
  · rw [z01_f h]; simp
theorem k_isAT (hk : I_k (s 108) (s 109)) (p w : Int) (h1 : 0 ≤ s 8 p 0 ∧ s 8 p 0 ≤ 3) (h2 : 0 ≤ w ∧ w ≤ 3) : Ev ((67, 0, [zR 8 p, zI w], []) :: (m, pc, ls, st) :: fs) s Q = Ev ((m, pc, ls, zI (z01 (w = 0 ∨ s 8 p 0 = w ∨ (w = 2 ∧ s 8 p 0 = 3))) :: st) :: fs) s Q := by
  have q1 : z01 (0 ≤ s 8 p 0 ∧ s 8 p 0 < 4) = 1 := z01_t (by omega)
  have b1 : (0 ≤ s 8 p 0 ∧ s 8 p 0 < 4) = True := eq_true (by omega)
  simp only [r67_0, r67_1, r67_4, r67_5, r67_8, r67_11, r67_14, r67_15, r67_18, r67_19, r67_20, r67_23, r67_26, r67_27, r67_30, r67_31, k_isBelow, k_has, q1, b1, z01_True, zak_40, zln_40, zak_41, zln_41, zak_42, zln_42, zak_43, zln_43, zak_44, zln_44, zak_45, zln_45, zak_46, zln_46, zak_47, zln_47, zak_48, zln_48, zak_49, zln_49, zak_50, zln_50, zak_51, zln_51, zak_52, zln_52, zak_53, zln_53, zak_54, zln_54, zak_73, zln_73, zak_74, zln_74, zak_75, zln_75, zak_76, zln_76, zak_77, zln_77, zak_78, zln_78, zak_79, zln_79, zak_80, zln_80, zak_81, zln_81, zak_82, zln_82, zak_83, zln_83, zak_84, zln_84, zak_85, zln_85, zak_86, zln_86, zak_87, zln_87, zak_88, zln_88, zak_89, zln_89, zak_90, zln_90, zak_91, zln_91, zak_92, zln_92, zak_93, zln_93, zak_94, zln_94, zak_95, zln_95, zak_96, zln_96, zak_97, zln_97, zak_98, zln_98, zak_99, zln_99, zak_100, zln_100, zak_101, zln_101, zak_102, zln_102, zak_103, zln_103, zak_104, zln_104, zak_105, zln_105, zak_108, zln_108, zak_109, zln_109, Nat.reduceLeDiff, zclr_I, zclr_R, zclr_L, zclr_U, reduceIte, Int.reduceEq, Int.reduceLT, Int.reduceLE, Int.reduceNeg, not_true_eq_false, not_false_eq_true, or_true, true_or, or_false, false_or, and_true, true_and, and_false, false_and, z01_or]
  rw [show z01 (¬ zand (zshr (s 109 0 (s 8 p 0)) w) 1 = 0) = z01 (w = 0 ∨ s 8 p 0 = w ∨ (w = 2 ∧ s 8 p 0 = 3)) from z01_c (kT_tab hk (s 8 p 0) w h1 h2)]
  by_cases h : w = 0 ∨ s 8 p 0 = w ∨ (w = 2 ∧ s 8 p 0 = 3)
  · rw [z01_t h]; simp
  · rw [z01_f h]; simp
theorem k_isChild (p : Int) (hp : 0 ≤ p ∧ p < 10) : Ev ((125, 0, [zR 11 0, zI p], []) :: (m, pc, ls, st) :: fs) s Q = Ev ((m, pc, ls, zI (z01 (s 73 0 p = 1 ∨ s 73 0 p = 3)) :: st) :: fs) s Q := by
  have b1 : (0 ≤ p ∧ p < 10) = True := eq_true hp
  simp only [r125_0, r125_1, r125_4, r125_5, r125_6, r125_7, r125_10, r125_11, r125_14, r125_15, r125_16, r125_17, r125_20, r125_21, r125_24, r125_25, b1, zak_40, zln_40, zak_41, zln_41, zak_42, zln_42, zak_43, zln_43, zak_44, zln_44, zak_45, zln_45, zak_46, zln_46, zak_47, zln_47, zak_48, zln_48, zak_49, zln_49, zak_50, zln_50, zak_51, zln_51, zak_52, zln_52, zak_53, zln_53, zak_54, zln_54, zak_73, zln_73, zak_74, zln_74, zak_75, zln_75, zak_76, zln_76, zak_77, zln_77, zak_78, zln_78, zak_79, zln_79, zak_80, zln_80, zak_81, zln_81, zak_82, zln_82, zak_83, zln_83, zak_84, zln_84, zak_85, zln_85, zak_86, zln_86, zak_87, zln_87, zak_88, zln_88, zak_89, zln_89, zak_90, zln_90, zak_91, zln_91, zak_92, zln_92, zak_93, zln_93, zak_94, zln_94, zak_95, zln_95, zak_96, zln_96, zak_97, zln_97, zak_98, zln_98, zak_99, zln_99, zak_100, zln_100, zak_101, zln_101, zak_102, zln_102, zak_103, zln_103, zak_104, zln_104, zak_105, zln_105, zak_108, zln_108, zak_109, zln_109, Nat.reduceLeDiff, zclr_I, zclr_R, zclr_L, zclr_U, reduceIte, Int.reduceEq, Int.reduceLT, Int.reduceLE, Int.reduceNeg, not_true_eq_false, not_false_eq_true, or_true, true_or, or_false, false_or, and_true, true_and, and_false, false_and, z01_or]
  unfold z01
  by_cases h : s 73 0 p = 1
  · simp [h]
  · by_cases h2 : s 73 0 p = 3 <;> simp [h, h2]
theorem k_isMaster (t : Int) (ht : 0 ≤ t ∧ t < 5) : Ev ((126, 0, [zR 11 0, zI t], []) :: (m, pc, ls, st) :: fs) s Q = Ev ((m, pc, ls, zI (z01 (s 84 0 t = 2 ∨ s 84 0 t = 3)) :: st) :: fs) s Q := by
  have b1 : (0 ≤ t ∧ t < 5) = True := eq_true ht
  simp only [r126_0, r126_1, r126_4, r126_5, r126_6, r126_7, r126_10, r126_11, r126_14, r126_15, r126_16, r126_17, r126_20, r126_21, r126_24, r126_25, b1, zak_40, zln_40, zak_41, zln_41, zak_42, zln_42, zak_43, zln_43, zak_44, zln_44, zak_45, zln_45, zak_46, zln_46, zak_47, zln_47, zak_48, zln_48, zak_49, zln_49, zak_50, zln_50, zak_51, zln_51, zak_52, zln_52, zak_53, zln_53, zak_54, zln_54, zak_73, zln_73, zak_74, zln_74, zak_75, zln_75, zak_76, zln_76, zak_77, zln_77, zak_78, zln_78, zak_79, zln_79, zak_80, zln_80, zak_81, zln_81, zak_82, zln_82, zak_83, zln_83, zak_84, zln_84, zak_85, zln_85, zak_86, zln_86, zak_87, zln_87, zak_88, zln_88, zak_89, zln_89, zak_90, zln_90, zak_91, zln_91, zak_92, zln_92, zak_93, zln_93, zak_94, zln_94, zak_95, zln_95, zak_96, zln_96, zak_97, zln_97, zak_98, zln_98, zak_99, zln_99, zak_100, zln_100, zak_101, zln_101, zak_102, zln_102, zak_103, zln_103, zak_104, zln_104, zak_105, zln_105, zak_108, zln_108, zak_109, zln_109, Nat.reduceLeDiff, zclr_I, zclr_R, zclr_L, zclr_U, reduceIte, Int.reduceEq, Int.reduceLT, Int.reduceLE, Int.reduceNeg, not_true_eq_false, not_false_eq_true, or_true, true_or, or_false, false_or, and_true, true_and, and_false, false_and, z01_or]
  unfold z01
  by_cases h : s 84 0 t = 2
  · simp [h]
  · by_cases h2 : s 84 0 t = 3 <;> simp [h, h2]
theorem k_isAway (p : Int) : Ev ((40, 0, [zR 5 p], []) :: (m, pc, ls, st) :: fs) s Q = Ev ((m, pc, ls, zI (z01 (s 5 p 8 < 0)) :: st) :: fs) s Q := by
  simp only [r40_0, r40_1, r40_4, r40_7, r40_8, r40_11, r40_12, zclr_I, zclr_R, zclr_L, zclr_U, reduceIte, Int.reduceEq, Int.reduceLT, Int.reduceLE, Int.reduceNeg, not_true_eq_false, not_false_eq_true, or_true, true_or, or_false, false_or, and_true, true_and, and_false, false_and, z01_or]
  unfold z01
  by_cases h : s 5 p 8 < 0
  · have h2 : ¬ 0 ≤ s 5 p 8 := by omega
    simp [h, h2]
  · have h2 : 0 ≤ s 5 p 8 := by omega
    simp [h, h2]
end KIND
theorem pr_back (L : Nat) : Pr_back (Inv L) := by
  intro a ha s hs
  obtain ⟨h1, h2, h3, h4, h5, h6, h7, h8, h9, h10, h11, h12, h13, h14⟩ := id hs
  have eP := h4.1
  have h40 := h4.2
  have w0 : w32 (s 11 0 0 - 1) = s 11 0 0 - 1 := w32_id (by omega) (by omega)
  by_cases hc : 0 ≤ a ∧ a < s 6 0 1
  · have q1 := z01_t hc
    have q2 : z01 (0 ≤ a ∧ a ≤ s 11 0 0 - 1) = 1 := z01_t (by omega)
    have b1 : (0 ≤ a ∧ a < 10) = True := eq_true (by omega)
    obtain ⟨k1, k2, k3, k4, k5, k6, ⟨k7, k7b⟩, k8⟩ := h12 a (by omega) (by omega)
    have kA := fun (m pc : Nat) (ls st : List zV) (fs : List zFr) (Q : List zV → zS → Prop) => k_isAP (m := m) (pc := pc) (ls := ls) (st := st) (fs := fs) (Q := Q) (s := s) h2 a 1 (by omega) (by omega)
    have kC := fun (s : zS) (m pc : Nat) (ls st : List zV) (fs : List zFr) (Q : List zV → zS → Prop) => k_isChild (m := m) (pc := pc) (ls := ls) (st := st) (fs := fs) (Q := Q) (s := s) a (by omega)
    by_cases hk : s 73 0 a = 1 ∨ s 73 0 a = 3
    · have q3 := z01_t hk
      have q4 : z01 ((1 : Int) = 0 ∨ s 5 a 0 = 1 ∨ ((1 : Int) = 1 ∧ s 5 a 0 = 3)) = 1 := z01_t (by omega)
      by_cases hw : s 80 0 a < 0
      · have q5 : z01 (s 5 a 8 < 0) = 1 := z01_t (by omega)
        have hw2 : (0 ≤ s 80 0 a) = False := eq_false (by omega)
        refine pf (-1000005) hs ?_ ?_ <;> intro m pc ls st fs Q
        · simp only [r96_0, r96_1, r96_4, r96_5, r96_8, r96_11, r96_12, r96_14, r96_17, r96_18, r96_19, r96_22, r96_25, r96_26, r96_27, r96_28, r96_29, r96_30, r96_33, r96_36, r96_37, r96_39, r96_42, r96_43, r96_44, r96_47, r96_50, r96_51, r96_53, r96_56, r96_57, r96_58, r96_61, r96_62, r96_63, r96_64, r96_67, r96_68, k_hasPupil, k_isAway, k_finding, q1, b1, zak_40, zln_40, zak_41, zln_41, zak_42, zln_42, zak_43, zln_43, zak_44, zln_44, zak_45, zln_45, zak_46, zln_46, zak_47, zln_47, zak_48, zln_48, zak_49, zln_49, zak_50, zln_50, zak_51, zln_51, zak_52, zln_52, zak_53, zln_53, zak_54, zln_54, zak_73, zln_73, zak_74, zln_74, zak_75, zln_75, zak_76, zln_76, zak_77, zln_77, zak_78, zln_78, zak_79, zln_79, zak_80, zln_80, zak_81, zln_81, zak_82, zln_82, zak_83, zln_83, zak_84, zln_84, zak_85, zln_85, zak_86, zln_86, zak_87, zln_87, zak_88, zln_88, zak_89, zln_89, zak_90, zln_90, zak_91, zln_91, zak_92, zln_92, zak_93, zln_93, zak_94, zln_94, zak_95, zln_95, zak_96, zln_96, zak_97, zln_97, zak_98, zln_98, zak_99, zln_99, zak_100, zln_100, zak_101, zln_101, zak_102, zln_102, zak_103, zln_103, zak_104, zln_104, zak_105, zln_105, zak_108, zln_108, zak_109, zln_109, Nat.reduceLeDiff, zclr_I, zclr_R, zclr_L, zclr_U, reduceIte, Int.reduceEq, Int.reduceLT, Int.reduceLE, Int.reduceNeg, not_true_eq_false, not_false_eq_true, or_true, true_or, or_false, false_or, and_true, true_and, and_false, false_and, z01_or]
          rw [kA, q4]
          simp only [r96_0, r96_1, r96_4, r96_5, r96_8, r96_11, r96_12, r96_14, r96_17, r96_18, r96_19, r96_22, r96_25, r96_26, r96_27, r96_28, r96_29, r96_30, r96_33, r96_36, r96_37, r96_39, r96_42, r96_43, r96_44, r96_47, r96_50, r96_51, r96_53, r96_56, r96_57, r96_58, r96_61, r96_62, r96_63, r96_64, r96_67, r96_68, k_isAway, k_finding, q5, b1, zak_40, zln_40, zak_41, zln_41, zak_42, zln_42, zak_43, zln_43, zak_44, zln_44, zak_45, zln_45, zak_46, zln_46, zak_47, zln_47, zak_48, zln_48, zak_49, zln_49, zak_50, zln_50, zak_51, zln_51, zak_52, zln_52, zak_53, zln_53, zak_54, zln_54, zak_73, zln_73, zak_74, zln_74, zak_75, zln_75, zak_76, zln_76, zak_77, zln_77, zak_78, zln_78, zak_79, zln_79, zak_80, zln_80, zak_81, zln_81, zak_82, zln_82, zak_83, zln_83, zak_84, zln_84, zak_85, zln_85, zak_86, zln_86, zak_87, zln_87, zak_88, zln_88, zak_89, zln_89, zak_90, zln_90, zak_91, zln_91, zak_92, zln_92, zak_93, zln_93, zak_94, zln_94, zak_95, zln_95, zak_96, zln_96, zak_97, zln_97, zak_98, zln_98, zak_99, zln_99, zak_100, zln_100, zak_101, zln_101, zak_102, zln_102, zak_103, zln_103, zak_104, zln_104, zak_105, zln_105, zak_108, zln_108, zak_109, zln_109, Nat.reduceLeDiff, zclr_I, zclr_R, zclr_L, zclr_U, reduceIte, Int.reduceEq, Int.reduceLT, Int.reduceLE, Int.reduceNeg, not_true_eq_false, not_false_eq_true, or_true, true_or, or_false, false_or, and_true, true_and, and_false, false_and, z01_or]
        · simp only [r167_0, r167_1, r167_2, r167_5, r167_8, r167_9, r167_11, r167_14, r167_15, r167_16, r167_17, r167_20, r167_23, r167_24, r167_26, r167_29, r167_30, r167_31, r167_34, r167_35, r167_36, r167_39, r167_40, r167_42, r167_45, r167_46, r167_47, r167_50, r167_51, r167_52, r167_53, r167_54, r167_57, r167_58, r167_59, r167_60, r167_61, k_isPupil, kC, k_finds, zup_g, Nat.reduceEqDiff, w0, q2, q3, hw, hw2, b1, zak_40, zln_40, zak_41, zln_41, zak_42, zln_42, zak_43, zln_43, zak_44, zln_44, zak_45, zln_45, zak_46, zln_46, zak_47, zln_47, zak_48, zln_48, zak_49, zln_49, zak_50, zln_50, zak_51, zln_51, zak_52, zln_52, zak_53, zln_53, zak_54, zln_54, zak_73, zln_73, zak_74, zln_74, zak_75, zln_75, zak_76, zln_76, zak_77, zln_77, zak_78, zln_78, zak_79, zln_79, zak_80, zln_80, zak_81, zln_81, zak_82, zln_82, zak_83, zln_83, zak_84, zln_84, zak_85, zln_85, zak_86, zln_86, zak_87, zln_87, zak_88, zln_88, zak_89, zln_89, zak_90, zln_90, zak_91, zln_91, zak_92, zln_92, zak_93, zln_93, zak_94, zln_94, zak_95, zln_95, zak_96, zln_96, zak_97, zln_97, zak_98, zln_98, zak_99, zln_99, zak_100, zln_100, zak_101, zln_101, zak_102, zln_102, zak_103, zln_103, zak_104, zln_104, zak_105, zln_105, zak_108, zln_108, zak_109, zln_109, Nat.reduceLeDiff, zclr_I, zclr_R, zclr_L, zclr_U, reduceIte, Int.reduceEq, Int.reduceLT, Int.reduceLE, Int.reduceNeg, not_true_eq_false, not_false_eq_true, or_true, true_or, or_false, false_or, and_true, true_and, and_false, false_and, z01_or]
      · have q5 : z01 (s 5 a 8 < 0) = 0 := z01_f (by omega)
        have hw2 : (0 ≤ s 80 0 a) = True := eq_true (by omega)
        refine ⟨s 80 0 a, zup s 5 a 8 (-1), zup (zup s 5 a 8 (-1)) 80 0 a (-1), ?_, ?_, ?_, rfl, rfl⟩
        · intro m pc ls st fs Q
          simp only [r96_0, r96_1, r96_4, r96_5, r96_8, r96_11, r96_12, r96_14, r96_17, r96_18, r96_19, r96_22, r96_25, r96_26, r96_27, r96_28, r96_29, r96_30, r96_33, r96_36, r96_37, r96_39, r96_42, r96_43, r96_44, r96_47, r96_50, r96_51, r96_53, r96_56, r96_57, r96_58, r96_61, r96_62, r96_63, r96_64, r96_67, r96_68, k_hasPupil, q1, b1, zak_40, zln_40, zak_41, zln_41, zak_42, zln_42, zak_43, zln_43, zak_44, zln_44, zak_45, zln_45, zak_46, zln_46, zak_47, zln_47, zak_48, zln_48, zak_49, zln_49, zak_50, zln_50, zak_51, zln_51, zak_52, zln_52, zak_53, zln_53, zak_54, zln_54, zak_73, zln_73, zak_74, zln_74, zak_75, zln_75, zak_76, zln_76, zak_77, zln_77, zak_78, zln_78, zak_79, zln_79, zak_80, zln_80, zak_81, zln_81, zak_82, zln_82, zak_83, zln_83, zak_84, zln_84, zak_85, zln_85, zak_86, zln_86, zak_87, zln_87, zak_88, zln_88, zak_89, zln_89, zak_90, zln_90, zak_91, zln_91, zak_92, zln_92, zak_93, zln_93, zak_94, zln_94, zak_95, zln_95, zak_96, zln_96, zak_97, zln_97, zak_98, zln_98, zak_99, zln_99, zak_100, zln_100, zak_101, zln_101, zak_102, zln_102, zak_103, zln_103, zak_104, zln_104, zak_105, zln_105, zak_108, zln_108, zak_109, zln_109, Nat.reduceLeDiff, zclr_I, zclr_R, zclr_L, zclr_U, reduceIte, Int.reduceEq, Int.reduceLT, Int.reduceLE, Int.reduceNeg, not_true_eq_false, not_false_eq_true, or_true, true_or, or_false, false_or, and_true, true_and, and_false, false_and, z01_or]
          rw [kA, q4]
          simp only [r96_0, r96_1, r96_4, r96_5, r96_8, r96_11, r96_12, r96_14, r96_17, r96_18, r96_19, r96_22, r96_25, r96_26, r96_27, r96_28, r96_29, r96_30, r96_33, r96_36, r96_37, r96_39, r96_42, r96_43, r96_44, r96_47, r96_50, r96_51, r96_53, r96_56, r96_57, r96_58, r96_61, r96_62, r96_63, r96_64, r96_67, r96_68, k_isAway, q5, b1, zak_40, zln_40, zak_41, zln_41, zak_42, zln_42, zak_43, zln_43, zak_44, zln_44, zak_45, zln_45, zak_46, zln_46, zak_47, zln_47, zak_48, zln_48, zak_49, zln_49, zak_50, zln_50, zak_51, zln_51, zak_52, zln_52, zak_53, zln_53, zak_54, zln_54, zak_73, zln_73, zak_74, zln_74, zak_75, zln_75, zak_76, zln_76, zak_77, zln_77, zak_78, zln_78, zak_79, zln_79, zak_80, zln_80, zak_81, zln_81, zak_82, zln_82, zak_83, zln_83, zak_84, zln_84, zak_85, zln_85, zak_86, zln_86, zak_87, zln_87, zak_88, zln_88, zak_89, zln_89, zak_90, zln_90, zak_91, zln_91, zak_92, zln_92, zak_93, zln_93, zak_94, zln_94, zak_95, zln_95, zak_96, zln_96, zak_97, zln_97, zak_98, zln_98, zak_99, zln_99, zak_100, zln_100, zak_101, zln_101, zak_102, zln_102, zak_103, zln_103, zak_104, zln_104, zak_105, zln_105, zak_108, zln_108, zak_109, zln_109, Nat.reduceLeDiff, zclr_I, zclr_R, zclr_L, zclr_U, reduceIte, Int.reduceEq, Int.reduceLT, Int.reduceLE, Int.reduceNeg, not_true_eq_false, not_false_eq_true, or_true, true_or, or_false, false_or, and_true, true_and, and_false, false_and, z01_or]
          rw [k7]
        · intro m pc ls st fs Q
          simp only [r167_0, r167_1, r167_2, r167_5, r167_8, r167_9, r167_11, r167_14, r167_15, r167_16, r167_17, r167_20, r167_23, r167_24, r167_26, r167_29, r167_30, r167_31, r167_34, r167_35, r167_36, r167_39, r167_40, r167_42, r167_45, r167_46, r167_47, r167_50, r167_51, r167_52, r167_53, r167_54, r167_57, r167_58, r167_59, r167_60, r167_61, k_isPupil, kC, zup_g, Nat.reduceEqDiff, w0, q2, q3, hw, hw2, b1, zak_40, zln_40, zak_41, zln_41, zak_42, zln_42, zak_43, zln_43, zak_44, zln_44, zak_45, zln_45, zak_46, zln_46, zak_47, zln_47, zak_48, zln_48, zak_49, zln_49, zak_50, zln_50, zak_51, zln_51, zak_52, zln_52, zak_53, zln_53, zak_54, zln_54, zak_73, zln_73, zak_74, zln_74, zak_75, zln_75, zak_76, zln_76, zak_77, zln_77, zak_78, zln_78, zak_79, zln_79, zak_80, zln_80, zak_81, zln_81, zak_82, zln_82, zak_83, zln_83, zak_84, zln_84, zak_85, zln_85, zak_86, zln_86, zak_87, zln_87, zak_88, zln_88, zak_89, zln_89, zak_90, zln_90, zak_91, zln_91, zak_92, zln_92, zak_93, zln_93, zak_94, zln_94, zak_95, zln_95, zak_96, zln_96, zak_97, zln_97, zak_98, zln_98, zak_99, zln_99, zak_100, zln_100, zak_101, zln_101, zak_102, zln_102, zak_103, zln_103, zak_104, zln_104, zak_105, zln_105, zak_108, zln_108, zak_109, zln_109, Nat.reduceLeDiff, zclr_I, zclr_R, zclr_L, zclr_U, reduceIte, Int.reduceEq, Int.reduceLT, Int.reduceLE, Int.reduceNeg, not_true_eq_false, not_false_eq_true, or_true, true_or, or_false, false_or, and_true, true_and, and_false, false_and, z01_or]
        · unfold Inv
          simp only [zclr_I, zclr_R, zclr_L, zclr_U, reduceIte, Int.reduceEq, Int.reduceLT, Int.reduceLE, Int.reduceNeg, not_true_eq_false, not_false_eq_true, or_true, true_or, or_false, false_or, and_true, true_and, and_false, false_and, z01_or, zup_g, Nat.reduceEqDiff]
          refine ⟨h1, h2, h3, h4, h5, h6, h7, h8, h9, h10, h11, fun i i0 i1 => ?_, fun i i0 i1 => ?_, h14⟩
          · by_cases e : i = a
            · subst e
              simp only [zclr_I, zclr_R, zclr_L, zclr_U, reduceIte, Int.reduceEq, Int.reduceLT, Int.reduceLE, Int.reduceNeg, not_true_eq_false, not_false_eq_true, or_true, true_or, or_false, false_or, and_true, true_and, and_false, false_and, z01_or]
              exact ⟨k1, k2, k3, k4, k5, k6, k8⟩
            · simp only [e, zclr_I, zclr_R, zclr_L, zclr_U, reduceIte, Int.reduceEq, Int.reduceLT, Int.reduceLE, Int.reduceNeg, not_true_eq_false, not_false_eq_true, or_true, true_or, or_false, false_or, and_true, true_and, and_false, false_and, z01_or]
              exact h12 i i0 i1
          · have e : ¬ i = a := by omega
            simp only [e, zclr_I, zclr_R, zclr_L, zclr_U, reduceIte, Int.reduceEq, Int.reduceLT, Int.reduceLE, Int.reduceNeg, not_true_eq_false, not_false_eq_true, or_true, true_or, or_false, false_or, and_true, true_and, and_false, false_and, z01_or]
            exact h13 i i0 i1
    · have q3 := z01_f hk
      have q4 : z01 ((1 : Int) = 0 ∨ s 5 a 0 = 1 ∨ ((1 : Int) = 1 ∧ s 5 a 0 = 3)) = 0 := z01_f (by omega)
      refine pf (-1000003) hs ?_ ?_ <;> intro m pc ls st fs Q
      · simp only [r96_0, r96_1, r96_4, r96_5, r96_8, r96_11, r96_12, r96_14, r96_17, r96_18, r96_19, r96_22, r96_25, r96_26, r96_27, r96_28, r96_29, r96_30, r96_33, r96_36, r96_37, r96_39, r96_42, r96_43, r96_44, r96_47, r96_50, r96_51, r96_53, r96_56, r96_57, r96_58, r96_61, r96_62, r96_63, r96_64, r96_67, r96_68, k_hasPupil, q1, b1, zak_40, zln_40, zak_41, zln_41, zak_42, zln_42, zak_43, zln_43, zak_44, zln_44, zak_45, zln_45, zak_46, zln_46, zak_47, zln_47, zak_48, zln_48, zak_49, zln_49, zak_50, zln_50, zak_51, zln_51, zak_52, zln_52, zak_53, zln_53, zak_54, zln_54, zak_73, zln_73, zak_74, zln_74, zak_75, zln_75, zak_76, zln_76, zak_77, zln_77, zak_78, zln_78, zak_79, zln_79, zak_80, zln_80, zak_81, zln_81, zak_82, zln_82, zak_83, zln_83, zak_84, zln_84, zak_85, zln_85, zak_86, zln_86, zak_87, zln_87, zak_88, zln_88, zak_89, zln_89, zak_90, zln_90, zak_91, zln_91, zak_92, zln_92, zak_93, zln_93, zak_94, zln_94, zak_95, zln_95, zak_96, zln_96, zak_97, zln_97, zak_98, zln_98, zak_99, zln_99, zak_100, zln_100, zak_101, zln_101, zak_102, zln_102, zak_103, zln_103, zak_104, zln_104, zak_105, zln_105, zak_108, zln_108, zak_109, zln_109, Nat.reduceLeDiff, zclr_I, zclr_R, zclr_L, zclr_U, reduceIte, Int.reduceEq, Int.reduceLT, Int.reduceLE, Int.reduceNeg, not_true_eq_false, not_false_eq_true, or_true, true_or, or_false, false_or, and_true, true_and, and_false, false_and, z01_or]
        rw [kA, q4]
        simp only [r96_0, r96_1, r96_4, r96_5, r96_8, r96_11, r96_12, r96_14, r96_17, r96_18, r96_19, r96_22, r96_25, r96_26, r96_27, r96_28, r96_29, r96_30, r96_33, r96_36, r96_37, r96_39, r96_42, r96_43, r96_44, r96_47, r96_50, r96_51, r96_53, r96_56, r96_57, r96_58, r96_61, r96_62, r96_63, r96_64, r96_67, r96_68, k_finding, b1, zak_40, zln_40, zak_41, zln_41, zak_42, zln_42, zak_43, zln_43, zak_44, zln_44, zak_45, zln_45, zak_46, zln_46, zak_47, zln_47, zak_48, zln_48, zak_49, zln_49, zak_50, zln_50, zak_51, zln_51, zak_52, zln_52, zak_53, zln_53, zak_54, zln_54, zak_73, zln_73, zak_74, zln_74, zak_75, zln_75, zak_76, zln_76, zak_77, zln_77, zak_78, zln_78, zak_79, zln_79, zak_80, zln_80, zak_81, zln_81, zak_82, zln_82, zak_83, zln_83, zak_84, zln_84, zak_85, zln_85, zak_86, zln_86, zak_87, zln_87, zak_88, zln_88, zak_89, zln_89, zak_90, zln_90, zak_91, zln_91, zak_92, zln_92, zak_93, zln_93, zak_94, zln_94, zak_95, zln_95, zak_96, zln_96, zak_97, zln_97, zak_98, zln_98, zak_99, zln_99, zak_100, zln_100, zak_101, zln_101, zak_102, zln_102, zak_103, zln_103, zak_104, zln_104, zak_105, zln_105, zak_108, zln_108, zak_109, zln_109, Nat.reduceLeDiff, zclr_I, zclr_R, zclr_L, zclr_U, reduceIte, Int.reduceEq, Int.reduceLT, Int.reduceLE, Int.reduceNeg, not_true_eq_false, not_false_eq_true, or_true, true_or, or_false, false_or, and_true, true_and, and_false, false_and, z01_or]
      · simp only [r167_0, r167_1, r167_2, r167_5, r167_8, r167_9, r167_11, r167_14, r167_15, r167_16, r167_17, r167_20, r167_23, r167_24, r167_26, r167_29, r167_30, r167_31, r167_34, r167_35, r167_36, r167_39, r167_40, r167_42, r167_45, r167_46, r167_47, r167_50, r167_51, r167_52, r167_53, r167_54, r167_57, r167_58, r167_59, r167_60, r167_61, k_isPupil, kC, k_finds, zup_g, Nat.reduceEqDiff, w0, q2, q3, b1, zak_40, zln_40, zak_41, zln_41, zak_42, zln_42, zak_43, zln_43, zak_44, zln_44, zak_45, zln_45, zak_46, zln_46, zak_47, zln_47, zak_48, zln_48, zak_49, zln_49, zak_50, zln_50, zak_51, zln_51, zak_52, zln_52, zak_53, zln_53, zak_54, zln_54, zak_73, zln_73, zak_74, zln_74, zak_75, zln_75, zak_76, zln_76, zak_77, zln_77, zak_78, zln_78, zak_79, zln_79, zak_80, zln_80, zak_81, zln_81, zak_82, zln_82, zak_83, zln_83, zak_84, zln_84, zak_85, zln_85, zak_86, zln_86, zak_87, zln_87, zak_88, zln_88, zak_89, zln_89, zak_90, zln_90, zak_91, zln_91, zak_92, zln_92, zak_93, zln_93, zak_94, zln_94, zak_95, zln_95, zak_96, zln_96, zak_97, zln_97, zak_98, zln_98, zak_99, zln_99, zak_100, zln_100, zak_101, zln_101, zak_102, zln_102, zak_103, zln_103, zak_104, zln_104, zak_105, zln_105, zak_108, zln_108, zak_109, zln_109, Nat.reduceLeDiff, zclr_I, zclr_R, zclr_L, zclr_U, reduceIte, Int.reduceEq, Int.reduceLT, Int.reduceLE, Int.reduceNeg, not_true_eq_false, not_false_eq_true, or_true, true_or, or_false, false_or, and_true, true_and, and_false, false_and, z01_or]
  · have q1 := z01_f hc
    have q2 : z01 (0 ≤ a ∧ a ≤ s 11 0 0 - 1) = 0 := z01_f (by omega)
    refine pf (-1000001) hs ?_ ?_ <;> intro m pc ls st fs Q
    · simp only [r96_0, r96_1, r96_4, r96_5, r96_8, r96_11, r96_12, r96_14, r96_17, r96_18, r96_19, r96_22, r96_25, r96_26, r96_27, r96_28, r96_29, r96_30, r96_33, r96_36, r96_37, r96_39, r96_42, r96_43, r96_44, r96_47, r96_50, r96_51, r96_53, r96_56, r96_57, r96_58, r96_61, r96_62, r96_63, r96_64, r96_67, r96_68, k_hasPupil, k_finding, q1, zclr_I, zclr_R, zclr_L, zclr_U, reduceIte, Int.reduceEq, Int.reduceLT, Int.reduceLE, Int.reduceNeg, not_true_eq_false, not_false_eq_true, or_true, true_or, or_false, false_or, and_true, true_and, and_false, false_and, z01_or]
    · simp only [r167_0, r167_1, r167_2, r167_5, r167_8, r167_9, r167_11, r167_14, r167_15, r167_16, r167_17, r167_20, r167_23, r167_24, r167_26, r167_29, r167_30, r167_31, r167_34, r167_35, r167_36, r167_39, r167_40, r167_42, r167_45, r167_46, r167_47, r167_50, r167_51, r167_52, r167_53, r167_54, r167_57, r167_58, r167_59, r167_60, r167_61, k_isPupil, k_finds, zup_g, Nat.reduceEqDiff, w0, q2, zclr_I, zclr_R, zclr_L, zclr_U, reduceIte, Int.reduceEq, Int.reduceLT, Int.reduceLE, Int.reduceNeg, not_true_eq_false, not_false_eq_true, or_true, true_or, or_false, false_or, and_true, true_and, and_false, false_and, z01_or]

/-! prices -/
theorem mul_b {a b : Int} (a0 : 0 ≤ a) (a1 : a ≤ 9) (b0 : 0 ≤ b) (b1 : b ≤ 10) : 0 ≤ a * b ∧ a * b ≤ 90 := by
  constructor
  · exact Int.mul_nonneg a0 b0
  · have h1 : a * b ≤ 9 * b := Int.mul_le_mul_of_nonneg_right a1 b0
    omega
def wC (s : zS) (t x : Int) : Int := s 6 0 7 * popc (zand x (s 8 t 5)) + s 6 0 8 * popc (zand x (s 8 t 4))
def mC (s : zS) (t x : Int) : Int := popc (zand x (zxor (s 8 t 5) (-1)))
/-- what the class's worthOf and movedTo need -/
def TeB (s : zS) (t : Int) : Prop := (0 ≤ s 8 t 5 ∧ s 8 t 5 < 1024) ∧ (0 ≤ s 8 t 4 ∧ s 8 t 4 < 1024) ∧ (0 ≤ s 6 0 7 ∧ s 6 0 7 ≤ 9) ∧ 0 ≤ s 6 0 8 ∧ s 6 0 8 ≤ 9
theorem wC_b {s : zS} {t x : Int} (hB : TeB s t) (x0 : 0 ≤ x) (x1 : x < 1024) : (0 ≤ s 6 0 7 * popc (zand x (s 8 t 5)) ∧ s 6 0 7 * popc (zand x (s 8 t 5)) ≤ 90) ∧ (0 ≤ s 6 0 8 * popc (zand x (s 8 t 4)) ∧ s 6 0 8 * popc (zand x (s 8 t 4)) ≤ 90) := by
  obtain ⟨h1, h2, h3, h4⟩ := hB
  obtain ⟨a0, a1, -⟩ := zand_bi x0 x1 h1.1 h1.2
  obtain ⟨b0, b1, -⟩ := zand_bi x0 x1 h2.1 h2.2
  have p1 := popc_b a0 a1
  have p2 := popc_b b0 b1
  exact ⟨mul_b h3.1 h3.2 p1.1 p1.2, mul_b h4.1 h4.2 p2.1 p2.2⟩
theorem mC_b {s : zS} {t x : Int} (hB : TeB s t) (x0 : 0 ≤ x) (x1 : x < 1024) : 0 ≤ mC s t x ∧ mC s t x ≤ 10 := by
  obtain ⟨h1, -⟩ := hB
  obtain ⟨a0, a1, -⟩ := zandnot_bi x0 x1 h1.1 h1.2
  exact popc_b a0 a1
section
variable {m pc : Nat} {ls st : List zV} {fs : List zFr} {s : zS} {Q : List zV → zS → Prop}
theorem k_worthOf (t x : Int) (hB : TeB s t) (x0 : 0 ≤ x) (x1 : x < 1024) : Ev ((53, 0, [zR 6 0, zR 8 t, zI x], []) :: (m, pc, ls, st) :: fs) s Q = Ev ((m, pc, ls, zI (wC s t x) :: st) :: fs) s Q := by
  obtain ⟨b1, b2⟩ := wC_b hB x0 x1
  obtain ⟨h1, h2, h3, h4⟩ := hB
  obtain ⟨a0, a1, -⟩ := zand_bi x0 x1 h1.1 h1.2
  obtain ⟨c0, c1, -⟩ := zand_bi x0 x1 h2.1 h2.2
  have w1 : w32 (s 6 0 7 * popc (zand x (s 8 t 5))) = s 6 0 7 * popc (zand x (s 8 t 5)) := w32_id (by omega) (by omega)
  have w2 : w32 (s 6 0 8 * popc (zand x (s 8 t 4))) = s 6 0 8 * popc (zand x (s 8 t 4)) := w32_id (by omega) (by omega)
  have w3 : w32 (s 6 0 7 * popc (zand x (s 8 t 5)) + s 6 0 8 * popc (zand x (s 8 t 4))) = wC s t x := w32_id (by omega) (by omega)
  simp only [r53_0, r53_1, r53_4, r53_5, r53_6, r53_9, r53_10, r53_13, r53_14, r53_15, r53_18, r53_19, r53_20, r53_23, r53_24, r53_27, r53_28, r53_29, k_bitCount _ a0 a1, k_bitCount _ c0 c1, w1, w2, w3, zclr_I, zclr_R, zclr_L, zclr_U, reduceIte, Int.reduceEq, Int.reduceLT, Int.reduceLE, Int.reduceNeg, not_true_eq_false, not_false_eq_true, or_true, true_or, or_false, false_or, and_true, true_and, and_false, false_and, z01_or]
theorem k_movedTo (t x : Int) (hB : TeB s t) (x0 : 0 ≤ x) (x1 : x < 1024) : Ev ((54, 0, [zR 6 0, zR 8 t, zI x], []) :: (m, pc, ls, st) :: fs) s Q = Ev ((m, pc, ls, zI (mC s t x) :: st) :: fs) s Q := by
  obtain ⟨h1, -⟩ := hB
  obtain ⟨a0, a1, -⟩ := zandnot_bi x0 x1 h1.1 h1.2
  simp only [r54_0, r54_1, r54_2, r54_5, r54_6, r54_7, r54_8, r54_11, k_bitCount _ a0 a1, zclr_I, zclr_R, zclr_L, zclr_U, reduceIte, Int.reduceEq, Int.reduceLT, Int.reduceLE, Int.reduceNeg, not_true_eq_false, not_false_eq_true, or_true, true_or, or_false, false_or, and_true, true_and, and_false, false_and, z01_or]
  rfl
end
def tw (t : Int) : Int := if t = 0 then 1099511627776 else if t = 1 then 1073741824 else if t = 2 then 1048576 else if t = 3 then 1024 else 1
theorem sh_c : ∀ x : Fin 512, zlshl (x.val : Nat) 50 = (x.val : Nat) * 1125899906842624 := by decide +kernel
theorem sh_t : ∀ x : Fin 1024, ∀ t : Fin 5, zlshl (x.val : Nat) (40 - 10 * (t.val : Nat)) = (x.val : Nat) * tw (t.val : Nat) := by decide +kernel
theorem sh_ci {x : Int} (h0 : 0 ≤ x) (h1 : x < 512) : zlshl x 50 = x * 1125899906842624 := by
  have h := sh_c ⟨x.toNat, by omega⟩
  simp only [Int.toNat_of_nonneg h0] at h
  exact h
theorem sh_ti {x t : Int} (h0 : 0 ≤ x) (h1 : x < 1024) (t0 : 0 ≤ t) (t1 : t < 5) : zlshl x (40 - 10 * t) = x * tw t := by
  have h := sh_t ⟨x.toNat, by omega⟩ ⟨t.toNat, by omega⟩
  simp only [Int.toNat_of_nonneg h0, Int.toNat_of_nonneg t0] at h
  exact h
theorem tw_b (t : Int) : 1 ≤ tw t ∧ tw t ≤ 1099511627776 := by
  unfold tw
  by_cases h0 : t = 0
  · rw [if_pos h0]; omega
  · rw [if_neg h0]
    by_cases h1 : t = 1
    · rw [if_pos h1]; omega
    · rw [if_neg h1]
      by_cases h2 : t = 2
      · rw [if_pos h2]; omega
      · rw [if_neg h2]
        by_cases h3 : t = 3
        · rw [if_pos h3]; omega
        · rw [if_neg h3]; omega
theorem twm_b {x t : Int} (h0 : 0 ≤ x) (h1 : x < 1024) : 0 ≤ x * tw t ∧ x * tw t ≤ 1124800395214848 := by
  have b := tw_b t
  constructor
  · exact Int.mul_nonneg h0 (by omega)
  · have a1 : x * tw t ≤ 1023 * tw t := Int.mul_le_mul_of_nonneg_right (by omega) (by omega)
    omega
/-- those whose teacher may still be theirs -/
def stl (s : zS) : Int := orF (fun q => anyF (fun u => decide (s 8 u 2 = 0) && tb (s 8 u 5) q) 0 (s 6 0 3).toNat) 0 0 10
theorem stl_bi {s : zS} (hT : 0 ≤ s 6 0 3) (hB : ∀ u : Int, 0 ≤ u → u < s 6 0 3 → 0 ≤ s 8 u 5 ∧ s 8 u 5 < 1024) : 0 ≤ stl s ∧ stl s < 1024 ∧ ∀ q : Int, 0 ≤ q → (bi (stl s) q ↔ ∃ u : Int, 0 ≤ u ∧ u < s 6 0 3 ∧ s 8 u 2 = 0 ∧ bi (s 8 u 5) q) := by
  obtain ⟨b0, b1, b2⟩ := orF_bi (fun q => anyF (fun u => decide (s 8 u 2 = 0) && tb (s 8 u 5) q) 0 (s 6 0 3).toNat) 10 0 0 (by omega) (by omega) (by omega) (by omega)
  refine ⟨b0, b1, fun q q0 => ?_⟩
  unfold stl
  rw [b2 q q0, anyF_t]
  constructor
  · rintro (z | ⟨z1, z2, u, u0, u1, hu⟩)
    · exact absurd z (bi_0 q)
    · rw [Bool.and_eq_true, decide_eq_true_eq] at hu
      exact ⟨u, u0, by omega, hu.1, hu.2⟩
  · rintro ⟨u, u0, u1, hi, hu⟩
    have := bi_10 (hB u u0 u1).1 (hB u u0 u1).2 q0 hu
    exact Or.inr ⟨q0, by omega, u, u0, by omega, by rw [Bool.and_eq_true, decide_eq_true_eq]; exact ⟨hi, hu⟩⟩
theorem lp187 {s : zS} (hT : s 6 0 3 ≤ 5) (hB : ∀ u : Int, 0 ≤ u → u < s 6 0 3 → 0 ≤ s 8 u 5 ∧ s 8 u 5 < 1024) : ∀ (k : Nat) (t a : Int), 0 ≤ t → t + k = s 6 0 3 → 0 ≤ a → a < 1024 → ∃ r : Int, (∀ (m pc : Nat) (ls st : List zV) (fs : List zFr) (Q : List zV → zS → Prop), Ev ((187, 4, [zR 6 0, zI a, zI t], []) :: (m, pc, ls, st) :: fs) s Q = Ev ((m, pc, ls, zI r :: st) :: fs) s Q) ∧ 0 ≤ r ∧ ∀ q : Int, 0 ≤ q → (bi r q ↔ bi a q ∨ ∃ u : Int, t ≤ u ∧ u < s 6 0 3 ∧ s 8 u 2 = 0 ∧ bi (s 8 u 5) q) := by
  intro k
  induction k with
  | zero =>
    intro t a t0 t1 a0 a1
    have e1 : (s 6 0 3 ≤ t) = True := eq_true (by omega)
    refine ⟨a, fun m pc ls st fs Q => ?_, a0, fun q q0 => ⟨Or.inl, fun h => h.elim id (fun ⟨u, u0, u1, _⟩ => by omega)⟩⟩
    rw [r187_4]
    simp only [r187_5, r187_6, r187_9, r187_42, r187_43, e1, zclr_I, zclr_R, zclr_L, zclr_U, reduceIte, Int.reduceEq, Int.reduceLT, Int.reduceLE, Int.reduceNeg, not_true_eq_false, not_false_eq_true, or_true, true_or, or_false, false_or, and_true, true_and, and_false, false_and, z01_or]
  | succ k ih =>
    intro t a t0 t1 a0 a1
    have e1 : (s 6 0 3 ≤ t) = False := eq_false (by omega)
    have b1 : (0 ≤ t ∧ t < 5) = True := eq_true (by omega)
    have w1 : w32 (t + 1) = t + 1 := w32_id (by omega) (by omega)
    obtain ⟨c0, c1⟩ := hB t t0 (by omega)
    by_cases hi : s 8 t 2 = 0
    · obtain ⟨o0, o1, o2⟩ := zor_bi a0 a1 c0 c1
      obtain ⟨r, r1, r2, r3⟩ := ih (t + 1) (zor a (s 8 t 5)) (by omega) (by omega) o0 o1
      have hi' : (s 8 t 2 = 0) = True := eq_true hi
      refine ⟨r, fun m pc ls st fs Q => ?_, r2, fun q q0 => ?_⟩
      · rw [r187_4]
        simp only [r187_5, r187_6, r187_9, r187_12, r187_13, r187_16, r187_17, r187_18, r187_21, r187_24, r187_25, r187_26, r187_29, r187_30, r187_31, r187_34, r187_35, r187_36, r187_39, e1, b1, hi', w1, zak_40, zln_40, zak_41, zln_41, zak_42, zln_42, zak_43, zln_43, zak_44, zln_44, zak_45, zln_45, zak_46, zln_46, zak_47, zln_47, zak_48, zln_48, zak_49, zln_49, zak_50, zln_50, zak_51, zln_51, zak_52, zln_52, zak_53, zln_53, zak_54, zln_54, zak_55, zln_55, zak_73, zln_73, zak_74, zln_74, zak_75, zln_75, zak_76, zln_76, zak_77, zln_77, zak_78, zln_78, zak_79, zln_79, zak_80, zln_80, zak_81, zln_81, zak_82, zln_82, zak_83, zln_83, zak_84, zln_84, zak_85, zln_85, zak_86, zln_86, zak_87, zln_87, zak_88, zln_88, zak_89, zln_89, zak_90, zln_90, zak_91, zln_91, zak_92, zln_92, zak_93, zln_93, zak_94, zln_94, zak_95, zln_95, zak_96, zln_96, zak_97, zln_97, zak_98, zln_98, zak_99, zln_99, zak_100, zln_100, zak_101, zln_101, zak_102, zln_102, zak_103, zln_103, zak_104, zln_104, zak_105, zln_105, zak_108, zln_108, zak_109, zln_109, Nat.reduceLeDiff, zclr_I, zclr_R, zclr_L, zclr_U, reduceIte, Int.reduceEq, Int.reduceLT, Int.reduceLE, Int.reduceNeg, not_true_eq_false, not_false_eq_true, or_true, true_or, or_false, false_or, and_true, true_and, and_false, false_and, z01_or]
        exact r1 m pc ls st fs Q
      · rw [r3 q q0, o2 q q0]
        constructor
        · rintro ((h | h) | ⟨u, u0, u1, h⟩)
          · exact Or.inl h
          · exact Or.inr ⟨t, by omega, by omega, hi, h⟩
          · exact Or.inr ⟨u, by omega, u1, h⟩
        · rintro (h | ⟨u, u0, u1, h⟩)
          · exact Or.inl (Or.inl h)
          · by_cases e : u = t
            · rw [e] at h; exact Or.inl (Or.inr h.2)
            · exact Or.inr ⟨u, by omega, u1, h⟩
    · obtain ⟨r, r1, r2, r3⟩ := ih (t + 1) a (by omega) (by omega) a0 a1
      have hi' : (s 8 t 2 = 0) = False := eq_false hi
      refine ⟨r, fun m pc ls st fs Q => ?_, r2, fun q q0 => ?_⟩
      · rw [r187_4]
        simp only [r187_5, r187_6, r187_9, r187_12, r187_13, r187_16, r187_17, r187_18, r187_21, r187_24, r187_25, r187_26, r187_29, r187_30, r187_31, r187_34, r187_35, r187_36, r187_39, e1, b1, hi', w1, zak_40, zln_40, zak_41, zln_41, zak_42, zln_42, zak_43, zln_43, zak_44, zln_44, zak_45, zln_45, zak_46, zln_46, zak_47, zln_47, zak_48, zln_48, zak_49, zln_49, zak_50, zln_50, zak_51, zln_51, zak_52, zln_52, zak_53, zln_53, zak_54, zln_54, zak_55, zln_55, zak_73, zln_73, zak_74, zln_74, zak_75, zln_75, zak_76, zln_76, zak_77, zln_77, zak_78, zln_78, zak_79, zln_79, zak_80, zln_80, zak_81, zln_81, zak_82, zln_82, zak_83, zln_83, zak_84, zln_84, zak_85, zln_85, zak_86, zln_86, zak_87, zln_87, zak_88, zln_88, zak_89, zln_89, zak_90, zln_90, zak_91, zln_91, zak_92, zln_92, zak_93, zln_93, zak_94, zln_94, zak_95, zln_95, zak_96, zln_96, zak_97, zln_97, zak_98, zln_98, zak_99, zln_99, zak_100, zln_100, zak_101, zln_101, zak_102, zln_102, zak_103, zln_103, zak_104, zln_104, zak_105, zln_105, zak_108, zln_108, zak_109, zln_109, Nat.reduceLeDiff, zclr_I, zclr_R, zclr_L, zclr_U, reduceIte, Int.reduceEq, Int.reduceLT, Int.reduceLE, Int.reduceNeg, not_true_eq_false, not_false_eq_true, or_true, true_or, or_false, false_or, and_true, true_and, and_false, false_and, z01_or]
        exact r1 m pc ls st fs Q
      · rw [r3 q q0]
        constructor
        · rintro (h | ⟨u, u0, u1, h⟩)
          · exact Or.inl h
          · exact Or.inr ⟨u, by omega, u1, h⟩
        · rintro (h | ⟨u, u0, u1, h⟩)
          · exact Or.inl h
          · by_cases e : u = t
            · rw [e] at h; exact absurd h.1 hi
            · exact Or.inr ⟨u, by omega, u1, h⟩
theorem k_settled {s : zS} (h0 : 0 ≤ s 6 0 3) (hT : s 6 0 3 ≤ 5) (hB : ∀ u : Int, 0 ≤ u → u < s 6 0 3 → 0 ≤ s 8 u 5 ∧ s 8 u 5 < 1024) (m pc : Nat) (ls st : List zV) (fs : List zFr) (Q : List zV → zS → Prop) : Ev ((187, 0, [zR 6 0, zU, zU], []) :: (m, pc, ls, st) :: fs) s Q = Ev ((m, pc, ls, zI (stl s) :: st) :: fs) s Q := by
  obtain ⟨r, r1, r2, r3⟩ := lp187 hT hB (s 6 0 3).toNat 0 0 (by omega) (by omega) (by omega) (by omega)
  obtain ⟨b0, b1, b2⟩ := stl_bi h0 hB
  have e : r = stl s := bi_ext r2 b0 (fun q q0 => by
    rw [r3 q q0, b2 q q0]
    exact ⟨fun h => h.elim (fun z => absurd z (bi_0 q)) id, Or.inr⟩)
  simp only [r187_0, r187_1, r187_2, r187_3, zclr_I, zclr_R, zclr_L, zclr_U, reduceIte, Int.reduceEq, Int.reduceLT, Int.reduceLE, Int.reduceNeg, not_true_eq_false, not_false_eq_true, or_true, true_or, or_false, false_or, and_true, true_and, and_false, false_and, z01_or]
  rw [r1, e]
/-- a class's cost and price -/
def cC (s : zS) (noon t x : Int) : Int := if noon = 0 then 256 - wC s t x else 8 * mC s t (zand x (stl s)) + 1
def prC (s : zS) (noon t x : Int) : Int := cC s noon t x * 1125899906842624 + x * tw t
/-- the settled are pupils -/
def StB (s : zS) : Prop := 0 ≤ stl s ∧ stl s < 1024
theorem cC_b {s : zS} {noon t x : Int} (hB : TeB s t) (hS : StB s) (x0 : 0 ≤ x) (x1 : x < 1024) : 1 ≤ cC s noon t x ∧ cC s noon t x ≤ 256 := by
  obtain ⟨b1, b2⟩ := wC_b hB x0 x1
  obtain ⟨a0, a1, -⟩ := zand_bi x0 x1 hS.1 hS.2
  have b3 := mC_b hB a0 a1
  have e : wC s t x = s 6 0 7 * popc (zand x (s 8 t 5)) + s 6 0 8 * popc (zand x (s 8 t 4)) := rfl
  unfold cC
  by_cases c : noon = 0
  · rw [if_pos c]; omega
  · rw [if_neg c]; omega
theorem prC_b {s : zS} {noon t x : Int} (hB : TeB s t) (hS : StB s) (x0 : 0 ≤ x) (x1 : x < 1024) : 0 < prC s noon t x ∧ prC s noon t x ≤ 576460752303423488 := by
  have a := cC_b (noon := noon) hB hS x0 x1
  have b := twm_b (t := t) x0 x1
  unfold prC
  omega
theorem prC_w {s : zS} {noon t x : Int} (hB : TeB s t) (hS : StB s) (x0 : 0 ≤ x) (x1 : x < 1024) (t0 : 0 ≤ t) (t1 : t < 5) : w64 (zlshl (cC s noon t x) 50 + zlshl x (40 - 10 * t)) = prC s noon t x := by
  have cb := cC_b (noon := noon) hB hS x0 x1
  have tb' := twm_b (t := t) x0 x1
  rw [sh_ci (by omega) (by omega), sh_ti x0 x1 t0 t1]
  exact w64_id (by omega) (by omega)
section
variable {m pc : Nat} {ls st : List zV} {fs : List zFr} {s : zS} {Q : List zV → zS → Prop}
theorem k_dayCost (t x : Int) (t0 : 0 ≤ t) (t1 : t < 5) (hB : TeB s t) (x0 : 0 ≤ x) (x1 : x < 1024) : Ev ((29, 0, [zR 6 0, zI t, zI x], []) :: (m, pc, ls, st) :: fs) s Q = Ev ((m, pc, ls, zI (cC s 0 t x) :: st) :: fs) s Q := by
  have b1 : (0 ≤ t ∧ t < 5) = True := eq_true ⟨t0, t1⟩
  obtain ⟨b2, b3⟩ := wC_b hB x0 x1
  have e : wC s t x = s 6 0 7 * popc (zand x (s 8 t 5)) + s 6 0 8 * popc (zand x (s 8 t 4)) := rfl
  have w1 : w32 (256 - wC s t x) = cC s 0 t x := w32_id (by omega) (by omega)
  simp only [r29_0, r29_3, r29_4, r29_5, r29_8, r29_9, r29_10, r29_11, r29_14, r29_15, k_worthOf t x hB x0 x1, b1, w1, zak_40, zln_40, zak_41, zln_41, zak_42, zln_42, zak_43, zln_43, zak_44, zln_44, zak_45, zln_45, zak_46, zln_46, zak_47, zln_47, zak_48, zln_48, zak_49, zln_49, zak_50, zln_50, zak_51, zln_51, zak_52, zln_52, zak_53, zln_53, zak_54, zln_54, zak_55, zln_55, zak_73, zln_73, zak_74, zln_74, zak_75, zln_75, zak_76, zln_76, zak_77, zln_77, zak_78, zln_78, zak_79, zln_79, zak_80, zln_80, zak_81, zln_81, zak_82, zln_82, zak_83, zln_83, zak_84, zln_84, zak_85, zln_85, zak_86, zln_86, zak_87, zln_87, zak_88, zln_88, zak_89, zln_89, zak_90, zln_90, zak_91, zln_91, zak_92, zln_92, zak_93, zln_93, zak_94, zln_94, zak_95, zln_95, zak_96, zln_96, zak_97, zln_97, zak_98, zln_98, zak_99, zln_99, zak_100, zln_100, zak_101, zln_101, zak_102, zln_102, zak_103, zln_103, zak_104, zln_104, zak_105, zln_105, zak_108, zln_108, zak_109, zln_109, Nat.reduceLeDiff, zclr_I, zclr_R, zclr_L, zclr_U, reduceIte, Int.reduceEq, Int.reduceLT, Int.reduceLE, Int.reduceNeg, not_true_eq_false, not_false_eq_true, or_true, true_or, or_false, false_or, and_true, true_and, and_false, false_and, z01_or]
theorem k_noonCost (t x : Int) (t0 : 0 ≤ t) (t1 : t < 5) (hB : TeB s t) (hS : StB s) (x0 : 0 ≤ x) (x1 : x < 1024) : Ev ((33, 0, [zR 6 0, zI t, zI (zand x (stl s))], []) :: (m, pc, ls, st) :: fs) s Q = Ev ((m, pc, ls, zI (cC s 1 t x) :: st) :: fs) s Q := by
  have b1 : (0 ≤ t ∧ t < 5) = True := eq_true ⟨t0, t1⟩
  obtain ⟨a0, a1, -⟩ := zand_bi x0 x1 hS.1 hS.2
  have b3 := mC_b hB a0 a1
  have w1 : w32 (8 * mC s t (zand x (stl s))) = 8 * mC s t (zand x (stl s)) := w32_id (by omega) (by omega)
  have w2 : w32 (8 * mC s t (zand x (stl s)) + 1) = cC s 1 t x := w32_id (by omega) (by omega)
  simp only [r33_0, r33_2, r33_3, r33_4, r33_7, r33_8, r33_9, r33_10, r33_13, r33_14, r33_15, r33_16, k_movedTo t _ hB a0 a1, b1, w1, w2, zak_40, zln_40, zak_41, zln_41, zak_42, zln_42, zak_43, zln_43, zak_44, zln_44, zak_45, zln_45, zak_46, zln_46, zak_47, zln_47, zak_48, zln_48, zak_49, zln_49, zak_50, zln_50, zak_51, zln_51, zak_52, zln_52, zak_53, zln_53, zak_54, zln_54, zak_55, zln_55, zak_73, zln_73, zak_74, zln_74, zak_75, zln_75, zak_76, zln_76, zak_77, zln_77, zak_78, zln_78, zak_79, zln_79, zak_80, zln_80, zak_81, zln_81, zak_82, zln_82, zak_83, zln_83, zak_84, zln_84, zak_85, zln_85, zak_86, zln_86, zak_87, zln_87, zak_88, zln_88, zak_89, zln_89, zak_90, zln_90, zak_91, zln_91, zak_92, zln_92, zak_93, zln_93, zak_94, zln_94, zak_95, zln_95, zak_96, zln_96, zak_97, zln_97, zak_98, zln_98, zak_99, zln_99, zak_100, zln_100, zak_101, zln_101, zak_102, zln_102, zak_103, zln_103, zak_104, zln_104, zak_105, zln_105, zak_108, zln_108, zak_109, zln_109, Nat.reduceLeDiff, zclr_I, zclr_R, zclr_L, zclr_U, reduceIte, Int.reduceEq, Int.reduceLT, Int.reduceLE, Int.reduceNeg, not_true_eq_false, not_false_eq_true, or_true, true_or, or_false, false_or, and_true, true_and, and_false, false_and, z01_or]
end

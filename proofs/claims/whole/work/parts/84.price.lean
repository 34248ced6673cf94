/-! prices -/
theorem popc_b {x : Int} (h0 : 0 ≤ x) (h1 : x < 1024) : 0 ≤ popc x ∧ popc x ≤ 10 := by
  have := sumF_n (f := fun k => zand (zshr x k) 1) (M := 1) (by omega) 10 0 (fun i i0 i1 => by
    show 0 ≤ zand (zshr x i) 1 ∧ zand (zshr x i) 1 ≤ 1
    rw [has_z h0 h1 i0 (by omega)]
    by_cases c : x.toNat.testBit i.toNat = true
    · rw [if_pos c]; omega
    · rw [if_neg c]; omega)
  have e : popc x = sumF (fun k => zand (zshr x k) 1) 0 10 := rfl
  rw [e]
  omega
theorem mul_b {a b : Int} (a0 : 0 ≤ a) (a1 : a ≤ 9) (b0 : 0 ≤ b) (b1 : b ≤ 10) : 0 ≤ a * b ∧ a * b ≤ 90 := by
  constructor
  · exact Int.mul_nonneg a0 b0
  · have h1 : a * b ≤ 9 * b := Int.mul_le_mul_of_nonneg_right a1 b0
    omega
def wC (s : zS) (t x : Int) : Int := s 6 0 7 * popc (zand x (s 8 t 5)) + s 6 0 8 * popc (zand x (s 8 t 4))
def mC (s : zS) (t x : Int) : Int := popc (zand x (zxor (s 8 t 5) (-1)))
/-- what the class's worthOf and movedTo need -/
def TeB (s : zS) (t : Int) : Prop := (0 ≤ s 8 t 5 ∧ s 8 t 5 < 1024) ∧ (0 ≤ s 8 t 4 ∧ s 8 t 4 < 1024) ∧ (0 ≤ s 6 0 7 ∧ s 6 0 7 ≤ 9) ∧ 0 ≤ s 6 0 8 ∧ s 6 0 8 ≤ 9
theorem wC_b {s : zS} {t x : Int} (hB : TeB s t) (x0 : 0 ≤ x) (x1 : x < 1024) : (0 ≤ s 6 0 7 * popc (zand x (s 8 t 5)) ∧ s 6 0 7 * popc (zand x (s 8 t 5)) ≤ 90) ∧ (0 ≤ s 6 0 8 * popc (zand x (s 8 t 4)) ∧ s 6 0 8 * popc (zand x (s 8 t 4)) ≤ 90) := by
  obtain ⟨h1, h2, h3, h4⟩ := hB
  obtain ⟨a0, a1, -⟩ := zand_bi x0 x1 h1.1 h1.2
  obtain ⟨b0, b1, -⟩ := zand_bi x0 x1 h2.1 h2.2
  have p1 := popc_b a0 a1
  have p2 := popc_b b0 b1
  exact ⟨mul_b h3.1 h3.2 p1.1 p1.2, mul_b h4.1 h4.2 p2.1 p2.2⟩
theorem mC_b {s : zS} {t x : Int} (hB : TeB s t) (x0 : 0 ≤ x) (x1 : x < 1024) : 0 ≤ mC s t x ∧ mC s t x ≤ 10 := by
  obtain ⟨h1, -⟩ := hB
  obtain ⟨a0, a1, -⟩ := zandnot_bi x0 x1 h1.1 h1.2
  exact popc_b a0 a1
section
variable {m pc : Nat} {ls st : List zV} {fs : List zFr} {s : zS} {Q : List zV → zS → Prop}
theorem k_worthOf (t x : Int) (hB : TeB s t) (x0 : 0 ≤ x) (x1 : x < 1024) : Ev ((53, 0, [zR 6 0, zR 8 t, zI x], []) :: (m, pc, ls, st) :: fs) s Q = Ev ((m, pc, ls, zI (wC s t x) :: st) :: fs) s Q := by
  obtain ⟨b1, b2⟩ := wC_b hB x0 x1
  obtain ⟨h1, h2, h3, h4⟩ := hB
  obtain ⟨a0, a1, -⟩ := zand_bi x0 x1 h1.1 h1.2
  obtain ⟨c0, c1, -⟩ := zand_bi x0 x1 h2.1 h2.2
  have w1 : w32 (s 6 0 7 * popc (zand x (s 8 t 5))) = s 6 0 7 * popc (zand x (s 8 t 5)) := w32_id (by omega) (by omega)
  have w2 : w32 (s 6 0 8 * popc (zand x (s 8 t 4))) = s 6 0 8 * popc (zand x (s 8 t 4)) := w32_id (by omega) (by omega)
  have w3 : w32 (s 6 0 7 * popc (zand x (s 8 t 5)) + s 6 0 8 * popc (zand x (s 8 t 4))) = wC s t x := w32_id (by omega) (by omega)
  simp only [r53_0, r53_1, r53_4, r53_5, r53_6, r53_9, r53_10, r53_13, r53_14, r53_15, r53_18, r53_19, r53_20, r53_23, r53_24, r53_27, r53_28, r53_29, k_bitCount _ a0 a1, k_bitCount _ c0 c1, w1, w2, w3, zclr_I, zclr_R, zclr_L, zclr_U, reduceIte, Int.reduceEq, Int.reduceLT, Int.reduceLE, Int.reduceNeg, not_true_eq_false, not_false_eq_true, or_true, true_or, or_false, false_or, and_true, true_and, and_false, false_and, z01_or]
theorem k_movedTo (t x : Int) (hB : TeB s t) (x0 : 0 ≤ x) (x1 : x < 1024) : Ev ((54, 0, [zR 6 0, zR 8 t, zI x], []) :: (m, pc, ls, st) :: fs) s Q = Ev ((m, pc, ls, zI (mC s t x) :: st) :: fs) s Q := by
  obtain ⟨h1, -⟩ := hB
  obtain ⟨a0, a1, -⟩ := zandnot_bi x0 x1 h1.1 h1.2
  simp only [r54_0, r54_1, r54_2, r54_5, r54_6, r54_7, r54_8, r54_11, k_bitCount _ a0 a1, zclr_I, zclr_R, zclr_L, zclr_U, reduceIte, Int.reduceEq, Int.reduceLT, Int.reduceLE, Int.reduceNeg, not_true_eq_false, not_false_eq_true, or_true, true_or, or_false, false_or, and_true, true_and, and_false, false_and, z01_or]
  rfl
end
def tw (t : Int) : Int := if t = 0 then 1099511627776 else if t = 1 then 1073741824 else if t = 2 then 1048576 else if t = 3 then 1024 else 1
theorem sh_c : ∀ x : Fin 512, zlshl (x.val : Nat) 50 = (x.val : Nat) * 1125899906842624 := by decide +kernel
theorem sh_t : ∀ x : Fin 1024, ∀ t : Fin 5, zlshl (x.val : Nat) (40 - 10 * (t.val : Nat)) = (x.val : Nat) * tw (t.val : Nat) := by decide +kernel
theorem sh_ci {x : Int} (h0 : 0 ≤ x) (h1 : x < 512) : zlshl x 50 = x * 1125899906842624 := by
  have h := sh_c ⟨x.toNat, by omega⟩
  simp only [Int.toNat_of_nonneg h0] at h
  exact h
theorem sh_ti {x t : Int} (h0 : 0 ≤ x) (h1 : x < 1024) (t0 : 0 ≤ t) (t1 : t < 5) : zlshl x (40 - 10 * t) = x * tw t := by
  have h := sh_t ⟨x.toNat, by omega⟩ ⟨t.toNat, by omega⟩
  simp only [Int.toNat_of_nonneg h0, Int.toNat_of_nonneg t0] at h
  exact h
theorem tw_b (t : Int) : 1 ≤ tw t ∧ tw t ≤ 1099511627776 := by
  unfold tw
  by_cases h0 : t = 0
  · rw [if_pos h0]; omega
  · rw [if_neg h0]
    by_cases h1 : t = 1
    · rw [if_pos h1]; omega
    · rw [if_neg h1]
      by_cases h2 : t = 2
      · rw [if_pos h2]; omega
      · rw [if_neg h2]
        by_cases h3 : t = 3
        · rw [if_pos h3]; omega
        · rw [if_neg h3]; omega
theorem twm_b {x t : Int} (h0 : 0 ≤ x) (h1 : x < 1024) : 0 ≤ x * tw t ∧ x * tw t ≤ 1124800395214848 := by
  have b := tw_b t
  constructor
  · exact Int.mul_nonneg h0 (by omega)
  · have a1 : x * tw t ≤ 1023 * tw t := Int.mul_le_mul_of_nonneg_right (by omega) (by omega)
    omega
/-- a class's cost and price -/
def cC (s : zS) (noon t x : Int) : Int := if noon = 0 then 256 - wC s t x else 8 * mC s t x + 1
def prC (s : zS) (noon t x : Int) : Int := cC s noon t x * 1125899906842624 + x * tw t
theorem cC_b {s : zS} {noon t x : Int} (hB : TeB s t) (x0 : 0 ≤ x) (x1 : x < 1024) : 1 ≤ cC s noon t x ∧ cC s noon t x ≤ 256 := by
  obtain ⟨b1, b2⟩ := wC_b hB x0 x1
  have b3 := mC_b hB x0 x1
  have e : wC s t x = s 6 0 7 * popc (zand x (s 8 t 5)) + s 6 0 8 * popc (zand x (s 8 t 4)) := rfl
  unfold cC
  by_cases c : noon = 0
  · rw [if_pos c]; omega
  · rw [if_neg c]; omega
theorem prC_b {s : zS} {noon t x : Int} (hB : TeB s t) (x0 : 0 ≤ x) (x1 : x < 1024) : 0 < prC s noon t x ∧ prC s noon t x < 2305843009213693952 := by
  have a := cC_b (noon := noon) hB x0 x1
  have b := twm_b (t := t) x0 x1
  unfold prC
  omega
section
variable {m pc : Nat} {ls st : List zV} {fs : List zFr} {s : zS} {Q : List zV → zS → Prop}
theorem k_priceOf (noon t x : Int) (hn : noon = 0 ∨ noon = 1) (hk : I_k (s 108) (s 109)) (t0 : 0 ≤ t) (t1 : t < 5) (h1 : 0 ≤ s 8 t 0 ∧ s 8 t 0 ≤ 3) (hA : -1000000 ≤ s 2 0 5 - s 2 0 4 ∧ s 2 0 5 - s 2 0 4 ≤ 1000000) (hB : TeB s t) (ex : s 2 0 0 = x) (x0 : 0 ≤ x) (x1 : x < 1024) : Ev ((29, 0, [zR 6 0, zI t, zR 2 0, zI noon, zU, zU, zU], []) :: (m, pc, ls, st) :: fs) s Q = Ev ((m, pc, ls, zL (if rsC s t = 0 then prC s noon t x else 2305843009213693952) :: st) :: fs) s Q := by
  have b1 : (0 ≤ t ∧ t < 5) = True := eq_true ⟨t0, t1⟩
  have kR := fun (m pc : Nat) (ls st : List zV) (fs : List zFr) (Q : List zV → zS → Prop) => k_reason (m := m) (pc := pc) (ls := ls) (st := st) (fs := fs) (Q := Q) (s := s) hk t h1 hA
  have cb := cC_b (noon := noon) hB x0 x1
  have tb' := twm_b (t := t) x0 x1
  by_cases c : rsC s t = 0
  · rw [if_pos c]
    simp only [r29_0, r29_1, r29_4, r29_5, r29_6, r29_8, r29_9, r29_11, b1, zak_40, zln_40, zak_41, zln_41, zak_42, zln_42, zak_43, zln_43, zak_44, zln_44, zak_45, zln_45, zak_46, zln_46, zak_47, zln_47, zak_48, zln_48, zak_49, zln_49, zak_50, zln_50, zak_51, zln_51, zak_52, zln_52, zak_53, zln_53, zak_54, zln_54, zak_73, zln_73, zak_74, zln_74, zak_75, zln_75, zak_76, zln_76, zak_77, zln_77, zak_78, zln_78, zak_79, zln_79, zak_80, zln_80, zak_81, zln_81, zak_82, zln_82, zak_83, zln_83, zak_84, zln_84, zak_85, zln_85, zak_86, zln_86, zak_87, zln_87, zak_88, zln_88, zak_89, zln_89, zak_90, zln_90, zak_91, zln_91, zak_92, zln_92, zak_93, zln_93, zak_94, zln_94, zak_95, zln_95, zak_96, zln_96, zak_97, zln_97, zak_98, zln_98, zak_99, zln_99, zak_100, zln_100, zak_101, zln_101, zak_102, zln_102, zak_103, zln_103, zak_104, zln_104, zak_105, zln_105, zak_108, zln_108, zak_109, zln_109, Nat.reduceLeDiff, zclr_I, zclr_R, zclr_L, zclr_U, reduceIte, Int.reduceEq, Int.reduceLT, Int.reduceLE, Int.reduceNeg, not_true_eq_false, not_false_eq_true, or_true, true_or, or_false, false_or, and_true, true_and, and_false, false_and, z01_or]
    rw [r29_12, kR, c]
    have w5 : w64 (zlshl (cC s noon t x) 50 + zlshl x (40 - 10 * t)) = prC s noon t x := by
      rw [sh_ci (by omega) (by omega), sh_ti x0 x1 t0 t1]
      exact w64_id (by omega) (by omega)
    rcases hn with rfl | rfl
    · obtain ⟨b2, b3⟩ := wC_b hB x0 x1
      have e : wC s t x = s 6 0 7 * popc (zand x (s 8 t 5)) + s 6 0 8 * popc (zand x (s 8 t 4)) := rfl
      have w1 : w32 (256 - wC s t x) = cC s 0 t x := w32_id (by omega) (by omega)
      simp only [r29_15, r29_18, r29_21, r29_22, r29_23, r29_26, r29_28, r29_29, r29_31, r29_32, r29_35, r29_38, r29_39, r29_40, r29_41, r29_42, r29_45, r29_48, r29_49, r29_51, r29_52, r29_55, r29_58, r29_59, r29_60, r29_62, r29_64, r29_66, r29_67, r29_68, r29_71, r29_72, r29_73, r29_76, r29_77, r29_78, k_worthOf t x hB x0 x1, k_tie t t0 t1, ex, w1, w5, zclr_I, zclr_R, zclr_L, zclr_U, reduceIte, Int.reduceEq, Int.reduceLT, Int.reduceLE, Int.reduceNeg, not_true_eq_false, not_false_eq_true, or_true, true_or, or_false, false_or, and_true, true_and, and_false, false_and, z01_or]
    · have b3 := mC_b hB x0 x1
      have w1 : w32 (8 * mC s t x) = 8 * mC s t x := w32_id (by omega) (by omega)
      have w2 : w32 (8 * mC s t x + 1) = cC s 1 t x := w32_id (by omega) (by omega)
      simp only [r29_15, r29_18, r29_21, r29_22, r29_23, r29_26, r29_28, r29_29, r29_31, r29_32, r29_35, r29_38, r29_39, r29_40, r29_41, r29_42, r29_45, r29_48, r29_49, r29_51, r29_52, r29_55, r29_58, r29_59, r29_60, r29_62, r29_64, r29_66, r29_67, r29_68, r29_71, r29_72, r29_73, r29_76, r29_77, r29_78, k_movedTo t x hB x0 x1, k_tie t t0 t1, ex, w1, w2, w5, zclr_I, zclr_R, zclr_L, zclr_U, reduceIte, Int.reduceEq, Int.reduceLT, Int.reduceLE, Int.reduceNeg, not_true_eq_false, not_false_eq_true, or_true, true_or, or_false, false_or, and_true, true_and, and_false, false_and, z01_or]
  · rw [if_neg c]
    simp only [r29_0, r29_1, r29_4, r29_5, r29_6, r29_8, r29_9, r29_11, b1, zak_40, zln_40, zak_41, zln_41, zak_42, zln_42, zak_43, zln_43, zak_44, zln_44, zak_45, zln_45, zak_46, zln_46, zak_47, zln_47, zak_48, zln_48, zak_49, zln_49, zak_50, zln_50, zak_51, zln_51, zak_52, zln_52, zak_53, zln_53, zak_54, zln_54, zak_73, zln_73, zak_74, zln_74, zak_75, zln_75, zak_76, zln_76, zak_77, zln_77, zak_78, zln_78, zak_79, zln_79, zak_80, zln_80, zak_81, zln_81, zak_82, zln_82, zak_83, zln_83, zak_84, zln_84, zak_85, zln_85, zak_86, zln_86, zak_87, zln_87, zak_88, zln_88, zak_89, zln_89, zak_90, zln_90, zak_91, zln_91, zak_92, zln_92, zak_93, zln_93, zak_94, zln_94, zak_95, zln_95, zak_96, zln_96, zak_97, zln_97, zak_98, zln_98, zak_99, zln_99, zak_100, zln_100, zak_101, zln_101, zak_102, zln_102, zak_103, zln_103, zak_104, zln_104, zak_105, zln_105, zak_108, zln_108, zak_109, zln_109, Nat.reduceLeDiff, zclr_I, zclr_R, zclr_L, zclr_U, reduceIte, Int.reduceEq, Int.reduceLT, Int.reduceLE, Int.reduceNeg, not_true_eq_false, not_false_eq_true, or_true, true_or, or_false, false_or, and_true, true_and, and_false, false_and, z01_or]
    rw [r29_12, kR]
    simp only [r29_15, r29_18, r29_21, c, zclr_I, zclr_R, zclr_L, zclr_U, reduceIte, Int.reduceEq, Int.reduceLT, Int.reduceLE, Int.reduceNeg, not_true_eq_false, not_false_eq_true, or_true, true_or, or_false, false_or, and_true, true_and, and_false, false_and, z01_or]
end

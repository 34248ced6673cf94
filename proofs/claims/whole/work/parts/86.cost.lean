/-! the reference's allHere, costOf -/
section
variable {m pc : Nat} {ls st : List zV} {fs : List zFr} {s : zS} {Q : List zV → zS → Prop}
theorem lp146 (hP : s 11 0 0 ≤ 10) : ∀ (k : Nat) (t a : Int), 0 ≤ t → t + k = s 11 0 0 → 0 ≤ a → a < 1024 → Ev ((146, 4, [zR 11 0, zI a, zI t], []) :: (m, pc, ls, st) :: fs) s Q = Ev ((m, pc, ls, zI (orF (fun p => decide (¬ s 83 0 p = 0)) a t k) :: st) :: fs) s Q := by
  intro k
  induction k with
  | zero =>
    intro t a h0 h1 a0 a1
    have e1 : (s 11 0 0 ≤ t) = True := eq_true (by omega)
    rw [r146_4]
    simp only [r146_0, r146_1, r146_2, r146_3, r146_5, r146_6, r146_9, r146_12, r146_13, r146_14, r146_17, r146_18, r146_19, r146_22, r146_23, r146_24, r146_25, r146_28, r146_29, r146_30, r146_31, r146_34, r146_37, r146_38, e1, orF, foldI, zclr_I, zclr_R, zclr_L, zclr_U, reduceIte, Int.reduceEq, Int.reduceLT, Int.reduceLE, Int.reduceNeg, not_true_eq_false, not_false_eq_true, or_true, true_or, or_false, false_or, and_true, true_and, and_false, false_and, z01_or]
  | succ k ih =>
    intro t a h0 h1 a0 a1
    have e1 : (s 11 0 0 ≤ t) = False := eq_false (by omega)
    have b1 : (0 ≤ t ∧ t < 10) = True := eq_true (by omega)
    have w1 : w32 (t + 1) = t + 1 := w32_id (by omega) (by omega)
    have z0 := zor_0 a0 a1
    obtain ⟨d0, d1, -⟩ := set_bi a0 a1 h0 (show t < 10 by omega)
    rw [r146_4, orF_s]
    by_cases hx : s 83 0 t = 0
    · rw [if_neg (fun z => (of_decide_eq_true z) hx)]
      simp only [r146_0, r146_1, r146_2, r146_3, r146_5, r146_6, r146_9, r146_12, r146_13, r146_14, r146_17, r146_18, r146_19, r146_22, r146_23, r146_24, r146_25, r146_28, r146_29, r146_30, r146_31, r146_34, r146_37, r146_38, e1, b1, hx, w1, z0, zak_40, zln_40, zak_41, zln_41, zak_42, zln_42, zak_43, zln_43, zak_44, zln_44, zak_45, zln_45, zak_46, zln_46, zak_47, zln_47, zak_48, zln_48, zak_49, zln_49, zak_50, zln_50, zak_51, zln_51, zak_52, zln_52, zak_53, zln_53, zak_54, zln_54, zak_55, zln_55, zak_73, zln_73, zak_74, zln_74, zak_75, zln_75, zak_76, zln_76, zak_77, zln_77, zak_78, zln_78, zak_79, zln_79, zak_80, zln_80, zak_81, zln_81, zak_82, zln_82, zak_83, zln_83, zak_84, zln_84, zak_85, zln_85, zak_86, zln_86, zak_87, zln_87, zak_88, zln_88, zak_89, zln_89, zak_90, zln_90, zak_91, zln_91, zak_92, zln_92, zak_93, zln_93, zak_94, zln_94, zak_95, zln_95, zak_96, zln_96, zak_97, zln_97, zak_98, zln_98, zak_99, zln_99, zak_100, zln_100, zak_101, zln_101, zak_102, zln_102, zak_103, zln_103, zak_104, zln_104, zak_105, zln_105, zak_108, zln_108, zak_109, zln_109, Nat.reduceLeDiff, zclr_I, zclr_R, zclr_L, zclr_U, reduceIte, Int.reduceEq, Int.reduceLT, Int.reduceLE, Int.reduceNeg, not_true_eq_false, not_false_eq_true, or_true, true_or, or_false, false_or, and_true, true_and, and_false, false_and, z01_or]
      exact ih (t + 1) _ (by omega) (by omega) a0 a1
    · rw [if_pos (decide_eq_true hx)]
      simp only [r146_0, r146_1, r146_2, r146_3, r146_5, r146_6, r146_9, r146_12, r146_13, r146_14, r146_17, r146_18, r146_19, r146_22, r146_23, r146_24, r146_25, r146_28, r146_29, r146_30, r146_31, r146_34, r146_37, r146_38, e1, b1, hx, w1, zak_40, zln_40, zak_41, zln_41, zak_42, zln_42, zak_43, zln_43, zak_44, zln_44, zak_45, zln_45, zak_46, zln_46, zak_47, zln_47, zak_48, zln_48, zak_49, zln_49, zak_50, zln_50, zak_51, zln_51, zak_52, zln_52, zak_53, zln_53, zak_54, zln_54, zak_55, zln_55, zak_73, zln_73, zak_74, zln_74, zak_75, zln_75, zak_76, zln_76, zak_77, zln_77, zak_78, zln_78, zak_79, zln_79, zak_80, zln_80, zak_81, zln_81, zak_82, zln_82, zak_83, zln_83, zak_84, zln_84, zak_85, zln_85, zak_86, zln_86, zak_87, zln_87, zak_88, zln_88, zak_89, zln_89, zak_90, zln_90, zak_91, zln_91, zak_92, zln_92, zak_93, zln_93, zak_94, zln_94, zak_95, zln_95, zak_96, zln_96, zak_97, zln_97, zak_98, zln_98, zak_99, zln_99, zak_100, zln_100, zak_101, zln_101, zak_102, zln_102, zak_103, zln_103, zak_104, zln_104, zak_105, zln_105, zak_108, zln_108, zak_109, zln_109, Nat.reduceLeDiff, zclr_I, zclr_R, zclr_L, zclr_U, reduceIte, Int.reduceEq, Int.reduceLT, Int.reduceLE, Int.reduceNeg, not_true_eq_false, not_false_eq_true, or_true, true_or, or_false, false_or, and_true, true_and, and_false, false_and, z01_or]
      exact ih (t + 1) _ (by omega) (by omega) d0 d1
end
theorem k_allHere {L : Nat} {s : zS} (hs : Inv L s) (m pc : Nat) (ls st : List zV) (fs : List zFr) (Q : List zV → zS → Prop) : Ev ((146, 0, [zR 11 0, zU, zU], []) :: (m, pc, ls, st) :: fs) s Q = Ev ((m, pc, ls, zI (s 6 0 4) :: st) :: fs) s Q := by
  obtain ⟨h1, h2, h3, h4, h5, h6, h7, h8, h9, h10, h11, h12, h13, h14, h15⟩ := id hs
  have h40 := h4.2
  obtain ⟨u0, u1, u2⟩ := h14
  simp only [r146_0, r146_1, r146_2, r146_3, zclr_I, zclr_R, zclr_L, zclr_U, reduceIte, Int.reduceEq, Int.reduceLT, Int.reduceLE, Int.reduceNeg, not_true_eq_false, not_false_eq_true, or_true, true_or, or_false, false_or, and_true, true_and, and_false, false_and, z01_or]
  rw [lp146 (by omega) (s 11 0 0).toNat 0 0 (by omega) (by omega) (by omega) (by omega)]
  obtain ⟨f0, f1, f2⟩ := orF_bi (fun p => decide (¬ s 83 0 p = 0)) (s 11 0 0).toNat 0 0 (by omega) (by omega) (by omega) (by omega)
  have e : orF (fun p => decide (¬ s 83 0 p = 0)) 0 0 (s 11 0 0).toNat = s 6 0 4 := by
    refine bi_ext f0 u0 (fun p p0 => ?_)
    rw [f2 p p0, u2 p p0, decide_eq_true_eq]
    constructor
    · rintro (z | ⟨z1, z2, z3⟩)
      · exact absurd z (bi_0 p)
      · have := (h12 p p0 (by omega)).2.2.2.2.2.2.2.2
        omega
    · rintro ⟨z1, z2⟩
      exact Or.inr ⟨p0, by omega, by omega⟩
  rw [e]
def mM (s : zS) (t x : Int) : Int := popc (zand x (zxor (s 86 0 t) (-1)))
def wM (s : zS) (t x : Int) : Int := s 11 0 8 * popc (zand x (s 86 0 t)) + sumF (fun p => if tb x p = true ∧ s 79 0 p = t then s 11 0 9 else 0) 0 (s 11 0 0).toNat
def cR (s : zS) (noon t x : Int) : Int := if noon = 0 then 1000 - wM s t x else 100 * mM s t x + 1
def cst (s : zS) (noon t x : Int) : Int := if x = 0 then 0 else if mayM s t x = 0 then cR s noon t x else 1000000000
theorem sumF_0 (f : Int → Int) (t : Int) (k : Nat) : ∀ m : Nat, (∀ i : Int, t + k ≤ i → i < t + k + m → f i = 0) → sumF f t (k + m) = sumF f t k := by
  intro m
  induction m with
  | zero => intro _; rfl
  | succ m ih =>
    intro h
    rw [← Nat.add_assoc, sumF_back, ih (fun i i0 i1 => h i i0 (by omega)), h _ (by omega) (by omega)]
    omega
theorem sumF_mul (f : Int → Int) (c : Int) : ∀ (k : Nat) (t : Int), sumF (fun i => c * f i) t k = c * sumF f t k := by
  intro k
  induction k with
  | zero => intro t; show (0 : Int) = c * 0; rw [Int.mul_zero]
  | succ k ih =>
    intro t
    show c * f t + sumF (fun i => c * f i) (t + 1) k = c * (f t + sumF f (t + 1) k)
    rw [ih, Int.mul_add]
theorem wM_C {L : Nat} {s : zS} (hs : Inv L s) {t x : Int} (t0 : 0 ≤ t) (t1 : t < s 11 0 1) (x0 : 0 ≤ x) (x1 : x < 1024) : wM s t x = wC s t x ∧ mM s t x = mC s t x := by
  obtain ⟨h1, h2, h3, h4, h5, h6, h7, h8, h9, h10, h11, h12, h13, h14, h15, h16⟩ := id hs
  have h40 := h4.2
  obtain ⟨k1, k2, k3, k4, k5, k6, k7, k8⟩ := h15 t t0 t1
  obtain ⟨y1, y2, y3, y4⟩ := h9
  obtain ⟨b0, b1, b2⟩ := zand_bi x0 x1 k6 k7
  constructor
  · unfold wM wC
    rw [k4.1, y3.1, y4.1, popc_hb b0 b1, ← sumF_mul]
    have e : sumF (fun i => s 11 0 9 * hb (zand x (s 8 t 4)) i) 0 10 = sumF (fun i => s 11 0 9 * hb (zand x (s 8 t 4)) i) 0 (s 11 0 0).toNat := by
      have := sumF_0 (fun i => s 11 0 9 * hb (zand x (s 8 t 4)) i) 0 (s 11 0 0).toNat (10 - (s 11 0 0).toNat) (fun i i0 i1 => by
        have : hb (zand x (s 8 t 4)) i = 0 := if_neg (fun z => by
          have a := ((b2 i (by omega)).mp z).2
          have b := ((k8 i (by omega)).mp a).1
          omega)
        rw [this, Int.mul_zero])
      rw [← this]
      congr 1
      omega
    rw [e]
    congr 1
    refine sumF_c _ _ (fun p p0 p1 => ?_)
    by_cases c : tb x p = true ∧ s 79 0 p = t
    · have : hb (zand x (s 8 t 4)) p = 1 := if_pos ((b2 p p0).mpr ⟨c.1, (k8 p p0).mpr ⟨by omega, c.2⟩⟩)
      rw [if_pos c, this, Int.mul_one]
    · have : hb (zand x (s 8 t 4)) p = 0 := if_neg (fun z => c ⟨((b2 p p0).mp z).1, ((k8 p p0).mp ((b2 p p0).mp z).2).2⟩)
      rw [if_neg c, this, Int.mul_zero]
  · unfold mM mC
    rw [k4.1]
theorem wM_b {L : Nat} {s : zS} (hs : Inv L s) {t x : Int} (t0 : 0 ≤ t) (t1 : t < s 11 0 1) (x0 : 0 ≤ x) (x1 : x < 1024) : (0 ≤ wM s t x ∧ wM s t x ≤ 180) ∧ (0 ≤ mM s t x ∧ mM s t x ≤ 10) ∧ 0 ≤ s 11 0 8 * popc (zand x (s 86 0 t)) ∧ s 11 0 8 * popc (zand x (s 86 0 t)) ≤ 90 := by
  obtain ⟨e1, e2⟩ := wM_C hs t0 t1 x0 x1
  have hB := TeB_I hs t0 t1
  obtain ⟨b1, b2⟩ := wC_b hB x0 x1
  have b3 := mC_b hB x0 x1
  have e : wC s t x = s 6 0 7 * popc (zand x (s 8 t 5)) + s 6 0 8 * popc (zand x (s 8 t 4)) := rfl
  obtain ⟨h1, h2, h3, h4, h5, h6, h7, h8, h9, h10, h11, h12, h13, h14, h15, h16⟩ := id hs
  obtain ⟨k1, k2, k3, k4, k5⟩ := h15 t t0 t1
  have y3 := h9.2.2.1.1
  rw [← y3, ← k4.1]
  omega
theorem lp147 {s : zS} (t x nn : Int) (x0 : 0 ≤ x) (x1 : x < 1024) (hP : s 11 0 0 ≤ 10) (hw : 0 ≤ s 11 0 9 ∧ s 11 0 9 ≤ 9) : ∀ (k : Nat) (p c : Int), 0 ≤ p → p + k = s 11 0 0 → 0 ≤ c → c ≤ 90 + 9 * p → ∀ (F : List zFr) (Q : List zV → zS → Prop), Ev ((147, 62, [zR 11 0, zI t, zI x, zI nn, zI c, zI p], []) :: F) s Q = Ev ((147, 110, [zR 11 0, zI t, zI x, zI nn, zI (c + sumF (fun p => if tb x p = true ∧ s 79 0 p = t then s 11 0 9 else 0) p k), zI (s 11 0 0)], []) :: F) s Q := by
  intro k
  induction k with
  | zero =>
    intro p c p0 p1 c0 c1 F Q
    have e1 : (s 11 0 0 ≤ p) = True := eq_true (by omega)
    have e2 : p = s 11 0 0 := by omega
    rw [r147_62]
    simp only [r147_64, r147_65, r147_68, r147_71, r147_73, r147_74, r147_76, r147_79, r147_82, r147_83, r147_86, r147_88, r147_89, r147_90, r147_93, r147_94, r147_97, r147_100, r147_101, r147_102, r147_104, r147_107, e1, sumF, Int.add_zero, zclr_I, zclr_R, zclr_L, zclr_U, reduceIte, Int.reduceEq, Int.reduceLT, Int.reduceLE, Int.reduceNeg, not_true_eq_false, not_false_eq_true, or_true, true_or, or_false, false_or, and_true, true_and, and_false, false_and, z01_or]
    rw [e2]
  | succ k ih =>
    intro p c p0 p1 c0 c1 F Q
    have e1 : (s 11 0 0 ≤ p) = False := eq_false (by omega)
    have b1 : (0 ≤ p ∧ p < 10) = True := eq_true (by omega)
    have w1 : w32 (p + 1) = p + 1 := w32_id (by omega) (by omega)
    have w2 : w32 (c + s 11 0 9) = c + s 11 0 9 := w32_id (by omega) (by omega)
    have w3 : w32 (c + 0) = c := by rw [Int.add_zero]; exact w32_id (by omega) (by omega)
    have c3 := has_m x0 x1 p0 (show p < 10 by omega)
    have eS : sumF (fun p => if tb x p = true ∧ s 79 0 p = t then s 11 0 9 else 0) p (k + 1) = (if tb x p = true ∧ s 79 0 p = t then s 11 0 9 else 0) + sumF (fun p => if tb x p = true ∧ s 79 0 p = t then s 11 0 9 else 0) (p + 1) k := rfl
    rw [r147_62, eS]
    by_cases hz : tb x p = true
    · have q : hb x p = 1 := if_pos hz
      by_cases hy : s 79 0 p = t
      · rw [if_pos ⟨hz, hy⟩]
        have hy := eq_true hy
        simp only [r147_64, r147_65, r147_68, r147_71, r147_73, r147_74, r147_76, r147_79, r147_82, r147_83, r147_86, r147_88, r147_89, r147_90, r147_93, r147_94, r147_97, r147_100, r147_101, r147_102, r147_104, r147_107, k_hasM, e1, b1, c3, q, hy, w1, w2, zak_40, zln_40, zak_41, zln_41, zak_42, zln_42, zak_43, zln_43, zak_44, zln_44, zak_45, zln_45, zak_46, zln_46, zak_47, zln_47, zak_48, zln_48, zak_49, zln_49, zak_50, zln_50, zak_51, zln_51, zak_52, zln_52, zak_53, zln_53, zak_54, zln_54, zak_55, zln_55, zak_73, zln_73, zak_74, zln_74, zak_75, zln_75, zak_76, zln_76, zak_77, zln_77, zak_78, zln_78, zak_79, zln_79, zak_80, zln_80, zak_81, zln_81, zak_82, zln_82, zak_83, zln_83, zak_84, zln_84, zak_85, zln_85, zak_86, zln_86, zak_87, zln_87, zak_88, zln_88, zak_89, zln_89, zak_90, zln_90, zak_91, zln_91, zak_92, zln_92, zak_93, zln_93, zak_94, zln_94, zak_95, zln_95, zak_96, zln_96, zak_97, zln_97, zak_98, zln_98, zak_99, zln_99, zak_100, zln_100, zak_101, zln_101, zak_102, zln_102, zak_103, zln_103, zak_104, zln_104, zak_105, zln_105, zak_108, zln_108, zak_109, zln_109, Nat.reduceLeDiff, zclr_I, zclr_R, zclr_L, zclr_U, reduceIte, Int.reduceEq, Int.reduceLT, Int.reduceLE, Int.reduceNeg, not_true_eq_false, not_false_eq_true, or_true, true_or, or_false, false_or, and_true, true_and, and_false, false_and, z01_or]
        rw [ih (p + 1) _ (by omega) (by omega) (by omega) (by omega), Int.add_assoc]
      · rw [if_neg (fun z => hy z.2), Int.zero_add]
        simp only [r147_64, r147_65, r147_68, r147_71, r147_73, r147_74, r147_76, r147_79, r147_82, r147_83, r147_86, r147_88, r147_89, r147_90, r147_93, r147_94, r147_97, r147_100, r147_101, r147_102, r147_104, r147_107, k_hasM, e1, b1, c3, q, hy, w1, w3, zak_40, zln_40, zak_41, zln_41, zak_42, zln_42, zak_43, zln_43, zak_44, zln_44, zak_45, zln_45, zak_46, zln_46, zak_47, zln_47, zak_48, zln_48, zak_49, zln_49, zak_50, zln_50, zak_51, zln_51, zak_52, zln_52, zak_53, zln_53, zak_54, zln_54, zak_55, zln_55, zak_73, zln_73, zak_74, zln_74, zak_75, zln_75, zak_76, zln_76, zak_77, zln_77, zak_78, zln_78, zak_79, zln_79, zak_80, zln_80, zak_81, zln_81, zak_82, zln_82, zak_83, zln_83, zak_84, zln_84, zak_85, zln_85, zak_86, zln_86, zak_87, zln_87, zak_88, zln_88, zak_89, zln_89, zak_90, zln_90, zak_91, zln_91, zak_92, zln_92, zak_93, zln_93, zak_94, zln_94, zak_95, zln_95, zak_96, zln_96, zak_97, zln_97, zak_98, zln_98, zak_99, zln_99, zak_100, zln_100, zak_101, zln_101, zak_102, zln_102, zak_103, zln_103, zak_104, zln_104, zak_105, zln_105, zak_108, zln_108, zak_109, zln_109, Nat.reduceLeDiff, zclr_I, zclr_R, zclr_L, zclr_U, reduceIte, Int.reduceEq, Int.reduceLT, Int.reduceLE, Int.reduceNeg, not_true_eq_false, not_false_eq_true, or_true, true_or, or_false, false_or, and_true, true_and, and_false, false_and, z01_or]
        exact ih (p + 1) _ (by omega) (by omega) c0 (by omega) F Q
    · have q : hb x p = 0 := if_neg hz
      rw [if_neg (fun z => hz z.1), Int.zero_add]
      simp only [r147_64, r147_65, r147_68, r147_71, r147_73, r147_74, r147_76, r147_79, r147_82, r147_83, r147_86, r147_88, r147_89, r147_90, r147_93, r147_94, r147_97, r147_100, r147_101, r147_102, r147_104, r147_107, k_hasM, e1, c3, q, w1, w3, zak_40, zln_40, zak_41, zln_41, zak_42, zln_42, zak_43, zln_43, zak_44, zln_44, zak_45, zln_45, zak_46, zln_46, zak_47, zln_47, zak_48, zln_48, zak_49, zln_49, zak_50, zln_50, zak_51, zln_51, zak_52, zln_52, zak_53, zln_53, zak_54, zln_54, zak_55, zln_55, zak_73, zln_73, zak_74, zln_74, zak_75, zln_75, zak_76, zln_76, zak_77, zln_77, zak_78, zln_78, zak_79, zln_79, zak_80, zln_80, zak_81, zln_81, zak_82, zln_82, zak_83, zln_83, zak_84, zln_84, zak_85, zln_85, zak_86, zln_86, zak_87, zln_87, zak_88, zln_88, zak_89, zln_89, zak_90, zln_90, zak_91, zln_91, zak_92, zln_92, zak_93, zln_93, zak_94, zln_94, zak_95, zln_95, zak_96, zln_96, zak_97, zln_97, zak_98, zln_98, zak_99, zln_99, zak_100, zln_100, zak_101, zln_101, zak_102, zln_102, zak_103, zln_103, zak_104, zln_104, zak_105, zln_105, zak_108, zln_108, zak_109, zln_109, Nat.reduceLeDiff, zclr_I, zclr_R, zclr_L, zclr_U, reduceIte, Int.reduceEq, Int.reduceLT, Int.reduceLE, Int.reduceNeg, not_true_eq_false, not_false_eq_true, or_true, true_or, or_false, false_or, and_true, true_and, and_false, false_and, z01_or]
      exact ih (p + 1) _ (by omega) (by omega) c0 (by omega) F Q
theorem k_costOf {L : Nat} {s : zS} (hs : Inv L s) (noon t x : Int) (hn : noon = 0 ∨ noon = 1) (t0 : 0 ≤ t) (t1 : t < s 11 0 1) (x0 : 0 ≤ x) (xH : SubB x (s 6 0 4)) (m pc : Nat) (ls st : List zV) (fs : List zFr) (Q : List zV → zS → Prop) : Ev ((147, 0, [zR 11 0, zI t, zI x, zI noon, zU, zU], []) :: (m, pc, ls, st) :: fs) s Q = Ev ((m, pc, ls, zI (cst s noon t x) :: st) :: fs) s Q := by
  obtain ⟨h1, h2, h3, h4, h5, h6, h7, h8, h9, h10, h11, h12, h13, h14, h15, h16⟩ := id hs
  have h40 := h4.2
  have h50 := h5.2
  have x1 : x < 1024 := by have := SubB_le x0 h14.1 xH; have := h14.2.1; omega
  unfold cst
  by_cases c0 : x = 0
  · rw [if_pos c0]
    simp only [r147_0, r147_1, r147_4, r147_5, c0, zclr_I, zclr_R, zclr_L, zclr_U, reduceIte, Int.reduceEq, Int.reduceLT, Int.reduceLE, Int.reduceNeg, not_true_eq_false, not_false_eq_true, or_true, true_or, or_false, false_or, and_true, true_and, and_false, false_and, z01_or]
  · rw [if_neg c0]
    obtain ⟨ag1, ag2, ag3, ag4, ag5, ag6⟩ := age_b hs (show 0 < x by omega) (hereP hs xH)
    have kM := fun (m pc : Nat) (ls st : List zV) (fs : List zFr) (Q : List zV → zS → Prop) => k_mayTeach (m := m) (pc := pc) (ls := ls) (st := st) (fs := fs) (Q := Q) (s := s) t x zU (by omega) x0 x1 (by omega) (by omega) (fun p p0 p1 => by have := (h12 p p0 p1).2.2.2.2.1; omega) (by omega)
    by_cases c1 : mayM s t x = 0
    · rw [if_pos c1]
      simp only [r147_0, r147_1, r147_4, r147_5, r147_6, r147_7, r147_8, c0, zclr_I, zclr_R, zclr_L, zclr_U, reduceIte, Int.reduceEq, Int.reduceLT, Int.reduceLE, Int.reduceNeg, not_true_eq_false, not_false_eq_true, or_true, true_or, or_false, false_or, and_true, true_and, and_false, false_and, z01_or]
      rw [r147_9, kM, c1]
      obtain ⟨bw, bm, bk⟩ := wM_b hs t0 t1 x0 x1
      obtain ⟨k1, k2, k3, k4, k5⟩ := h15 t t0 t1
      have bt : (0 ≤ t ∧ t < 5) = True := eq_true (by omega)
      obtain ⟨a0, a1, -⟩ := zand_bi x0 x1 k4.2.1 k4.2.2
      obtain ⟨d0, d1, -⟩ := zandnot_bi x0 x1 k4.2.1 k4.2.2
      rcases hn with rfl | rfl
      · have w1 : w32 (s 11 0 8 * popc (zand x (s 86 0 t))) = s 11 0 8 * popc (zand x (s 86 0 t)) := w32_id (by omega) (by omega)
        simp only [r147_12, r147_15, r147_17, r147_18, r147_19, r147_22, r147_24, r147_25, r147_26, r147_29, r147_30, r147_31, r147_32, r147_33, r147_34, r147_37, r147_38, r147_39, r147_40, r147_41, r147_42, r147_45, r147_46, r147_47, r147_50, r147_51, r147_52, r147_53, r147_56, r147_57, r147_59, r147_60, k_ones _ zU zU a0 a1, bt, w1, zak_40, zln_40, zak_41, zln_41, zak_42, zln_42, zak_43, zln_43, zak_44, zln_44, zak_45, zln_45, zak_46, zln_46, zak_47, zln_47, zak_48, zln_48, zak_49, zln_49, zak_50, zln_50, zak_51, zln_51, zak_52, zln_52, zak_53, zln_53, zak_54, zln_54, zak_55, zln_55, zak_73, zln_73, zak_74, zln_74, zak_75, zln_75, zak_76, zln_76, zak_77, zln_77, zak_78, zln_78, zak_79, zln_79, zak_80, zln_80, zak_81, zln_81, zak_82, zln_82, zak_83, zln_83, zak_84, zln_84, zak_85, zln_85, zak_86, zln_86, zak_87, zln_87, zak_88, zln_88, zak_89, zln_89, zak_90, zln_90, zak_91, zln_91, zak_92, zln_92, zak_93, zln_93, zak_94, zln_94, zak_95, zln_95, zak_96, zln_96, zak_97, zln_97, zak_98, zln_98, zak_99, zln_99, zak_100, zln_100, zak_101, zln_101, zak_102, zln_102, zak_103, zln_103, zak_104, zln_104, zak_105, zln_105, zak_108, zln_108, zak_109, zln_109, Nat.reduceLeDiff, zclr_I, zclr_R, zclr_L, zclr_U, reduceIte, Int.reduceEq, Int.reduceLT, Int.reduceLE, Int.reduceNeg, not_true_eq_false, not_false_eq_true, or_true, true_or, or_false, false_or, and_true, true_and, and_false, false_and, z01_or]
        rw [lp147 t x _ x0 x1 (by omega) h9.2.2.2.2 (s 11 0 0).toNat 0 _ (by omega) (by omega) (by omega) (by omega)]
        have w2 : w32 (1000 - wM s t x) = cR s 0 t x := w32_id (by omega) (by omega)
        rw [show s 11 0 8 * popc (zand x (s 86 0 t)) + sumF (fun p => if tb x p = true ∧ s 79 0 p = t then s 11 0 9 else 0) 0 (s 11 0 0).toNat = wM s t x from rfl]
        simp only [r147_110, r147_113, r147_115, r147_116, w2, zclr_I, zclr_R, zclr_L, zclr_U, reduceIte, Int.reduceEq, Int.reduceLT, Int.reduceLE, Int.reduceNeg, not_true_eq_false, not_false_eq_true, or_true, true_or, or_false, false_or, and_true, true_and, and_false, false_and, z01_or]
      · have w1 : w32 (100 * mM s t x) = 100 * mM s t x := w32_id (by omega) (by omega)
        have w2 : w32 (100 * mM s t x + 1) = cR s 1 t x := w32_id (by omega) (by omega)
        simp only [r147_12, r147_15, r147_17, r147_18, r147_19, r147_22, r147_24, r147_25, r147_26, r147_29, r147_30, r147_31, r147_32, r147_33, bt, zak_40, zln_40, zak_41, zln_41, zak_42, zln_42, zak_43, zln_43, zak_44, zln_44, zak_45, zln_45, zak_46, zln_46, zak_47, zln_47, zak_48, zln_48, zak_49, zln_49, zak_50, zln_50, zak_51, zln_51, zak_52, zln_52, zak_53, zln_53, zak_54, zln_54, zak_55, zln_55, zak_73, zln_73, zak_74, zln_74, zak_75, zln_75, zak_76, zln_76, zak_77, zln_77, zak_78, zln_78, zak_79, zln_79, zak_80, zln_80, zak_81, zln_81, zak_82, zln_82, zak_83, zln_83, zak_84, zln_84, zak_85, zln_85, zak_86, zln_86, zak_87, zln_87, zak_88, zln_88, zak_89, zln_89, zak_90, zln_90, zak_91, zln_91, zak_92, zln_92, zak_93, zln_93, zak_94, zln_94, zak_95, zln_95, zak_96, zln_96, zak_97, zln_97, zak_98, zln_98, zak_99, zln_99, zak_100, zln_100, zak_101, zln_101, zak_102, zln_102, zak_103, zln_103, zak_104, zln_104, zak_105, zln_105, zak_108, zln_108, zak_109, zln_109, Nat.reduceLeDiff, zclr_I, zclr_R, zclr_L, zclr_U, reduceIte, Int.reduceEq, Int.reduceLT, Int.reduceLE, Int.reduceNeg, not_true_eq_false, not_false_eq_true, or_true, true_or, or_false, false_or, and_true, true_and, and_false, false_and, z01_or]
        rw [r147_34, k_ones _ zU zU d0 d1, show popc (zand x (zxor (s 86 0 t) (-1))) = mM s t x from rfl]
        simp only [r147_37, r147_38, r147_39, r147_40, w1, w2, zclr_I, zclr_R, zclr_L, zclr_U, reduceIte, Int.reduceEq, Int.reduceLT, Int.reduceLE, Int.reduceNeg, not_true_eq_false, not_false_eq_true, or_true, true_or, or_false, false_or, and_true, true_and, and_false, false_and, z01_or]
    · rw [if_neg c1]
      simp only [r147_0, r147_1, r147_4, r147_5, r147_6, r147_7, r147_8, c0, zclr_I, zclr_R, zclr_L, zclr_U, reduceIte, Int.reduceEq, Int.reduceLT, Int.reduceLE, Int.reduceNeg, not_true_eq_false, not_false_eq_true, or_true, true_or, or_false, false_or, and_true, true_and, and_false, false_and, z01_or]
      rw [r147_9, kM]
      simp only [r147_12, r147_15, r147_17, c1, zclr_I, zclr_R, zclr_L, zclr_U, reduceIte, Int.reduceEq, Int.reduceLT, Int.reduceLE, Int.reduceNeg, not_true_eq_false, not_false_eq_true, or_true, true_or, or_false, false_or, and_true, true_and, and_false, false_and, z01_or]

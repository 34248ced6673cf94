/-! the reference's reach -/
def goE (x a b : Int) : Int := if tb x a = true then zor x (zshl 1 b) else x
theorem goE_s {x a b : Int} (h : In6 x) (b0 : 0 ≤ b) (b1 : b < 6) : In6 (goE x a b) ∧ ∀ p : Int, 0 ≤ p → (bi (goE x a b) p ↔ bi x p ∨ (bi x a ∧ p = b)) := by
  unfold goE
  by_cases hz : tb x a = true
  · rw [if_pos hz]
    obtain ⟨o1, o2⟩ := or_6 h (sh_6 b0 b1).1
    refine ⟨o1, fun p p0 => ?_⟩
    rw [o2 p p0, (sh_6 b0 b1).2 p p0]
    exact ⟨fun z => z.imp id (fun y => ⟨hz, y⟩), fun z => z.imp id (fun y => y.2)⟩
  · rw [if_neg hz]
    exact ⟨h, fun p p0 => ⟨Or.inl, fun z => z.elim id (fun y => absurd y.1 hz)⟩⟩
section
variable {m pc : Nat} {ls st : List zV} {fs : List zFr} {s : zS} {Q : List zV → zS → Prop}
theorem k_goOn (x f t h : Int) (hx : In6 x) (f0 : 0 ≤ f ∧ f ≤ 5) (t0 : 0 ≤ t ∧ t ≤ 5) : Ev ((159, 0, [zI x, zI f, zI t, zI h], []) :: (m, pc, ls, st) :: fs) s Q = Ev ((m, pc, ls, zI (goE x (if h = 0 then f else t) (if h = 0 then t else f)) :: st) :: fs) s Q := by
  have cf := has_m hx.1 (show x < 1024 by have := hx.2; omega) f0.1 (show f < 10 by omega)
  have ct := has_m hx.1 (show x < 1024 by have := hx.2; omega) t0.1 (show t < 10 by omega)
  unfold goE
  by_cases hh : h = 0
  · rw [if_pos hh, if_pos hh]
    by_cases hz : tb x f = true
    · have q : hb x f = 1 := if_pos hz
      rw [if_pos hz]
      simp only [r159_0, r159_1, r159_4, r159_5, r159_6, r159_9, r159_12, r159_13, r159_14, r159_15, r159_16, r159_17, r159_20, r159_21, r159_24, r159_25, r159_26, r159_29, r159_32, r159_33, r159_34, r159_35, r159_36, r159_37, r159_40, r159_41, k_hasM, hh, cf, q, zclr_I, zclr_R, zclr_L, zclr_U, reduceIte, Int.reduceEq, Int.reduceLT, Int.reduceLE, Int.reduceNeg, not_true_eq_false, not_false_eq_true, or_true, true_or, or_false, false_or, and_true, true_and, and_false, false_and, z01_or]
    · have q : hb x f = 0 := if_neg hz
      rw [if_neg hz]
      simp only [r159_0, r159_1, r159_4, r159_5, r159_6, r159_9, r159_12, r159_13, r159_14, r159_15, r159_16, r159_17, r159_20, r159_21, r159_24, r159_25, r159_26, r159_29, r159_32, r159_33, r159_34, r159_35, r159_36, r159_37, r159_40, r159_41, k_hasM, hh, cf, q, zclr_I, zclr_R, zclr_L, zclr_U, reduceIte, Int.reduceEq, Int.reduceLT, Int.reduceLE, Int.reduceNeg, not_true_eq_false, not_false_eq_true, or_true, true_or, or_false, false_or, and_true, true_and, and_false, false_and, z01_or]
  · rw [if_neg hh, if_neg hh]
    by_cases hz : tb x t = true
    · have q : hb x t = 1 := if_pos hz
      rw [if_pos hz]
      simp only [r159_0, r159_1, r159_4, r159_5, r159_6, r159_9, r159_12, r159_13, r159_14, r159_15, r159_16, r159_17, r159_20, r159_21, r159_24, r159_25, r159_26, r159_29, r159_32, r159_33, r159_34, r159_35, r159_36, r159_37, r159_40, r159_41, k_hasM, hh, ct, q, zclr_I, zclr_R, zclr_L, zclr_U, reduceIte, Int.reduceEq, Int.reduceLT, Int.reduceLE, Int.reduceNeg, not_true_eq_false, not_false_eq_true, or_true, true_or, or_false, false_or, and_true, true_and, and_false, false_and, z01_or]
    · have q : hb x t = 0 := if_neg hz
      rw [if_neg hz]
      simp only [r159_0, r159_1, r159_4, r159_5, r159_6, r159_9, r159_12, r159_13, r159_14, r159_15, r159_16, r159_17, r159_20, r159_21, r159_24, r159_25, r159_26, r159_29, r159_32, r159_33, r159_34, r159_35, r159_36, r159_37, r159_40, r159_41, k_hasM, hh, ct, q, zclr_I, zclr_R, zclr_L, zclr_U, reduceIte, Int.reduceEq, Int.reduceLT, Int.reduceLE, Int.reduceNeg, not_true_eq_false, not_false_eq_true, or_true, true_or, or_false, false_or, and_true, true_and, and_false, false_and, z01_or]
end
def stL (s : zS) (h b x l : Int) : Int := if 0 ≤ l ∧ l < s 11 0 2 ∧ s 93 0 l = 0 ∧ ¬ l = b then goE x (if h = 0 then s 88 0 l else s 89 0 l) (if h = 0 then s 89 0 l else s 88 0 l) else x
def stS (s : zS) (v h x l : Int) : Int := if 0 ≤ l ∧ l < s 11 0 3 ∧ s 92 0 l ≤ v then goE x (if h = 0 then s 90 0 l else s 91 0 l) (if h = 0 then s 91 0 l else s 90 0 l) else x
def rdM (s : zS) (v h b x : Int) : Int := foldI (stS s v h) (foldI (stL s h b) x 0 (s 11 0 2).toNat) 0 (s 11 0 3).toNat
/-- places of ways -/
def Wys (s : zS) : Prop := (∀ l : Int, 0 ≤ l → l < s 11 0 2 → (0 ≤ s 88 0 l ∧ s 88 0 l ≤ 5) ∧ 0 ≤ s 89 0 l ∧ s 89 0 l ≤ 5) ∧ (∀ l : Int, 0 ≤ l → l < s 11 0 3 → (0 ≤ s 90 0 l ∧ s 90 0 l ≤ 5) ∧ 0 ≤ s 91 0 l ∧ s 91 0 l ≤ 5) ∧ (0 ≤ s 11 0 2 ∧ s 11 0 2 ≤ 6) ∧ (0 ≤ s 11 0 3 ∧ s 11 0 3 ≤ 8) ∧ 0 ≤ s 11 0 10 ∧ s 11 0 10 ≤ 5
theorem if_r {h a b : Int} (ha : 0 ≤ a ∧ a ≤ 5) (hb : 0 ≤ b ∧ b ≤ 5) : 0 ≤ (if h = 0 then a else b) ∧ (if h = 0 then a else b) < 6 := by
  by_cases hh : h = 0
  · rw [if_pos hh]; omega
  · rw [if_neg hh]; omega
section
variable {m pc : Nat} {ls st : List zV} {fs : List zFr} {s : zS} {Q : List zV → zS → Prop}
theorem stL_s (hW : Wys s) (h b x i : Int) (hx : In6 x) : In6 (stL s h b x i) ∧ Sub6 x (stL s h b x i) := by
  unfold stL
  by_cases hc : 0 ≤ i ∧ i < s 11 0 2 ∧ s 93 0 i = 0 ∧ ¬ i = b
  · rw [if_pos hc]
    obtain ⟨y1, y2⟩ := hW.1 i hc.1 hc.2.1
    have r := if_r (h := h) y2 y1
    obtain ⟨o1, o2⟩ := goE_s (a := if h = 0 then s 88 0 i else s 89 0 i) hx r.1 r.2
    exact ⟨o1, fun p p0 hp => (o2 p p0).mpr (Or.inl hp)⟩
  · rw [if_neg hc]; exact ⟨hx, fun p _ hp => hp⟩
theorem stS_s (hW : Wys s) (v h x i : Int) (hx : In6 x) : In6 (stS s v h x i) ∧ Sub6 x (stS s v h x i) := by
  unfold stS
  by_cases hc : 0 ≤ i ∧ i < s 11 0 3 ∧ s 92 0 i ≤ v
  · rw [if_pos hc]
    obtain ⟨y1, y2⟩ := hW.2.1 i hc.1 hc.2.1
    have r := if_r (h := h) y2 y1
    obtain ⟨o1, o2⟩ := goE_s (a := if h = 0 then s 90 0 i else s 91 0 i) hx r.1 r.2
    exact ⟨o1, fun p p0 hp => (o2 p p0).mpr (Or.inl hp)⟩
  · rw [if_neg hc]; exact ⟨hx, fun p _ hp => hp⟩
theorem lp160a (hW : Wys s) (v h b r : Int) : ∀ (k : Nat) (x t : Int) (F : List zFr), In6 x → 0 ≤ t → t + k = s 11 0 2 → Ev ((160, 21, [zR 11 0, zI v, zI h, zI b, zI x, zI r, zI t], []) :: F) s Q = Ev ((160, 74, [zR 11 0, zI v, zI h, zI b, zI (foldI (stL s h b) x t k), zI r, zI (s 11 0 2)], []) :: F) s Q := by
  intro k
  have h60 := hW.2.2.1
  induction k with
  | zero =>
    intro x t F hx h0 h1
    have e1 : (s 11 0 2 ≤ t) = True := eq_true (by omega)
    have e2 : t = s 11 0 2 := by omega
    rw [r160_21]
    simp only [r160_23, r160_24, r160_27, r160_30, r160_31, r160_34, r160_36, r160_37, r160_40, r160_42, r160_43, r160_46, r160_48, r160_49, r160_52, r160_54, r160_55, r160_56, r160_59, r160_61, r160_62, r160_63, r160_66, r160_68, r160_71, e1, foldI, zclr_I, zclr_R, zclr_L, zclr_U, reduceIte, Int.reduceEq, Int.reduceLT, Int.reduceLE, Int.reduceNeg, not_true_eq_false, not_false_eq_true, or_true, true_or, or_false, false_or, and_true, true_and, and_false, false_and, z01_or]
    rw [e2]
  | succ k ih =>
    intro x t F hx h0 h1
    have e1 : (s 11 0 2 ≤ t) = False := eq_false (by omega)
    have b1 : (0 ≤ t ∧ t < 6) = True := eq_true (by omega)
    have w1 : w32 (t + 1) = t + 1 := w32_id (by omega) (by omega)
    have ef : foldI (stL s h b) x t (k + 1) = foldI (stL s h b) (stL s h b x t) (t + 1) k := rfl
    have i2 := (stL_s hW h b x t hx).1
    obtain ⟨y1, y2⟩ := hW.1 t h0 (by omega)
    rw [r160_21, ef]
    by_cases hz : s 93 0 t = 0
    · by_cases hy : t = b
      · have e3 : stL s h b x t = x := if_neg (fun z => z.2.2.2 hy)
        rw [e3]
        have hy := eq_true hy
        simp only [r160_23, r160_24, r160_27, r160_30, r160_31, r160_34, r160_36, r160_37, r160_40, r160_42, r160_43, r160_46, r160_48, r160_49, r160_52, r160_54, r160_55, r160_56, r160_59, r160_61, r160_62, r160_63, r160_66, r160_68, r160_71, e1, b1, hz, hy, w1, zak_40, zln_40, zak_41, zln_41, zak_42, zln_42, zak_43, zln_43, zak_44, zln_44, zak_45, zln_45, zak_46, zln_46, zak_47, zln_47, zak_48, zln_48, zak_49, zln_49, zak_50, zln_50, zak_51, zln_51, zak_52, zln_52, zak_53, zln_53, zak_54, zln_54, zak_55, zln_55, zak_73, zln_73, zak_74, zln_74, zak_75, zln_75, zak_76, zln_76, zak_77, zln_77, zak_78, zln_78, zak_79, zln_79, zak_80, zln_80, zak_81, zln_81, zak_82, zln_82, zak_83, zln_83, zak_84, zln_84, zak_85, zln_85, zak_86, zln_86, zak_87, zln_87, zak_88, zln_88, zak_89, zln_89, zak_90, zln_90, zak_91, zln_91, zak_92, zln_92, zak_93, zln_93, zak_94, zln_94, zak_95, zln_95, zak_96, zln_96, zak_97, zln_97, zak_98, zln_98, zak_99, zln_99, zak_100, zln_100, zak_101, zln_101, zak_102, zln_102, zak_103, zln_103, zak_104, zln_104, zak_105, zln_105, zak_108, zln_108, zak_109, zln_109, Nat.reduceLeDiff, zclr_I, zclr_R, zclr_L, zclr_U, reduceIte, Int.reduceEq, Int.reduceLT, Int.reduceLE, Int.reduceNeg, not_true_eq_false, not_false_eq_true, or_true, true_or, or_false, false_or, and_true, true_and, and_false, false_and, z01_or]
        exact ih _ (t + 1) F hx (by omega) (by omega)
      · have e3 : stL s h b x t = goE x (if h = 0 then s 88 0 t else s 89 0 t) (if h = 0 then s 89 0 t else s 88 0 t) := if_pos ⟨h0, by omega, hz, hy⟩
        simp only [r160_23, r160_24, r160_27, r160_30, r160_31, r160_34, r160_36, r160_37, r160_40, r160_42, r160_43, r160_46, r160_48, r160_49, r160_52, r160_54, r160_55, r160_56, r160_59, r160_61, r160_62, e1, b1, hz, hy, zak_40, zln_40, zak_41, zln_41, zak_42, zln_42, zak_43, zln_43, zak_44, zln_44, zak_45, zln_45, zak_46, zln_46, zak_47, zln_47, zak_48, zln_48, zak_49, zln_49, zak_50, zln_50, zak_51, zln_51, zak_52, zln_52, zak_53, zln_53, zak_54, zln_54, zak_55, zln_55, zak_73, zln_73, zak_74, zln_74, zak_75, zln_75, zak_76, zln_76, zak_77, zln_77, zak_78, zln_78, zak_79, zln_79, zak_80, zln_80, zak_81, zln_81, zak_82, zln_82, zak_83, zln_83, zak_84, zln_84, zak_85, zln_85, zak_86, zln_86, zak_87, zln_87, zak_88, zln_88, zak_89, zln_89, zak_90, zln_90, zak_91, zln_91, zak_92, zln_92, zak_93, zln_93, zak_94, zln_94, zak_95, zln_95, zak_96, zln_96, zak_97, zln_97, zak_98, zln_98, zak_99, zln_99, zak_100, zln_100, zak_101, zln_101, zak_102, zln_102, zak_103, zln_103, zak_104, zln_104, zak_105, zln_105, zak_108, zln_108, zak_109, zln_109, Nat.reduceLeDiff, zclr_I, zclr_R, zclr_L, zclr_U, reduceIte, Int.reduceEq, Int.reduceLT, Int.reduceLE, Int.reduceNeg, not_true_eq_false, not_false_eq_true, or_true, true_or, or_false, false_or, and_true, true_and, and_false, false_and, z01_or]
        rw [r160_63, k_goOn x _ _ h hx y1 y2, ← e3]
        simp only [r160_66, r160_68, r160_71, w1, zclr_I, zclr_R, zclr_L, zclr_U, reduceIte, Int.reduceEq, Int.reduceLT, Int.reduceLE, Int.reduceNeg, not_true_eq_false, not_false_eq_true, or_true, true_or, or_false, false_or, and_true, true_and, and_false, false_and, z01_or]
        exact ih _ (t + 1) F i2 (by omega) (by omega)
    · have e3 : stL s h b x t = x := if_neg (fun z => hz z.2.2.1)
      rw [e3]
      simp only [r160_23, r160_24, r160_27, r160_30, r160_31, r160_34, r160_36, r160_37, r160_40, r160_42, r160_43, r160_46, r160_48, r160_49, r160_52, r160_54, r160_55, r160_56, r160_59, r160_61, r160_62, r160_63, r160_66, r160_68, r160_71, e1, b1, hz, w1, zak_40, zln_40, zak_41, zln_41, zak_42, zln_42, zak_43, zln_43, zak_44, zln_44, zak_45, zln_45, zak_46, zln_46, zak_47, zln_47, zak_48, zln_48, zak_49, zln_49, zak_50, zln_50, zak_51, zln_51, zak_52, zln_52, zak_53, zln_53, zak_54, zln_54, zak_55, zln_55, zak_73, zln_73, zak_74, zln_74, zak_75, zln_75, zak_76, zln_76, zak_77, zln_77, zak_78, zln_78, zak_79, zln_79, zak_80, zln_80, zak_81, zln_81, zak_82, zln_82, zak_83, zln_83, zak_84, zln_84, zak_85, zln_85, zak_86, zln_86, zak_87, zln_87, zak_88, zln_88, zak_89, zln_89, zak_90, zln_90, zak_91, zln_91, zak_92, zln_92, zak_93, zln_93, zak_94, zln_94, zak_95, zln_95, zak_96, zln_96, zak_97, zln_97, zak_98, zln_98, zak_99, zln_99, zak_100, zln_100, zak_101, zln_101, zak_102, zln_102, zak_103, zln_103, zak_104, zln_104, zak_105, zln_105, zak_108, zln_108, zak_109, zln_109, Nat.reduceLeDiff, zclr_I, zclr_R, zclr_L, zclr_U, reduceIte, Int.reduceEq, Int.reduceLT, Int.reduceLE, Int.reduceNeg, not_true_eq_false, not_false_eq_true, or_true, true_or, or_false, false_or, and_true, true_and, and_false, false_and, z01_or]
      exact ih _ (t + 1) F hx (by omega) (by omega)
theorem lp160b (hW : Wys s) (v h b r : Int) : ∀ (k : Nat) (x t : Int) (F : List zFr), In6 x → 0 ≤ t → t + k = s 11 0 3 → Ev ((160, 77, [zR 11 0, zI v, zI h, zI b, zI x, zI r, zI t], []) :: F) s Q = Ev ((160, 125, [zR 11 0, zI v, zI h, zI b, zI (foldI (stS s v h) x t k), zI r, zI (s 11 0 3)], []) :: F) s Q := by
  intro k
  have h70 := hW.2.2.2.1
  induction k with
  | zero =>
    intro x t F hx h0 h1
    have e1 : (s 11 0 3 ≤ t) = True := eq_true (by omega)
    have e2 : t = s 11 0 3 := by omega
    rw [r160_77]
    simp only [r160_79, r160_80, r160_83, r160_86, r160_87, r160_90, r160_92, r160_93, r160_94, r160_97, r160_99, r160_100, r160_103, r160_105, r160_106, r160_107, r160_110, r160_112, r160_113, r160_114, r160_117, r160_119, r160_122, e1, foldI, zclr_I, zclr_R, zclr_L, zclr_U, reduceIte, Int.reduceEq, Int.reduceLT, Int.reduceLE, Int.reduceNeg, not_true_eq_false, not_false_eq_true, or_true, true_or, or_false, false_or, and_true, true_and, and_false, false_and, z01_or]
    rw [e2]
  | succ k ih =>
    intro x t F hx h0 h1
    have e1 : (s 11 0 3 ≤ t) = False := eq_false (by omega)
    have b1 : (0 ≤ t ∧ t < 8) = True := eq_true (by omega)
    have w1 : w32 (t + 1) = t + 1 := w32_id (by omega) (by omega)
    have ef : foldI (stS s v h) x t (k + 1) = foldI (stS s v h) (stS s v h x t) (t + 1) k := rfl
    have i2 := (stS_s hW v h x t hx).1
    obtain ⟨y1, y2⟩ := hW.2.1 t h0 (by omega)
    rw [r160_77, ef]
    by_cases hz : s 92 0 t ≤ v
    · have z2 : (v < s 92 0 t) = False := eq_false (by omega)
      have e3 : stS s v h x t = goE x (if h = 0 then s 90 0 t else s 91 0 t) (if h = 0 then s 91 0 t else s 90 0 t) := if_pos ⟨h0, by omega, hz⟩
      simp only [r160_79, r160_80, r160_83, r160_86, r160_87, r160_90, r160_92, r160_93, r160_94, r160_97, r160_99, r160_100, r160_103, r160_105, r160_106, r160_107, r160_110, r160_112, r160_113, e1, b1, z2, zak_40, zln_40, zak_41, zln_41, zak_42, zln_42, zak_43, zln_43, zak_44, zln_44, zak_45, zln_45, zak_46, zln_46, zak_47, zln_47, zak_48, zln_48, zak_49, zln_49, zak_50, zln_50, zak_51, zln_51, zak_52, zln_52, zak_53, zln_53, zak_54, zln_54, zak_55, zln_55, zak_73, zln_73, zak_74, zln_74, zak_75, zln_75, zak_76, zln_76, zak_77, zln_77, zak_78, zln_78, zak_79, zln_79, zak_80, zln_80, zak_81, zln_81, zak_82, zln_82, zak_83, zln_83, zak_84, zln_84, zak_85, zln_85, zak_86, zln_86, zak_87, zln_87, zak_88, zln_88, zak_89, zln_89, zak_90, zln_90, zak_91, zln_91, zak_92, zln_92, zak_93, zln_93, zak_94, zln_94, zak_95, zln_95, zak_96, zln_96, zak_97, zln_97, zak_98, zln_98, zak_99, zln_99, zak_100, zln_100, zak_101, zln_101, zak_102, zln_102, zak_103, zln_103, zak_104, zln_104, zak_105, zln_105, zak_108, zln_108, zak_109, zln_109, Nat.reduceLeDiff, zclr_I, zclr_R, zclr_L, zclr_U, reduceIte, Int.reduceEq, Int.reduceLT, Int.reduceLE, Int.reduceNeg, not_true_eq_false, not_false_eq_true, or_true, true_or, or_false, false_or, and_true, true_and, and_false, false_and, z01_or]
      rw [r160_114, k_goOn x _ _ h hx y1 y2, ← e3]
      simp only [r160_117, r160_119, r160_122, w1, zclr_I, zclr_R, zclr_L, zclr_U, reduceIte, Int.reduceEq, Int.reduceLT, Int.reduceLE, Int.reduceNeg, not_true_eq_false, not_false_eq_true, or_true, true_or, or_false, false_or, and_true, true_and, and_false, false_and, z01_or]
      exact ih _ (t + 1) F i2 (by omega) (by omega)
    · have z2 : (v < s 92 0 t) = True := eq_true (by omega)
      have e3 : stS s v h x t = x := if_neg (fun z => hz z.2.2)
      rw [e3]
      simp only [r160_79, r160_80, r160_83, r160_86, r160_87, r160_90, r160_92, r160_93, r160_94, r160_97, r160_99, r160_100, r160_103, r160_105, r160_106, r160_107, r160_110, r160_112, r160_113, r160_114, r160_117, r160_119, r160_122, e1, b1, z2, w1, zak_40, zln_40, zak_41, zln_41, zak_42, zln_42, zak_43, zln_43, zak_44, zln_44, zak_45, zln_45, zak_46, zln_46, zak_47, zln_47, zak_48, zln_48, zak_49, zln_49, zak_50, zln_50, zak_51, zln_51, zak_52, zln_52, zak_53, zln_53, zak_54, zln_54, zak_55, zln_55, zak_73, zln_73, zak_74, zln_74, zak_75, zln_75, zak_76, zln_76, zak_77, zln_77, zak_78, zln_78, zak_79, zln_79, zak_80, zln_80, zak_81, zln_81, zak_82, zln_82, zak_83, zln_83, zak_84, zln_84, zak_85, zln_85, zak_86, zln_86, zak_87, zln_87, zak_88, zln_88, zak_89, zln_89, zak_90, zln_90, zak_91, zln_91, zak_92, zln_92, zak_93, zln_93, zak_94, zln_94, zak_95, zln_95, zak_96, zln_96, zak_97, zln_97, zak_98, zln_98, zak_99, zln_99, zak_100, zln_100, zak_101, zln_101, zak_102, zln_102, zak_103, zln_103, zak_104, zln_104, zak_105, zln_105, zak_108, zln_108, zak_109, zln_109, Nat.reduceLeDiff, zclr_I, zclr_R, zclr_L, zclr_U, reduceIte, Int.reduceEq, Int.reduceLT, Int.reduceLE, Int.reduceNeg, not_true_eq_false, not_false_eq_true, or_true, true_or, or_false, false_or, and_true, true_and, and_false, false_and, z01_or]
      exact ih _ (t + 1) F hx (by omega) (by omega)
theorem rdM_i (hW : Wys s) (v h b x : Int) (hx : In6 x) : In6 (rdM s v h b x) := (fold_sub (fun x i => stS_s hW v h x i) (s 11 0 3).toNat _ 0 (fold_sub (fun x i => stL_s hW h b x i) (s 11 0 2).toNat x 0 hx).1).1
theorem lp160o (hW : Wys s) (v h b : Int) : ∀ (k : Nat) (x r : Int) (v6 : zV), In6 x → 0 ≤ r → r + k = 6 → Ev ((160, 11, [zR 11 0, zI v, zI h, zI b, zI x, zI r, v6], []) :: (m, pc, ls, st) :: fs) s Q = Ev ((m, pc, ls, zI (iterI (rdM s v h b) k x) :: st) :: fs) s Q := by
  intro k
  have h60 := hW.2.2.1
  have h70 := hW.2.2.2.1
  induction k with
  | zero =>
    intro x r v6 hx h0 h1
    have e1 : ((6 : Int) ≤ r) = True := eq_true (by omega)
    rw [r160_11]
    simp only [r160_13, r160_15, r160_18, r160_19, r160_131, r160_133, e1, iterI, zclr_I, zclr_R, zclr_L, zclr_U, reduceIte, Int.reduceEq, Int.reduceLT, Int.reduceLE, Int.reduceNeg, not_true_eq_false, not_false_eq_true, or_true, true_or, or_false, false_or, and_true, true_and, and_false, false_and, z01_or]
  | succ k ih =>
    intro x r v6 hx h0 h1
    have e1 : ((6 : Int) ≤ r) = False := eq_false (by omega)
    have w1 : w32 (r + 1) = r + 1 := w32_id (by omega) (by omega)
    rw [r160_11]
    simp only [r160_13, r160_15, r160_18, r160_19, e1, zclr_I, zclr_R, zclr_L, zclr_U, reduceIte, Int.reduceEq, Int.reduceLT, Int.reduceLE, Int.reduceNeg, not_true_eq_false, not_false_eq_true, or_true, true_or, or_false, false_or, and_true, true_and, and_false, false_and, z01_or]
    rw [lp160a hW v h b r (s 11 0 2).toNat x 0 _ hx (by omega) (by omega)]
    simp only [r160_74, r160_75, zclr_I, zclr_R, zclr_L, zclr_U, reduceIte, Int.reduceEq, Int.reduceLT, Int.reduceLE, Int.reduceNeg, not_true_eq_false, not_false_eq_true, or_true, true_or, or_false, false_or, and_true, true_and, and_false, false_and, z01_or]
    rw [lp160b hW v h b r (s 11 0 3).toNat _ 0 _ (fold_sub (fun x i => stL_s hW h b x i) (s 11 0 2).toNat x 0 hx).1 (by omega) (by omega)]
    simp only [r160_125, r160_128, w1, zclr_I, zclr_R, zclr_L, zclr_U, reduceIte, Int.reduceEq, Int.reduceLT, Int.reduceLE, Int.reduceNeg, not_true_eq_false, not_false_eq_true, or_true, true_or, or_false, false_or, and_true, true_and, and_false, false_and, z01_or]
    exact ih _ (r + 1) _ (rdM_i hW v h b x hx) (by omega) (by omega)
end
theorem Rnd_M {s : zS} (hW : Wys s) (v h b : Int) : Rnd (Edg s v h b) (rdM s v h b) := by
  intro x hx
  have hL := fold_sub (fun x i => stL_s hW h b x i) (s 11 0 2).toNat x 0 hx
  have hS := fold_sub (fun x i => stS_s hW v h x i) (s 11 0 3).toNat _ 0 hL.1
  refine ⟨hS.1, fun p p0 hp => hS.2.1 p p0 (hL.2.1 p p0 hp), fun z hz hs => ?_, fun e => ?_⟩
  · refine fold_pre2 (fun y i hy => (stS_s hW v h y i hy).1) (fun y i i0 hyb hy => ?_) (s 11 0 3).toNat _ 0 (by omega) hL.1 (fold_pre2 (fun y i hy => (stL_s hW h b y i hy).1) (fun y i i0 hyb hy => ?_) (s 11 0 2).toNat x 0 (by omega) hx hs)
    · unfold stS
      by_cases hc : 0 ≤ i ∧ i < s 11 0 3 ∧ s 92 0 i ≤ v
      · rw [if_pos hc]
        obtain ⟨y1, y2⟩ := hW.2.1 i hc.1 hc.2.1
        have r := if_r (h := h) y2 y1
        have r2 := if_r (h := h) y1 y2
        intro p p0 hp
        rw [(goE_s hyb r.1 r.2).2 p p0] at hp
        rcases hp with hp | ⟨hp1, hp2⟩
        · exact hy p p0 hp
        · exact hz _ p r2.1 (hy _ r2.1 hp1) (Or.inr ⟨i, hc.1, hc.2.1, hc.2.2, rfl, hp2⟩)
      · rw [if_neg hc]; exact hy
    · unfold stL
      by_cases hc : 0 ≤ i ∧ i < s 11 0 2 ∧ s 93 0 i = 0 ∧ ¬ i = b
      · rw [if_pos hc]
        obtain ⟨y1, y2⟩ := hW.1 i hc.1 hc.2.1
        have r := if_r (h := h) y2 y1
        have r2 := if_r (h := h) y1 y2
        intro p p0 hp
        rw [(goE_s hyb r.1 r.2).2 p p0] at hp
        rcases hp with hp | ⟨hp1, hp2⟩
        · exact hy p p0 hp
        · exact hz _ p r2.1 (hy _ r2.1 hp1) (Or.inl ⟨i, hc.1, hc.2.1, hc.2.2.1, hc.2.2.2, rfl, hp2⟩)
      · rw [if_neg hc]; exact hy
  · have eL : foldI (stL s h b) x 0 (s 11 0 2).toNat = x := by
      refine Sub6_eq hL.1 hx (fun p p0 hp => ?_) hL.2.1
      have := hS.2.1 p p0 hp
      rw [show foldI (stS s v h) (foldI (stL s h b) x 0 (s 11 0 2).toNat) 0 (s 11 0 3).toNat = x from e] at this
      exact this
    have eS : foldI (stS s v h) (foldI (stL s h b) x 0 (s 11 0 2).toNat) 0 (s 11 0 3).toNat = foldI (stL s h b) x 0 (s 11 0 2).toNat := Eq.trans e eL.symm
    have fL := hL.2.2 eL
    have fS := hS.2.2 eS
    rw [eL] at fS
    intro p q p0 hp he
    have h60 := hW.2.2.1
    have h70 := hW.2.2.2.1
    rcases he with ⟨l, l0, l1, l2, l3, l4, l5⟩ | ⟨l, l0, l1, l2, l4, l5⟩
    · obtain ⟨y1, y2⟩ := hW.1 l l0 l1
      have r := if_r (h := h) y2 y1
      have := fL l l0 (by omega)
      unfold stL at this
      rw [if_pos ⟨l0, l1, l2, l3⟩] at this
      have o := ((goE_s (a := if h = 0 then s 88 0 l else s 89 0 l) hx r.1 r.2).2 q (by rw [l5]; exact r.1)).mpr (Or.inr ⟨by rw [← l4]; exact hp, l5⟩)
      rw [this] at o
      exact o
    · obtain ⟨y1, y2⟩ := hW.2.1 l l0 l1
      have r := if_r (h := h) y2 y1
      have := fS l l0 (by omega)
      unfold stS at this
      rw [if_pos ⟨l0, l1, l2⟩] at this
      have o := ((goE_s (a := if h = 0 then s 90 0 l else s 91 0 l) hx r.1 r.2).2 q (by rw [l5]; exact r.1)).mpr (Or.inr ⟨by rw [← l4]; exact hp, l5⟩)
      rw [this] at o
      exact o
theorem Edg_r {s : zS} (hW : Wys s) {v h b p q : Int} (he : Edg s v h b p q) : 0 ≤ q ∧ q < 6 := by
  rcases he with ⟨l, l0, l1, l2, l3, l4, l5⟩ | ⟨l, l0, l1, l2, l4, l5⟩
  · obtain ⟨y1, y2⟩ := hW.1 l l0 l1
    rw [l5]; exact if_r y2 y1
  · obtain ⟨y1, y2⟩ := hW.2.1 l l0 l1
    rw [l5]; exact if_r y2 y1
theorem k_reachM {s : zS} (hW : Wys s) (v h b r : Int) (hr : Clo (Edg s v h b) (s 11 0 10) r) (m pc : Nat) (ls st : List zV) (fs : List zFr) (Q : List zV → zS → Prop) : Ev ((160, 0, [zR 11 0, zI v, zI h, zI b, zU, zU, zU], []) :: (m, pc, ls, st) :: fs) s Q = Ev ((m, pc, ls, zI r :: st) :: fs) s Q := by
  have h100 := hW.2.2.2.2
  have hc : Clo (Edg s v h b) (s 11 0 10) (iterI (rdM s v h b) 6 (zshl 1 (s 11 0 10))) := Rnd_clo (Rnd_M hW v h b) (fun p q he => Edg_r hW he) h100.1 (by omega) 6 (by omega)
  rw [Clo_u hr hc]
  simp only [r160_0, r160_1, r160_2, r160_5, r160_6, r160_8, r160_9, zclr_I, zclr_R, zclr_L, zclr_U, reduceIte, Int.reduceEq, Int.reduceLT, Int.reduceLE, Int.reduceNeg, not_true_eq_false, not_false_eq_true, or_true, true_or, or_false, false_or, and_true, true_and, and_false, false_and, z01_or]
  exact lp160o hW v h b 6 _ 0 _ (sh_6 h100.1 (by omega)).1 (by omega) (by omega)
theorem Wys_I {L : Nat} {s : zS} (hs : Inv L s) : Wys s := by
  obtain ⟨h1, h2, h3, h4, h5, h6, h7, h8, h9, h10, h11, h12, h13, h14, h15, h16, h17, h18, h19⟩ := hs
  refine ⟨fun l l0 l1 => ?_, fun l l0 l1 => ?_, h6.2, h7.2, h10.2⟩
  · have := h17.1 l l0 l1; omega
  · have := h18.1 l l0 l1; omega

/-! the class's reach -/
def exS (s : zS) (p : Int) : Int := if 0 ≤ p ∧ p < 6 then s 50 0 p else 0
def swC (s : zS) (x p : Int) : Int := if tb x p = true then zor x (exS s p) else x
section
variable {m pc : Nat} {ls st : List zV} {fs : List zFr} {s : zS} {Q : List zV → zS → Prop}
theorem lp25i (r : Int) (hx : ∀ p : Int, In6 (exS s p)) : ∀ (k : Nat) (x t : Int) (F : List zFr), In6 x → 0 ≤ t → t + k = 6 → Ev ((25, 17, [zR 3 0, zI x, zI r, zI t], []) :: F) s Q = Ev ((25, 46, [zR 3 0, zI (foldI (swC s) x t k), zI r, zI 6], []) :: F) s Q := by
  intro k
  induction k with
  | zero =>
    intro x t F h h0 h1
    have e1 : ((6 : Int) ≤ t) = True := eq_true (by omega)
    have e2 : t = 6 := by omega
    rw [r25_17]
    simp only [r25_18, r25_20, r25_23, r25_24, r25_25, r25_28, r25_31, r25_32, r25_33, r25_36, r25_37, r25_38, r25_39, r25_40, r25_43, e1, foldI, zclr_I, zclr_R, zclr_L, zclr_U, reduceIte, Int.reduceEq, Int.reduceLT, Int.reduceLE, Int.reduceNeg, not_true_eq_false, not_false_eq_true, or_true, true_or, or_false, false_or, and_true, true_and, and_false, false_and, z01_or]
    rw [e2]
  | succ k ih =>
    intro x t F h h0 h1
    have e1 : ((6 : Int) ≤ t) = False := eq_false (by omega)
    have b1 : (0 ≤ t ∧ t < 6) = True := eq_true (by omega)
    have w1 : w32 (t + 1) = t + 1 := w32_id (by omega) (by omega)
    have c3 := has_c h.1 (show x < 1024 by have := h.2; omega) h0 (show t < 10 by omega)
    have ef : foldI (swC s) x t (k + 1) = foldI (swC s) (swC s x t) (t + 1) k := rfl
    rw [r25_17, ef]
    by_cases hz : tb x t = true
    · have q : hb x t = 1 := if_pos hz
      have e2 : swC s x t = zor x (s 50 0 t) := by unfold swC exS; rw [if_pos hz, if_pos (by omega)]
      have e3 : exS s t = s 50 0 t := if_pos (by omega)
      have i2 : In6 (zor x (s 50 0 t)) := by rw [← e3]; exact (or_6 h (hx t)).1
      rw [e2]
      simp only [r25_18, r25_20, r25_23, r25_24, r25_25, r25_28, r25_31, r25_32, r25_33, r25_36, r25_37, r25_38, r25_39, r25_40, r25_43, k_has, e1, b1, c3, q, w1, zak_40, zln_40, zak_41, zln_41, zak_42, zln_42, zak_43, zln_43, zak_44, zln_44, zak_45, zln_45, zak_46, zln_46, zak_47, zln_47, zak_48, zln_48, zak_49, zln_49, zak_50, zln_50, zak_51, zln_51, zak_52, zln_52, zak_53, zln_53, zak_54, zln_54, zak_55, zln_55, zak_73, zln_73, zak_74, zln_74, zak_75, zln_75, zak_76, zln_76, zak_77, zln_77, zak_78, zln_78, zak_79, zln_79, zak_80, zln_80, zak_81, zln_81, zak_82, zln_82, zak_83, zln_83, zak_84, zln_84, zak_85, zln_85, zak_86, zln_86, zak_87, zln_87, zak_88, zln_88, zak_89, zln_89, zak_90, zln_90, zak_91, zln_91, zak_92, zln_92, zak_93, zln_93, zak_94, zln_94, zak_95, zln_95, zak_96, zln_96, zak_97, zln_97, zak_98, zln_98, zak_99, zln_99, zak_100, zln_100, zak_101, zln_101, zak_102, zln_102, zak_103, zln_103, zak_104, zln_104, zak_105, zln_105, zak_108, zln_108, zak_109, zln_109, Nat.reduceLeDiff, zclr_I, zclr_R, zclr_L, zclr_U, reduceIte, Int.reduceEq, Int.reduceLT, Int.reduceLE, Int.reduceNeg, not_true_eq_false, not_false_eq_true, or_true, true_or, or_false, false_or, and_true, true_and, and_false, false_and, z01_or]
      exact ih _ (t + 1) F i2 (by omega) (by omega)
    · have q : hb x t = 0 := if_neg hz
      have e2 : swC s x t = x := if_neg hz
      rw [e2]
      simp only [r25_18, r25_20, r25_23, r25_24, r25_25, r25_28, r25_31, r25_32, r25_33, r25_36, r25_37, r25_38, r25_39, r25_40, r25_43, k_has, e1, c3, q, w1, zak_40, zln_40, zak_41, zln_41, zak_42, zln_42, zak_43, zln_43, zak_44, zln_44, zak_45, zln_45, zak_46, zln_46, zak_47, zln_47, zak_48, zln_48, zak_49, zln_49, zak_50, zln_50, zak_51, zln_51, zak_52, zln_52, zak_53, zln_53, zak_54, zln_54, zak_55, zln_55, zak_73, zln_73, zak_74, zln_74, zak_75, zln_75, zak_76, zln_76, zak_77, zln_77, zak_78, zln_78, zak_79, zln_79, zak_80, zln_80, zak_81, zln_81, zak_82, zln_82, zak_83, zln_83, zak_84, zln_84, zak_85, zln_85, zak_86, zln_86, zak_87, zln_87, zak_88, zln_88, zak_89, zln_89, zak_90, zln_90, zak_91, zln_91, zak_92, zln_92, zak_93, zln_93, zak_94, zln_94, zak_95, zln_95, zak_96, zln_96, zak_97, zln_97, zak_98, zln_98, zak_99, zln_99, zak_100, zln_100, zak_101, zln_101, zak_102, zln_102, zak_103, zln_103, zak_104, zln_104, zak_105, zln_105, zak_108, zln_108, zak_109, zln_109, Nat.reduceLeDiff, zclr_I, zclr_R, zclr_L, zclr_U, reduceIte, Int.reduceEq, Int.reduceLT, Int.reduceLE, Int.reduceNeg, not_true_eq_false, not_false_eq_true, or_true, true_or, or_false, false_or, and_true, true_and, and_false, false_and, z01_or]
      exact ih _ (t + 1) F h (by omega) (by omega)
theorem swC_s (hx : ∀ p : Int, In6 (exS s p)) (x i : Int) (h : In6 x) : In6 (swC s x i) ∧ Sub6 x (swC s x i) := by
  unfold swC
  by_cases hz : tb x i = true
  · rw [if_pos hz]
    obtain ⟨a, b⟩ := or_6 h (hx i)
    exact ⟨a, fun p p0 hp => (b p p0).mpr (Or.inl hp)⟩
  · rw [if_neg hz]; exact ⟨h, fun p _ hp => hp⟩
theorem lp25o (hx : ∀ p : Int, In6 (exS s p)) : ∀ (k : Nat) (x r : Int) (v : zV), In6 x → 1 ≤ r → r + k = 6 → Ev ((25, 9, [zR 3 0, zI x, zI r, v], []) :: (m, pc, ls, st) :: fs) s Q = Ev ((m, pc, ls, zI (iterI (fun x => foldI (swC s) x 0 6) k x) :: st) :: fs) s Q := by
  intro k
  induction k with
  | zero =>
    intro x r v h h0 h1
    have e1 : ((6 : Int) ≤ r) = True := eq_true (by omega)
    rw [r25_9]
    simp only [r25_10, r25_12, r25_15, r25_16, r25_52, r25_53, e1, iterI, zclr_I, zclr_R, zclr_L, zclr_U, reduceIte, Int.reduceEq, Int.reduceLT, Int.reduceLE, Int.reduceNeg, not_true_eq_false, not_false_eq_true, or_true, true_or, or_false, false_or, and_true, true_and, and_false, false_and, z01_or]
  | succ k ih =>
    intro x r v h h0 h1
    have e1 : ((6 : Int) ≤ r) = False := eq_false (by omega)
    have w1 : w32 (r + 1) = r + 1 := w32_id (by omega) (by omega)
    rw [r25_9]
    simp only [r25_10, r25_12, r25_15, r25_16, e1, zclr_I, zclr_R, zclr_L, zclr_U, reduceIte, Int.reduceEq, Int.reduceLT, Int.reduceLE, Int.reduceNeg, not_true_eq_false, not_false_eq_true, or_true, true_or, or_false, false_or, and_true, true_and, and_false, false_and, z01_or]
    rw [lp25i r hx 6 x 0 _ h (by omega) (by omega)]
    simp only [r25_46, r25_49, w1, zclr_I, zclr_R, zclr_L, zclr_U, reduceIte, Int.reduceEq, Int.reduceLT, Int.reduceLE, Int.reduceNeg, not_true_eq_false, not_false_eq_true, or_true, true_or, or_false, false_or, and_true, true_and, and_false, false_and, z01_or]
    exact ih _ (r + 1) _ (fold_sub (swC_s hx) 6 x 0 h).1 (by omega) (by omega)
theorem k_flood (hx : ∀ p : Int, In6 (exS s p)) (hm : 0 ≤ s 3 0 4 ∧ s 3 0 4 < 6) : Ev ((25, 0, [zR 3 0, zU, zU, zU], []) :: (m, pc, ls, st) :: fs) s Q = Ev ((m, pc, ls, zI (iterI (fun x => foldI (swC s) x 0 6) 5 (zshl 1 (s 3 0 4))) :: st) :: fs) s Q := by
  simp only [r25_0, r25_1, r25_2, r25_5, r25_6, r25_7, r25_8, zclr_I, zclr_R, zclr_L, zclr_U, reduceIte, Int.reduceEq, Int.reduceLT, Int.reduceLE, Int.reduceNeg, not_true_eq_false, not_false_eq_true, or_true, true_or, or_false, false_or, and_true, true_and, and_false, false_and, z01_or]
  exact lp25o hx 5 _ 1 _ (sh_6 hm.1 hm.2).1 (by omega) (by omega)
theorem fold_pre2 {st : Int → Int → Int} {z : Int} (hs : ∀ x i : Int, In6 x → In6 (st x i)) (hz : ∀ x i : Int, 0 ≤ i → In6 x → Sub6 x z → Sub6 (st x i) z) : ∀ (k : Nat) (x t : Int), 0 ≤ t → In6 x → Sub6 x z → Sub6 (foldI st x t k) z := by
  intro k
  induction k with
  | zero => intro x t _ _ h; exact h
  | succ k ih => intro x t t0 hx h; exact ih (st x t) (t + 1) (by omega) (hs x t hx) (hz x t t0 hx h)
theorem Rnd_C (hx : ∀ p : Int, In6 (exS s p)) : Rnd (fun p q => 0 ≤ q ∧ bi (exS s p) q) (fun x => foldI (swC s) x 0 6) := by
  intro x h
  obtain ⟨a1, a2, a3⟩ := fold_sub (swC_s hx) 6 x 0 h
  refine ⟨a1, a2, fun z hz hs => ?_, fun e p q p0 hp he => ?_⟩
  · refine fold_pre2 (fun y i hy => (swC_s hx y i hy).1) (fun y i i0 hyb hy => ?_) 6 x 0 (by omega) h hs
    unfold swC
    by_cases hc : tb y i = true
    · rw [if_pos hc]
      intro p p0 hp
      exact (((or_6 hyb (hx i)).2 p p0).mp hp).elim (hy p p0) (fun he => hz i p i0 (hy i i0 hc) ⟨p0, he⟩)
    · rw [if_neg hc]; exact hy
  · have hi := In6_bi h p0 hp
    have := a3 e p p0 (by omega)
    unfold swC at this
    rw [if_pos (show tb x p = true from hp)] at this
    have o := ((or_6 h (hx p)).2 q he.1).mpr (Or.inr he.2)
    rw [this] at o
    exact o
end
/-- one can go from p to q -/
def Edg (s : zS) (v h b p q : Int) : Prop := (∃ l : Int, 0 ≤ l ∧ l < s 11 0 2 ∧ s 93 0 l = 0 ∧ ¬ l = b ∧ p = (if h = 0 then s 88 0 l else s 89 0 l) ∧ q = (if h = 0 then s 89 0 l else s 88 0 l)) ∨ (∃ l : Int, 0 ≤ l ∧ l < s 11 0 3 ∧ s 92 0 l ≤ v ∧ p = (if h = 0 then s 90 0 l else s 91 0 l) ∧ q = (if h = 0 then s 91 0 l else s 90 0 l))
section
variable {m pc : Nat} {ls st : List zV} {fs : List zFr} {s : zS} {Q : List zV → zS → Prop}
theorem k_openL (l v : Int) : Ev ((70, 0, [zR 9 l, zI v], []) :: (m, pc, ls, st) :: fs) s Q = Ev ((m, pc, ls, zI (z01 (s 9 l 3 = 0 ∧ s 9 l 2 ≤ v)) :: st) :: fs) s Q := by
  by_cases h1 : s 9 l 3 = 0
  · by_cases h2 : s 9 l 2 ≤ v
    · have e2 : (v < s 9 l 2) = False := eq_false (by omega)
      rw [z01_t ⟨h1, h2⟩]
      simp only [r70_0, r70_1, r70_1b, r70_4, r70_7, r70_8, r70_8b, r70_11, r70_12, r70_15, r70_16, r70_19, r70_20, h1, e2, zclr_I, zclr_R, zclr_L, zclr_U, reduceIte, Int.reduceEq, Int.reduceLT, Int.reduceLE, Int.reduceNeg, not_true_eq_false, not_false_eq_true, or_true, true_or, or_false, false_or, and_true, true_and, and_false, false_and, z01_or]
    · have e2 : (v < s 9 l 2) = True := eq_true (by omega)
      rw [z01_f (fun z => h2 z.2)]
      simp only [r70_0, r70_1, r70_1b, r70_4, r70_7, r70_8, r70_8b, r70_11, r70_12, r70_15, r70_16, r70_19, r70_20, h1, e2, zclr_I, zclr_R, zclr_L, zclr_U, reduceIte, Int.reduceEq, Int.reduceLT, Int.reduceLE, Int.reduceNeg, not_true_eq_false, not_false_eq_true, or_true, true_or, or_false, false_or, and_true, true_and, and_false, false_and, z01_or]
  · rw [z01_f (fun z => h1 z.1)]
    simp only [r70_0, r70_1, r70_1b, r70_4, r70_7, r70_8, r70_8b, r70_11, r70_12, r70_15, r70_16, r70_19, r70_20, h1, zclr_I, zclr_R, zclr_L, zclr_U, reduceIte, Int.reduceEq, Int.reduceLT, Int.reduceLE, Int.reduceNeg, not_true_eq_false, not_false_eq_true, or_true, true_or, or_false, false_or, and_true, true_and, and_false, false_and, z01_or]
theorem k_openS (l v : Int) : Ev ((70, 0, [zR 12 l, zI v], []) :: (m, pc, ls, st) :: fs) s Q = Ev ((m, pc, ls, zI (z01 (s 12 l 3 = 0 ∧ s 12 l 2 ≤ v)) :: st) :: fs) s Q := by
  by_cases h1 : s 12 l 3 = 0
  · by_cases h2 : s 12 l 2 ≤ v
    · have e2 : (v < s 12 l 2) = False := eq_false (by omega)
      rw [z01_t ⟨h1, h2⟩]
      simp only [r70_0, r70_1, r70_1b, r70_4, r70_7, r70_8, r70_8b, r70_11, r70_12, r70_15, r70_16, r70_19, r70_20, h1, e2, zclr_I, zclr_R, zclr_L, zclr_U, reduceIte, Int.reduceEq, Int.reduceLT, Int.reduceLE, Int.reduceNeg, not_true_eq_false, not_false_eq_true, or_true, true_or, or_false, false_or, and_true, true_and, and_false, false_and, z01_or]
    · have e2 : (v < s 12 l 2) = True := eq_true (by omega)
      rw [z01_f (fun z => h2 z.2)]
      simp only [r70_0, r70_1, r70_1b, r70_4, r70_7, r70_8, r70_8b, r70_11, r70_12, r70_15, r70_16, r70_19, r70_20, h1, e2, zclr_I, zclr_R, zclr_L, zclr_U, reduceIte, Int.reduceEq, Int.reduceLT, Int.reduceLE, Int.reduceNeg, not_true_eq_false, not_false_eq_true, or_true, true_or, or_false, false_or, and_true, true_and, and_false, false_and, z01_or]
  · rw [z01_f (fun z => h1 z.1)]
    simp only [r70_0, r70_1, r70_1b, r70_4, r70_7, r70_8, r70_8b, r70_11, r70_12, r70_15, r70_16, r70_19, r70_20, h1, zclr_I, zclr_R, zclr_L, zclr_U, reduceIte, Int.reduceEq, Int.reduceLT, Int.reduceLE, Int.reduceNeg, not_true_eq_false, not_false_eq_true, or_true, true_or, or_false, false_or, and_true, true_and, and_false, false_and, z01_or]
theorem k_joinL (l h a b : Int) (ha : a = (if h = 0 then s 9 l 0 else s 9 l 1)) (hbb : b = (if h = 0 then s 9 l 1 else s 9 l 0)) (a0 : 0 ≤ a ∧ a < 6) : Ev ((24, 0, [zR 3 0, zR 9 l, zI h, zU, zU], []) :: (m, pc, ls, st) :: fs) s Q = Ev ((m, pc, ls, st) :: fs) (zup s 50 0 a (zor (s 50 0 a) (zshl 1 b))) Q := by
  have b1 : (0 ≤ a ∧ a < 6) = True := eq_true a0
  by_cases hh : h = 0
  · rw [if_pos hh] at ha hbb
    rw [ha] at b1
    rw [ha, hbb]
    simp only [r24_0, r24_1, r24_4, r24_5, r24_5b, r24_8, r24_11, r24_12, r24_12b, r24_15, r24_16, r24_17, r24_20, r24_21, r24_21b, r24_24, r24_27, r24_28, r24_28b, r24_31, r24_33, r24_34, r24_36, r24_39, r24_42, r24_43, r24_46, r24_47, r24_48, r24_49, r24_50, r24_52, r24_53, r24_54, r24_55, k_isBelow, z01_True, hh, b1, zak_40, zln_40, zak_41, zln_41, zak_42, zln_42, zak_43, zln_43, zak_44, zln_44, zak_45, zln_45, zak_46, zln_46, zak_47, zln_47, zak_48, zln_48, zak_49, zln_49, zak_50, zln_50, zak_51, zln_51, zak_52, zln_52, zak_53, zln_53, zak_54, zln_54, zak_55, zln_55, zak_73, zln_73, zak_74, zln_74, zak_75, zln_75, zak_76, zln_76, zak_77, zln_77, zak_78, zln_78, zak_79, zln_79, zak_80, zln_80, zak_81, zln_81, zak_82, zln_82, zak_83, zln_83, zak_84, zln_84, zak_85, zln_85, zak_86, zln_86, zak_87, zln_87, zak_88, zln_88, zak_89, zln_89, zak_90, zln_90, zak_91, zln_91, zak_92, zln_92, zak_93, zln_93, zak_94, zln_94, zak_95, zln_95, zak_96, zln_96, zak_97, zln_97, zak_98, zln_98, zak_99, zln_99, zak_100, zln_100, zak_101, zln_101, zak_102, zln_102, zak_103, zln_103, zak_104, zln_104, zak_105, zln_105, zak_108, zln_108, zak_109, zln_109, Nat.reduceLeDiff, zclr_I, zclr_R, zclr_L, zclr_U, reduceIte, Int.reduceEq, Int.reduceLT, Int.reduceLE, Int.reduceNeg, not_true_eq_false, not_false_eq_true, or_true, true_or, or_false, false_or, and_true, true_and, and_false, false_and, z01_or]
  · rw [if_neg hh] at ha hbb
    rw [ha] at b1
    rw [ha, hbb]
    simp only [r24_0, r24_1, r24_4, r24_5, r24_5b, r24_8, r24_11, r24_12, r24_12b, r24_15, r24_16, r24_17, r24_20, r24_21, r24_21b, r24_24, r24_27, r24_28, r24_28b, r24_31, r24_33, r24_34, r24_36, r24_39, r24_42, r24_43, r24_46, r24_47, r24_48, r24_49, r24_50, r24_52, r24_53, r24_54, r24_55, k_isBelow, z01_True, hh, b1, zak_40, zln_40, zak_41, zln_41, zak_42, zln_42, zak_43, zln_43, zak_44, zln_44, zak_45, zln_45, zak_46, zln_46, zak_47, zln_47, zak_48, zln_48, zak_49, zln_49, zak_50, zln_50, zak_51, zln_51, zak_52, zln_52, zak_53, zln_53, zak_54, zln_54, zak_55, zln_55, zak_73, zln_73, zak_74, zln_74, zak_75, zln_75, zak_76, zln_76, zak_77, zln_77, zak_78, zln_78, zak_79, zln_79, zak_80, zln_80, zak_81, zln_81, zak_82, zln_82, zak_83, zln_83, zak_84, zln_84, zak_85, zln_85, zak_86, zln_86, zak_87, zln_87, zak_88, zln_88, zak_89, zln_89, zak_90, zln_90, zak_91, zln_91, zak_92, zln_92, zak_93, zln_93, zak_94, zln_94, zak_95, zln_95, zak_96, zln_96, zak_97, zln_97, zak_98, zln_98, zak_99, zln_99, zak_100, zln_100, zak_101, zln_101, zak_102, zln_102, zak_103, zln_103, zak_104, zln_104, zak_105, zln_105, zak_108, zln_108, zak_109, zln_109, Nat.reduceLeDiff, zclr_I, zclr_R, zclr_L, zclr_U, reduceIte, Int.reduceEq, Int.reduceLT, Int.reduceLE, Int.reduceNeg, not_true_eq_false, not_false_eq_true, or_true, true_or, or_false, false_or, and_true, true_and, and_false, false_and, z01_or]
theorem k_joinS (l h a b : Int) (ha : a = (if h = 0 then s 12 l 0 else s 12 l 1)) (hbb : b = (if h = 0 then s 12 l 1 else s 12 l 0)) (a0 : 0 ≤ a ∧ a < 6) : Ev ((24, 0, [zR 3 0, zR 12 l, zI h, zU, zU], []) :: (m, pc, ls, st) :: fs) s Q = Ev ((m, pc, ls, st) :: fs) (zup s 50 0 a (zor (s 50 0 a) (zshl 1 b))) Q := by
  have b1 : (0 ≤ a ∧ a < 6) = True := eq_true a0
  by_cases hh : h = 0
  · rw [if_pos hh] at ha hbb
    rw [ha] at b1
    rw [ha, hbb]
    simp only [r24_0, r24_1, r24_4, r24_5, r24_5b, r24_8, r24_11, r24_12, r24_12b, r24_15, r24_16, r24_17, r24_20, r24_21, r24_21b, r24_24, r24_27, r24_28, r24_28b, r24_31, r24_33, r24_34, r24_36, r24_39, r24_42, r24_43, r24_46, r24_47, r24_48, r24_49, r24_50, r24_52, r24_53, r24_54, r24_55, k_isBelow, z01_True, hh, b1, zak_40, zln_40, zak_41, zln_41, zak_42, zln_42, zak_43, zln_43, zak_44, zln_44, zak_45, zln_45, zak_46, zln_46, zak_47, zln_47, zak_48, zln_48, zak_49, zln_49, zak_50, zln_50, zak_51, zln_51, zak_52, zln_52, zak_53, zln_53, zak_54, zln_54, zak_55, zln_55, zak_73, zln_73, zak_74, zln_74, zak_75, zln_75, zak_76, zln_76, zak_77, zln_77, zak_78, zln_78, zak_79, zln_79, zak_80, zln_80, zak_81, zln_81, zak_82, zln_82, zak_83, zln_83, zak_84, zln_84, zak_85, zln_85, zak_86, zln_86, zak_87, zln_87, zak_88, zln_88, zak_89, zln_89, zak_90, zln_90, zak_91, zln_91, zak_92, zln_92, zak_93, zln_93, zak_94, zln_94, zak_95, zln_95, zak_96, zln_96, zak_97, zln_97, zak_98, zln_98, zak_99, zln_99, zak_100, zln_100, zak_101, zln_101, zak_102, zln_102, zak_103, zln_103, zak_104, zln_104, zak_105, zln_105, zak_108, zln_108, zak_109, zln_109, Nat.reduceLeDiff, zclr_I, zclr_R, zclr_L, zclr_U, reduceIte, Int.reduceEq, Int.reduceLT, Int.reduceLE, Int.reduceNeg, not_true_eq_false, not_false_eq_true, or_true, true_or, or_false, false_or, and_true, true_and, and_false, false_and, z01_or]
  · rw [if_neg hh] at ha hbb
    rw [ha] at b1
    rw [ha, hbb]
    simp only [r24_0, r24_1, r24_4, r24_5, r24_5b, r24_8, r24_11, r24_12, r24_12b, r24_15, r24_16, r24_17, r24_20, r24_21, r24_21b, r24_24, r24_27, r24_28, r24_28b, r24_31, r24_33, r24_34, r24_36, r24_39, r24_42, r24_43, r24_46, r24_47, r24_48, r24_49, r24_50, r24_52, r24_53, r24_54, r24_55, k_isBelow, z01_True, hh, b1, zak_40, zln_40, zak_41, zln_41, zak_42, zln_42, zak_43, zln_43, zak_44, zln_44, zak_45, zln_45, zak_46, zln_46, zak_47, zln_47, zak_48, zln_48, zak_49, zln_49, zak_50, zln_50, zak_51, zln_51, zak_52, zln_52, zak_53, zln_53, zak_54, zln_54, zak_55, zln_55, zak_73, zln_73, zak_74, zln_74, zak_75, zln_75, zak_76, zln_76, zak_77, zln_77, zak_78, zln_78, zak_79, zln_79, zak_80, zln_80, zak_81, zln_81, zak_82, zln_82, zak_83, zln_83, zak_84, zln_84, zak_85, zln_85, zak_86, zln_86, zak_87, zln_87, zak_88, zln_88, zak_89, zln_89, zak_90, zln_90, zak_91, zln_91, zak_92, zln_92, zak_93, zln_93, zak_94, zln_94, zak_95, zln_95, zak_96, zln_96, zak_97, zln_97, zak_98, zln_98, zak_99, zln_99, zak_100, zln_100, zak_101, zln_101, zak_102, zln_102, zak_103, zln_103, zak_104, zln_104, zak_105, zln_105, zak_108, zln_108, zak_109, zln_109, Nat.reduceLeDiff, zclr_I, zclr_R, zclr_L, zclr_U, reduceIte, Int.reduceEq, Int.reduceLT, Int.reduceLE, Int.reduceNeg, not_true_eq_false, not_false_eq_true, or_true, true_or, or_false, false_or, and_true, true_and, and_false, false_and, z01_or]
end

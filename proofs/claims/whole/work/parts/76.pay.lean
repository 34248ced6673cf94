/-! the reference's payOf, choiceOf -/
def badA (s : zS) (t x a : Int) : Bool := tb x a && (decide (¬ s 94 0 a = t) || decide (¬ suitM s a) || anyF (fun b => tb x b && decide (¬ apM s a b)) 0 a.toNat)
def payM (s : zS) (t x : Int) : Int := if anyF (badA s t x) 0 (s 11 0 4).toNat = true then -1 else payS (s 11 0 4) (fun i => s 97 0 i) x
section
variable {m pc : Nat} {ls st : List zV} {fs : List zFr} {s : zS} {Q : List zV → zS → Prop}
theorem lp177i (t x c a : Int) (x0 : 0 ≤ x) (x1 : x < 1024) (a0 : 0 ≤ a) (a1 : a < 10) : ∀ (k : Nat) (b : Int), 0 ≤ b → b + k = a → Ev ((177, 51, [zR 11 0, zI t, zI x, zI c, zI a, zI b], []) :: (m, pc, ls, st) :: fs) s Q = if anyF (fun b => tb x b && decide (¬ apM s a b)) b k = true then Ev ((m, pc, ls, zI (-1) :: st) :: fs) s Q else Ev ((177, 86, [zR 11 0, zI t, zI x, zI c, zI a, zI a], []) :: (m, pc, ls, st) :: fs) s Q := by
  intro k
  induction k with
  | zero =>
    intro b h0 h1
    have e1 : (a ≤ b) = True := eq_true (by omega)
    have e2 : b = a := by omega
    rw [r177_51, if_neg (fun z => by cases z)]
    simp only [r177_53, r177_55, r177_58, r177_59, r177_61, r177_64, r177_67, r177_68, r177_70, r177_72, r177_75, r177_78, r177_79, r177_80, r177_83, e1, zclr_I, zclr_R, zclr_L, zclr_U, reduceIte, Int.reduceEq, Int.reduceLT, Int.reduceLE, Int.reduceNeg, not_true_eq_false, not_false_eq_true, or_true, true_or, or_false, false_or, and_true, true_and, and_false, false_and, z01_or]
    rw [e2]
  | succ k ih =>
    intro b h0 h1
    have e1 : (a ≤ b) = False := eq_false (by omega)
    have w1 : w32 (b + 1) = b + 1 := w32_id (by omega) (by omega)
    have c3 := has_m x0 x1 h0 (show b < 10 by omega)
    have eA : anyF (fun b => tb x b && decide (¬ apM s a b)) b (k + 1) = ((tb x b && decide (¬ apM s a b)) || anyF (fun b => tb x b && decide (¬ apM s a b)) (b + 1) k) := rfl
    rw [r177_51, eA]
    by_cases hz : tb x b = true
    · have q : hb x b = 1 := if_pos hz
      simp only [r177_53, r177_55, r177_58, r177_59, r177_61, r177_64, r177_67, r177_68, r177_70, k_hasM, e1, c3, q, zclr_I, zclr_R, zclr_L, zclr_U, reduceIte, Int.reduceEq, Int.reduceLT, Int.reduceLE, Int.reduceNeg, not_true_eq_false, not_false_eq_true, or_true, true_or, or_false, false_or, and_true, true_and, and_false, false_and, z01_or]
      rw [r177_72, k_apart a b ⟨a0, a1⟩ (by omega)]
      by_cases hy : apM s a b
      · rw [z01_t hy, hz, decide_eq_false (fun z => z hy), Bool.true_and, Bool.false_or]
        simp only [r177_75, r177_78, r177_79, r177_80, r177_83, w1, zclr_I, zclr_R, zclr_L, zclr_U, reduceIte, Int.reduceEq, Int.reduceLT, Int.reduceLE, Int.reduceNeg, not_true_eq_false, not_false_eq_true, or_true, true_or, or_false, false_or, and_true, true_and, and_false, false_and, z01_or]
        exact ih (b + 1) (by omega) (by omega)
      · rw [z01_f hy, hz, decide_eq_true hy, if_pos (by rfl)]
        simp only [r177_75, r177_78, r177_79, r177_80, r177_83, w1, zclr_I, zclr_R, zclr_L, zclr_U, reduceIte, Int.reduceEq, Int.reduceLT, Int.reduceLE, Int.reduceNeg, not_true_eq_false, not_false_eq_true, or_true, true_or, or_false, false_or, and_true, true_and, and_false, false_and, z01_or]
    · have q : hb x b = 0 := if_neg hz
      rw [Bool.eq_false_iff.mpr hz, Bool.false_and, Bool.false_or]
      simp only [r177_53, r177_55, r177_58, r177_59, r177_61, r177_64, r177_67, r177_68, r177_70, r177_72, r177_75, r177_78, r177_79, r177_80, r177_83, k_hasM, e1, c3, q, w1, zclr_I, zclr_R, zclr_L, zclr_U, reduceIte, Int.reduceEq, Int.reduceLT, Int.reduceLE, Int.reduceNeg, not_true_eq_false, not_false_eq_true, or_true, true_or, or_false, false_or, and_true, true_and, and_false, false_and, z01_or]
      exact ih (b + 1) (by omega) (by omega)
theorem lp177 (t x : Int) (x0 : 0 ≤ x) (x1 : x < 1024) (hR : AskR s t) : ∀ (k : Nat) (a c : Int) (v5 : zV), 0 ≤ a → a + k = s 11 0 4 → 0 ≤ c → c ≤ 1000 * a → Ev ((177, 5, [zR 11 0, zI t, zI x, zI c, zI a, v5], []) :: (m, pc, ls, st) :: fs) s Q = Ev ((m, pc, ls, zI (if anyF (badA s t x) a k = true then -1 else c + sumF (fun j => if tb x j = true then s 97 0 j else 0) a k) :: st) :: fs) s Q := by
  obtain ⟨n1, n2, n3, hA⟩ := hR
  intro k
  induction k with
  | zero =>
    intro a c v5 h0 h1 c0 c1
    have e1 : (s 11 0 4 ≤ a) = True := eq_true (by omega)
    rw [r177_5, if_neg (fun z => by cases z)]
    simp only [r177_7, r177_8, r177_11, r177_102, r177_103, e1, sumF, Int.add_zero, zclr_I, zclr_R, zclr_L, zclr_U, reduceIte, Int.reduceEq, Int.reduceLT, Int.reduceLE, Int.reduceNeg, not_true_eq_false, not_false_eq_true, or_true, true_or, or_false, false_or, and_true, true_and, and_false, false_and, z01_or]
  | succ k ih =>
    intro a c v5 h0 h1 c0 c1
    have e1 : (s 11 0 4 ≤ a) = False := eq_false (by omega)
    have b1 : (0 ≤ a ∧ a < 10) = True := eq_true (by omega)
    have w1 : w32 (a + 1) = a + 1 := w32_id (by omega) (by omega)
    have c3 := has_m x0 x1 h0 (show a < 10 by omega)
    obtain ⟨-, a4, a5, a6, -⟩ := hA a h0 (by omega)
    have w2 : w32 (c + s 97 0 a) = c + s 97 0 a := w32_id (by omega) (by omega)
    have eA : anyF (badA s t x) a (k + 1) = (badA s t x a || anyF (badA s t x) (a + 1) k) := rfl
    have eS : sumF (fun j => if tb x j = true then s 97 0 j else 0) a (k + 1) = (if tb x a = true then s 97 0 a else 0) + sumF (fun j => if tb x j = true then s 97 0 j else 0) (a + 1) k := rfl
    rw [r177_5, eA, eS]
    by_cases hz : tb x a = true
    · have q : hb x a = 1 := if_pos hz
      rw [if_pos hz]
      by_cases hy : s 94 0 a = t
      · by_cases hx : suitM s a
        · have hy' : (s 94 0 a = t) = True := eq_true hy
          simp only [r177_7, r177_8, r177_11, r177_14, r177_15, r177_17, r177_20, r177_23, r177_26, r177_27, r177_30, r177_32, r177_33, r177_34, r177_37, r177_38, k_hasM, e1, b1, c3, q, hy', zak_40, zln_40, zak_41, zln_41, zak_42, zln_42, zak_43, zln_43, zak_44, zln_44, zak_45, zln_45, zak_46, zln_46, zak_47, zln_47, zak_48, zln_48, zak_49, zln_49, zak_50, zln_50, zak_51, zln_51, zak_52, zln_52, zak_53, zln_53, zak_54, zln_54, zak_55, zln_55, zak_73, zln_73, zak_74, zln_74, zak_75, zln_75, zak_76, zln_76, zak_77, zln_77, zak_78, zln_78, zak_79, zln_79, zak_80, zln_80, zak_81, zln_81, zak_82, zln_82, zak_83, zln_83, zak_84, zln_84, zak_85, zln_85, zak_86, zln_86, zak_87, zln_87, zak_88, zln_88, zak_89, zln_89, zak_90, zln_90, zak_91, zln_91, zak_92, zln_92, zak_93, zln_93, zak_94, zln_94, zak_95, zln_95, zak_96, zln_96, zak_97, zln_97, zak_98, zln_98, zak_99, zln_99, zak_100, zln_100, zak_101, zln_101, zak_102, zln_102, zak_103, zln_103, zak_104, zln_104, zak_105, zln_105, zak_108, zln_108, zak_109, zln_109, Nat.reduceLeDiff, zclr_I, zclr_R, zclr_L, zclr_U, reduceIte, Int.reduceEq, Int.reduceLT, Int.reduceLE, Int.reduceNeg, not_true_eq_false, not_false_eq_true, or_true, true_or, or_false, false_or, and_true, true_and, and_false, false_and, z01_or]
          rw [r177_40, k_alone a zU (by omega) a4, z01_t hx]
          simp only [r177_43, r177_46, r177_47, r177_48, r177_49, zclr_I, zclr_R, zclr_L, zclr_U, reduceIte, Int.reduceEq, Int.reduceLT, Int.reduceLE, Int.reduceNeg, not_true_eq_false, not_false_eq_true, or_true, true_or, or_false, false_or, and_true, true_and, and_false, false_and, z01_or]
          rw [lp177i t x c a x0 x1 h0 (by omega) a.toNat 0 (by omega) (by omega)]
          by_cases hw : anyF (fun b => tb x b && decide (¬ apM s a b)) 0 a.toNat = true
          · have eb : badA s t x a = true := by unfold badA; rw [hz, hw]; simp
            rw [if_pos hw, eb, if_pos (by rfl)]
          · have eb : badA s t x a = false := by unfold badA; rw [hz, Bool.eq_false_iff.mpr hw, decide_eq_false (fun z => z hy), decide_eq_false (fun z => z hx)]; rfl
            rw [if_neg hw, eb, Bool.false_or]
            simp only [r177_86, r177_87, r177_88, r177_91, r177_93, r177_94, r177_95, r177_96, r177_99, b1, w1, w2, zak_40, zln_40, zak_41, zln_41, zak_42, zln_42, zak_43, zln_43, zak_44, zln_44, zak_45, zln_45, zak_46, zln_46, zak_47, zln_47, zak_48, zln_48, zak_49, zln_49, zak_50, zln_50, zak_51, zln_51, zak_52, zln_52, zak_53, zln_53, zak_54, zln_54, zak_55, zln_55, zak_73, zln_73, zak_74, zln_74, zak_75, zln_75, zak_76, zln_76, zak_77, zln_77, zak_78, zln_78, zak_79, zln_79, zak_80, zln_80, zak_81, zln_81, zak_82, zln_82, zak_83, zln_83, zak_84, zln_84, zak_85, zln_85, zak_86, zln_86, zak_87, zln_87, zak_88, zln_88, zak_89, zln_89, zak_90, zln_90, zak_91, zln_91, zak_92, zln_92, zak_93, zln_93, zak_94, zln_94, zak_95, zln_95, zak_96, zln_96, zak_97, zln_97, zak_98, zln_98, zak_99, zln_99, zak_100, zln_100, zak_101, zln_101, zak_102, zln_102, zak_103, zln_103, zak_104, zln_104, zak_105, zln_105, zak_108, zln_108, zak_109, zln_109, Nat.reduceLeDiff, zclr_I, zclr_R, zclr_L, zclr_U, reduceIte, Int.reduceEq, Int.reduceLT, Int.reduceLE, Int.reduceNeg, not_true_eq_false, not_false_eq_true, or_true, true_or, or_false, false_or, and_true, true_and, and_false, false_and, z01_or]
            rw [ih (a + 1) (c + s 97 0 a) _ (by omega) (by omega) (by omega) (by omega), Int.add_assoc]
        · have eb : badA s t x a = true := by unfold badA; rw [hz, decide_eq_true hx]; simp
          rw [eb, if_pos (by rfl)]
          have hy' : (s 94 0 a = t) = True := eq_true hy
          simp only [r177_7, r177_8, r177_11, r177_14, r177_15, r177_17, r177_20, r177_23, r177_26, r177_27, r177_30, r177_32, r177_33, r177_34, r177_37, r177_38, k_hasM, e1, b1, c3, q, hy', zak_40, zln_40, zak_41, zln_41, zak_42, zln_42, zak_43, zln_43, zak_44, zln_44, zak_45, zln_45, zak_46, zln_46, zak_47, zln_47, zak_48, zln_48, zak_49, zln_49, zak_50, zln_50, zak_51, zln_51, zak_52, zln_52, zak_53, zln_53, zak_54, zln_54, zak_55, zln_55, zak_73, zln_73, zak_74, zln_74, zak_75, zln_75, zak_76, zln_76, zak_77, zln_77, zak_78, zln_78, zak_79, zln_79, zak_80, zln_80, zak_81, zln_81, zak_82, zln_82, zak_83, zln_83, zak_84, zln_84, zak_85, zln_85, zak_86, zln_86, zak_87, zln_87, zak_88, zln_88, zak_89, zln_89, zak_90, zln_90, zak_91, zln_91, zak_92, zln_92, zak_93, zln_93, zak_94, zln_94, zak_95, zln_95, zak_96, zln_96, zak_97, zln_97, zak_98, zln_98, zak_99, zln_99, zak_100, zln_100, zak_101, zln_101, zak_102, zln_102, zak_103, zln_103, zak_104, zln_104, zak_105, zln_105, zak_108, zln_108, zak_109, zln_109, Nat.reduceLeDiff, zclr_I, zclr_R, zclr_L, zclr_U, reduceIte, Int.reduceEq, Int.reduceLT, Int.reduceLE, Int.reduceNeg, not_true_eq_false, not_false_eq_true, or_true, true_or, or_false, false_or, and_true, true_and, and_false, false_and, z01_or]
          rw [r177_40, k_alone a zU (by omega) a4, z01_f hx]
          simp only [r177_43, r177_46, r177_47, r177_48, r177_49, zclr_I, zclr_R, zclr_L, zclr_U, reduceIte, Int.reduceEq, Int.reduceLT, Int.reduceLE, Int.reduceNeg, not_true_eq_false, not_false_eq_true, or_true, true_or, or_false, false_or, and_true, true_and, and_false, false_and, z01_or]
      · have eb : badA s t x a = true := by unfold badA; rw [hz, decide_eq_true hy]; simp
        rw [eb, if_pos (by rfl)]
        simp only [r177_7, r177_8, r177_11, r177_14, r177_15, r177_17, r177_20, r177_23, r177_26, r177_27, r177_30, r177_32, r177_33, r177_34, r177_37, r177_38, r177_40, r177_43, r177_46, r177_47, r177_48, r177_49, k_hasM, e1, b1, c3, q, hy, zak_40, zln_40, zak_41, zln_41, zak_42, zln_42, zak_43, zln_43, zak_44, zln_44, zak_45, zln_45, zak_46, zln_46, zak_47, zln_47, zak_48, zln_48, zak_49, zln_49, zak_50, zln_50, zak_51, zln_51, zak_52, zln_52, zak_53, zln_53, zak_54, zln_54, zak_55, zln_55, zak_73, zln_73, zak_74, zln_74, zak_75, zln_75, zak_76, zln_76, zak_77, zln_77, zak_78, zln_78, zak_79, zln_79, zak_80, zln_80, zak_81, zln_81, zak_82, zln_82, zak_83, zln_83, zak_84, zln_84, zak_85, zln_85, zak_86, zln_86, zak_87, zln_87, zak_88, zln_88, zak_89, zln_89, zak_90, zln_90, zak_91, zln_91, zak_92, zln_92, zak_93, zln_93, zak_94, zln_94, zak_95, zln_95, zak_96, zln_96, zak_97, zln_97, zak_98, zln_98, zak_99, zln_99, zak_100, zln_100, zak_101, zln_101, zak_102, zln_102, zak_103, zln_103, zak_104, zln_104, zak_105, zln_105, zak_108, zln_108, zak_109, zln_109, Nat.reduceLeDiff, zclr_I, zclr_R, zclr_L, zclr_U, reduceIte, Int.reduceEq, Int.reduceLT, Int.reduceLE, Int.reduceNeg, not_true_eq_false, not_false_eq_true, or_true, true_or, or_false, false_or, and_true, true_and, and_false, false_and, z01_or]
    · have q : hb x a = 0 := if_neg hz
      have eb : badA s t x a = false := by unfold badA; rw [Bool.eq_false_iff.mpr hz]; rfl
      rw [if_neg hz, eb, Bool.false_or, Int.zero_add]
      simp only [r177_7, r177_8, r177_11, r177_14, r177_15, r177_17, r177_20, r177_23, r177_96, r177_99, k_hasM, e1, c3, q, w1, zak_40, zln_40, zak_41, zln_41, zak_42, zln_42, zak_43, zln_43, zak_44, zln_44, zak_45, zln_45, zak_46, zln_46, zak_47, zln_47, zak_48, zln_48, zak_49, zln_49, zak_50, zln_50, zak_51, zln_51, zak_52, zln_52, zak_53, zln_53, zak_54, zln_54, zak_55, zln_55, zak_73, zln_73, zak_74, zln_74, zak_75, zln_75, zak_76, zln_76, zak_77, zln_77, zak_78, zln_78, zak_79, zln_79, zak_80, zln_80, zak_81, zln_81, zak_82, zln_82, zak_83, zln_83, zak_84, zln_84, zak_85, zln_85, zak_86, zln_86, zak_87, zln_87, zak_88, zln_88, zak_89, zln_89, zak_90, zln_90, zak_91, zln_91, zak_92, zln_92, zak_93, zln_93, zak_94, zln_94, zak_95, zln_95, zak_96, zln_96, zak_97, zln_97, zak_98, zln_98, zak_99, zln_99, zak_100, zln_100, zak_101, zln_101, zak_102, zln_102, zak_103, zln_103, zak_104, zln_104, zak_105, zln_105, zak_108, zln_108, zak_109, zln_109, Nat.reduceLeDiff, zclr_I, zclr_R, zclr_L, zclr_U, reduceIte, Int.reduceEq, Int.reduceLT, Int.reduceLE, Int.reduceNeg, not_true_eq_false, not_false_eq_true, or_true, true_or, or_false, false_or, and_true, true_and, and_false, false_and, z01_or]
      exact ih (a + 1) c _ (by omega) (by omega) c0 (by omega)
theorem k_payOf (t x : Int) (x0 : 0 ≤ x) (x1 : x < 1024) (hR : AskR s t) : Ev ((177, 0, [zR 11 0, zI t, zI x, zU, zU, zU], []) :: (m, pc, ls, st) :: fs) s Q = Ev ((m, pc, ls, zI (payM s t x) :: st) :: fs) s Q := by
  simp only [r177_0, r177_1, r177_2, r177_3, zclr_I, zclr_R, zclr_L, zclr_U, reduceIte, Int.reduceEq, Int.reduceLT, Int.reduceLE, Int.reduceNeg, not_true_eq_false, not_false_eq_true, or_true, true_or, or_false, false_or, and_true, true_and, and_false, false_and, z01_or]
  rw [lp177 t x x0 x1 hR (s 11 0 4).toNat 0 0 _ (by omega) (by have := hR.2.1; omega) (by omega) (by omega), Int.zero_add]
  rfl
theorem lp178 (t : Int) (hR : AskR s t) : ∀ (k : Nat) (x y : Int), 1 ≤ x → x + k = zshl 1 (s 11 0 4) → x ≤ 1024 → zshl 1 (s 11 0 4) ≤ 1024 → 0 ≤ y → y < x → 0 ≤ payM s t y → (∀ z : Int, 0 ≤ z → z < x → payM s t z ≤ payM s t y) → (∀ z : Int, 0 ≤ z → z < y → payM s t z < payM s t y) → ∃ w : Int, (∀ (m pc : Nat) (ls st : List zV) (fs : List zFr) (Q : List zV → zS → Prop), Ev ((178, 4, [zR 11 0, zI t, zI y, zI x], []) :: (m, pc, ls, st) :: fs) s Q = Ev ((m, pc, ls, zI w :: st) :: fs) s Q) ∧ 0 ≤ w ∧ w < zshl 1 (s 11 0 4) ∧ 0 ≤ payM s t w ∧ (∀ z : Int, 0 ≤ z → z < zshl 1 (s 11 0 4) → payM s t z ≤ payM s t w) ∧ ∀ z : Int, 0 ≤ z → z < w → payM s t z < payM s t w := by
  intro k
  induction k with
  | zero =>
    intro x y h0 h1 h2 hN y0 y1 y2 y3 y4
    have e1 : (zshl 1 (s 11 0 4) ≤ x) = True := eq_true (by omega)
    refine ⟨y, fun m pc ls st fs Q => ?_, y0, by omega, y2, fun z z0 z1 => y3 z z0 (by omega), y4⟩
    rw [r178_4]
    simp only [r178_0, r178_1, r178_2, r178_3, r178_5, r178_6, r178_7, r178_10, r178_11, r178_14, r178_15, r178_16, r178_17, r178_20, r178_21, r178_22, r178_23, r178_26, r178_29, r178_30, r178_31, r178_34, r178_37, r178_38, e1, zclr_I, zclr_R, zclr_L, zclr_U, reduceIte, Int.reduceEq, Int.reduceLT, Int.reduceLE, Int.reduceNeg, not_true_eq_false, not_false_eq_true, or_true, true_or, or_false, false_or, and_true, true_and, and_false, false_and, z01_or]
  | succ k ih =>
    intro x y h0 h1 h2 hN y0 y1 y2 y3 y4
    have e1 : (zshl 1 (s 11 0 4) ≤ x) = False := eq_false (by omega)
    have w1 : w32 (x + 1) = x + 1 := w32_id (by omega) (by omega)
    have k1 := fun (m pc : Nat) (ls st : List zV) (fs : List zFr) (Q : List zV → zS → Prop) => k_payOf (m := m) (pc := pc) (ls := ls) (st := st) (fs := fs) (Q := Q) (s := s) t x (by omega) (by omega) hR
    have k2 := fun (m pc : Nat) (ls st : List zV) (fs : List zFr) (Q : List zV → zS → Prop) => k_payOf (m := m) (pc := pc) (ls := ls) (st := st) (fs := fs) (Q := Q) (s := s) t y (by omega) (by omega) hR
    by_cases hg : payM s t x ≤ payM s t y
    · obtain ⟨w, d0, d1⟩ := ih (x + 1) y (by omega) (by omega) (by omega) hN y0 (by omega) y2 (fun z z0 z1 => by
        by_cases e : z = x
        · rw [e]; exact hg
        · exact y3 z z0 (by omega)) y4
      refine ⟨w, fun m pc ls st fs Q => ?_, d1⟩
      have hg := eq_true hg
      rw [r178_4]
      simp only [r178_0, r178_1, r178_2, r178_3, r178_5, r178_6, r178_7, r178_10, r178_11, r178_14, r178_15, r178_16, r178_17, r178_20, r178_21, r178_22, r178_23, r178_26, r178_29, r178_30, r178_31, r178_34, r178_37, r178_38, k1, k2, e1, hg, w1, zclr_I, zclr_R, zclr_L, zclr_U, reduceIte, Int.reduceEq, Int.reduceLT, Int.reduceLE, Int.reduceNeg, not_true_eq_false, not_false_eq_true, or_true, true_or, or_false, false_or, and_true, true_and, and_false, false_and, z01_or]
      exact d0 m pc ls st fs Q
    · obtain ⟨w, d0, d1⟩ := ih (x + 1) x (by omega) (by omega) (by omega) hN (by omega) (by omega) (by omega) (fun z z0 z1 => by
        by_cases e : z = x
        · rw [e]; exact Int.le_refl _
        · have := y3 z z0 (by omega); omega) (fun z z0 z1 => by have := y3 z z0 z1; omega)
      refine ⟨w, fun m pc ls st fs Q => ?_, d1⟩
      have hg := eq_false hg
      rw [r178_4]
      simp only [r178_0, r178_1, r178_2, r178_3, r178_5, r178_6, r178_7, r178_10, r178_11, r178_14, r178_15, r178_16, r178_17, r178_20, r178_21, r178_22, r178_23, r178_26, r178_29, r178_30, r178_31, r178_34, r178_37, r178_38, k1, k2, e1, hg, w1, zclr_I, zclr_R, zclr_L, zclr_U, reduceIte, Int.reduceEq, Int.reduceLT, Int.reduceLE, Int.reduceNeg, not_true_eq_false, not_false_eq_true, or_true, true_or, or_false, false_or, and_true, true_and, and_false, false_and, z01_or]
      exact d0 m pc ls st fs Q
end
theorem pay_val {s : zS} {t x : Int} (hR : AskR s t) (x0 : 0 ≤ x) (x1 : x < zshl 1 (s 11 0 4)) : (0 ≤ payM s t x ↔ Val (s 11 0 4) (okM s t) (fun i => s 95 0 i) (fun i => s 96 0 i) x) ∧ (0 ≤ payM s t x → payM s t x = payS (s 11 0 4) (fun i => s 97 0 i) x) := by
  obtain ⟨n1, n2, n3, hA⟩ := hR
  obtain ⟨x2, xP⟩ := set_P x0 x1 n2 n3
  have pb := (VV_b n2 n3 (fun i i0 i1 => (hA i i0 i1).2.2.2.1) x0).1
  have key : anyF (badA s t x) 0 (s 11 0 4).toNat = true ↔ ¬ Val (s 11 0 4) (okM s t) (fun i => s 95 0 i) (fun i => s 96 0 i) x := by
    rw [anyF_t]
    constructor
    · rintro ⟨i, i0, i1, hb⟩ ⟨-, -, v1, v2⟩
      unfold badA at hb
      rw [Bool.and_eq_true, Bool.or_eq_true, Bool.or_eq_true, decide_eq_true_eq, decide_eq_true_eq, anyF_t] at hb
      obtain ⟨b1, (b2 | b2) | ⟨j, j0, j1, j2⟩⟩ := hb
      · exact b2 (v1 i i0 b1).2.1
      · exact b2 (v1 i i0 b1).2.2
      · rw [Bool.and_eq_true, decide_eq_true_eq] at j2
        exact j2.2 (v2 i j i0 j0 b1 j2.1 (by omega))
    · intro hn
      refine Classical.byContradiction fun hc => hn ?_
      have nb : ∀ i : Int, 0 ≤ i → bi x i → okM s t i ∧ ∀ j : Int, 0 ≤ j → j < i → bi x j → apM s i j := by
        intro i i0 hi
        have ip := xP i i0 hi
        have h := fun z => hc ⟨i, i0, by omega, z⟩
        unfold badA at h
        rw [Bool.and_eq_true, Bool.or_eq_true, Bool.or_eq_true, decide_eq_true_eq, decide_eq_true_eq, anyF_t] at h
        refine ⟨⟨Classical.byContradiction fun z => h ⟨hi, Or.inl (Or.inl z)⟩, Classical.byContradiction fun z => h ⟨hi, Or.inl (Or.inr z)⟩⟩, fun j j0 j1 hj => Classical.byContradiction fun z => h ⟨hi, Or.inr ⟨j, j0, by omega, ?_⟩⟩⟩
        rw [Bool.and_eq_true, decide_eq_true_eq]
        exact ⟨hj, z⟩
      refine ⟨x0, x2, fun i i0 hi => ⟨xP i i0 hi, (nb i i0 hi).1⟩, fun i j i0 j0 hi hj hne => ?_⟩
      by_cases c : j < i
      · exact (nb i i0 hi).2 j j0 c hj
      · exact ((nb j j0 hj).2 i i0 (by omega) hi).symm
  unfold payM
  by_cases c : anyF (badA s t x) 0 (s 11 0 4).toNat = true
  · rw [if_pos c]
    exact ⟨⟨fun z => by omega, fun z => absurd z (key.mp c)⟩, fun z => by omega⟩
  · rw [if_neg c]
    exact ⟨⟨fun _ => Classical.byContradiction fun z => c (key.mpr z), fun _ => pb⟩, fun _ => rfl⟩
theorem Val_N {s : zS} {t x : Int} (hR : AskR s t) (hv : Val (s 11 0 4) (okM s t) (fun i => s 95 0 i) (fun i => s 96 0 i) x) : x < zshl 1 (s 11 0 4) := by
  obtain ⟨n1, n2, n3, hA⟩ := hR
  obtain ⟨x0, x1, v1, -⟩ := hv
  generalize s 11 0 4 = n at *
  obtain ⟨N, rfl⟩ := Int.eq_ofNat_of_zero_le n2
  rw [zshl_1 (by omega)]
  have : x.toNat < 2 ^ N := by
    refine Nat.lt_pow_two_of_testBit _ (fun i hi => ?_)
    refine Bool.eq_false_iff.mpr fun hb => ?_
    have := (v1 (i : Int) (by omega) hb).1
    omega
  generalize 2 ^ N = X at *
  omega
/-- choiceOf, and what bestValue makes of it -/
theorem k_choiceOf {s : zS} {t : Int} (hR : AskR s t) : ∃ w : Int, (∀ (m pc : Nat) (ls st : List zV) (fs : List zFr) (Q : List zV → zS → Prop), Ev ((178, 0, [zR 11 0, zI t, zU, zU], []) :: (m, pc, ls, st) :: fs) s Q = Ev ((m, pc, ls, zI w :: st) :: fs) s Q) ∧ (0 ≤ w ∧ w < 1024) ∧ (0 ≤ payM s t w ∧ payM s t w ≤ 10000) ∧ ∀ b : Int, BstM s t 0 b → b = 1024 * payM s t w - w := by
  obtain ⟨n1, n2, n3, hA⟩ := id hR
  have hN : 1 ≤ zshl 1 (s 11 0 4) ∧ zshl 1 (s 11 0 4) ≤ 1024 := by
    generalize s 11 0 4 = n at *
    obtain ⟨N, rfl⟩ := Int.eq_ofNat_of_zero_le n2
    rw [zshl_1 (by omega)]
    have hj1 : 2 ^ N ≤ 2 ^ 10 := Nat.pow_le_pow_right (by omega) (by omega)
    have hj0 : 0 < 2 ^ N := Nat.two_pow_pos N
    generalize 2 ^ N = X at *
    omega
  have p0 : 0 ≤ payM s t 0 := (pay_val hR (by omega) (by omega)).1.mpr Val_0
  obtain ⟨w, d0, w0, w1, w2, w3, w4⟩ := lp178 t hR (zshl 1 (s 11 0 4) - 1).toNat 1 0 (by omega) (by omega) (by omega) hN.2 (by omega) (by omega) p0 (fun z z0 z1 => by rw [show z = 0 by omega]; exact Int.le_refl _) (fun z z0 z1 => by omega)
  obtain ⟨v1, v2⟩ := pay_val hR w0 w1
  have e := v2 w2
  have vb : 0 ≤ payS (s 11 0 4) (fun i => s 97 0 i) w ∧ payS (s 11 0 4) (fun i => s 97 0 i) w ≤ 10000 ∧ VV (s 11 0 4) (fun i => s 97 0 i) w ≤ 10240000 := VV_b n2 n3 (fun i i0 i1 => (hA i i0 i1).2.2.2.1) w0
  refine ⟨w, fun m pc ls st fs Q => ?_, by omega, ⟨w2, by omega⟩, fun b hb => ?_⟩
  · simp only [r178_0, r178_1, r178_2, r178_3, zclr_I, zclr_R, zclr_L, zclr_U, reduceIte, Int.reduceEq, Int.reduceLT, Int.reduceLE, Int.reduceNeg, not_true_eq_false, not_false_eq_true, or_true, true_or, or_false, false_or, and_true, true_and, and_false, false_and, z01_or]
    exact d0 m pc ls st fs Q
  · rw [e]
    refine Bst_ch n2 n3 (fun i i0 i1 => (hA i i0 i1).2.2.2.1) hb (fun i i0 i1 => (hA i i0 i1).2.2.1.1) (v1.mp w2) (fun x hx => ?_) (fun x hx hlt => ?_)
    · have xN := Val_N hR hx
      obtain ⟨u1, u2⟩ := pay_val hR hx.1 xN
      have a := u2 (u1.mpr hx)
      have b := w3 x hx.1 xN
      show payS (s 11 0 4) (fun i => s 97 0 i) x ≤ payS (s 11 0 4) (fun i => s 97 0 i) w
      omega
    · have xN := Val_N hR hx
      obtain ⟨u1, u2⟩ := pay_val hR hx.1 xN
      have a := u2 (u1.mpr hx)
      have b := w4 x hx.1 hlt
      show payS (s 11 0 4) (fun i => s 97 0 i) x < payS (s 11 0 4) (fun i => s 97 0 i) w
      omega

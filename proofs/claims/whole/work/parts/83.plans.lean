def dg (w t : Int) : Int := zand (w32 (zlshr w (40 - 10 * t))) 1023
section
variable {m pc : Nat} {ls st : List zV} {fs : List zFr} {s : zS} {Q : List zV → zS → Prop}
theorem k_tie (t : Int) (t0 : 0 ≤ t) (t1 : t < 5) : Ev ((30, 0, [zI t], []) :: (m, pc, ls, st) :: fs) s Q = Ev ((m, pc, ls, zI (40 - 10 * t) :: st) :: fs) s Q := by
  have w1 : w32 (4 - t) = 4 - t := w32_id (by omega) (by omega)
  have w2 : w32 (10 * (4 - t)) = 40 - 10 * t := by rw [w32_id (by omega) (by omega)]; omega
  simp only [r30_0, r30_2, r30_3, r30_4, r30_5, r30_6, w1, w2]
end
theorem lp27d (v2 v3 : zV) (w : Int) : ∀ (k : Nat) (t : Int) (s : zS), 0 ≤ t → t + k = 5 → ∃ s1 : zS, (∀ (F : List zFr) (Q : List zV → zS → Prop), Ev ((27, 70, [zR 4 0, zR 6 0, v2, v3, zL w, zU, zI t], []) :: F) s Q = Ev ((27, 102, [zR 4 0, zR 6 0, v2, v3, zL w, zU, zI 5], []) :: F) s1 Q) ∧ (∀ g : Nat, ¬ g = 47 → s1 g = s g) ∧ (∀ u : Int, u < t → s1 47 0 u = s 47 0 u) ∧ ∀ u : Int, t ≤ u → u < 5 → s1 47 0 u = dg w u := by
  intro k
  induction k with
  | zero =>
    intro t s t0 t1
    have e1 : ((5 : Int) ≤ t) = True := eq_true (by omega)
    have e2 : t = 5 := by omega
    refine ⟨s, fun F Q => ?_, fun _ _ => rfl, fun _ _ => rfl, fun u u0 u1 => by omega⟩
    rw [r27_70]
    simp only [r27_72, r27_73, r27_76, r27_77, r27_80, r27_82, r27_84, r27_86, r27_89, r27_90, r27_91, r27_94, r27_95, r27_96, r27_99, e1, zclr_I, zclr_R, zclr_L, zclr_U, reduceIte, Int.reduceEq, Int.reduceLT, Int.reduceLE, Int.reduceNeg, not_true_eq_false, not_false_eq_true, or_true, true_or, or_false, false_or, and_true, true_and, and_false, false_and, z01_or]
    rw [e2]
  | succ k ih =>
    intro t s t0 t1
    have e1 : ((5 : Int) ≤ t) = False := eq_false (by omega)
    have b1 : (0 ≤ t ∧ t < 5) = True := eq_true (by omega)
    have w1 : w32 (t + 1) = t + 1 := w32_id (by omega) (by omega)
    obtain ⟨s1, c1, c2, c3, c4⟩ := ih (t + 1) (zup s 47 0 t (dg w t)) (by omega) (by omega)
    refine ⟨s1, fun F Q => ?_, fun g hg => by rw [c2 g hg, zup_ng hg], fun u u0 => by rw [c3 u (by omega), zup_nk (by omega)], fun u u0 u1 => ?_⟩
    · rw [r27_70]
      simp only [r27_72, r27_73, r27_76, r27_77, r27_80, r27_82, r27_84, r27_86, r27_89, r27_90, r27_91, r27_94, r27_95, r27_96, r27_99, k_tie t t0 (by omega), e1, b1, w1, zak_40, zln_40, zak_41, zln_41, zak_42, zln_42, zak_43, zln_43, zak_44, zln_44, zak_45, zln_45, zak_46, zln_46, zak_47, zln_47, zak_48, zln_48, zak_49, zln_49, zak_50, zln_50, zak_51, zln_51, zak_52, zln_52, zak_53, zln_53, zak_54, zln_54, zak_55, zln_55, zak_73, zln_73, zak_74, zln_74, zak_75, zln_75, zak_76, zln_76, zak_77, zln_77, zak_78, zln_78, zak_79, zln_79, zak_80, zln_80, zak_81, zln_81, zak_82, zln_82, zak_83, zln_83, zak_84, zln_84, zak_85, zln_85, zak_86, zln_86, zak_87, zln_87, zak_88, zln_88, zak_89, zln_89, zak_90, zln_90, zak_91, zln_91, zak_92, zln_92, zak_93, zln_93, zak_94, zln_94, zak_95, zln_95, zak_96, zln_96, zak_97, zln_97, zak_98, zln_98, zak_99, zln_99, zak_100, zln_100, zak_101, zln_101, zak_102, zln_102, zak_103, zln_103, zak_104, zln_104, zak_105, zln_105, zak_108, zln_108, zak_109, zln_109, Nat.reduceLeDiff, zclr_I, zclr_R, zclr_L, zclr_U, reduceIte, Int.reduceEq, Int.reduceLT, Int.reduceLE, Int.reduceNeg, not_true_eq_false, not_false_eq_true, or_true, true_or, or_false, false_or, and_true, true_and, and_false, false_and, z01_or]
      exact c1 F Q
    · by_cases e : u = t
      · rw [e, c3 t (by omega), zup_eq]
      · exact c4 u (by omega) u1
theorem zand_1023 {x : Int} (h0 : 0 ≤ x) (h1 : x < 1024) : zand x 1023 = x := by
  obtain ⟨b0, b1, b2⟩ := zand_bi (y := 1023) h0 h1 (by omega) (by omega)
  refine bi_ext b0 h0 (fun q q0 => ?_)
  rw [b2 q q0]
  refine ⟨fun z => z.1, fun z => ⟨z, ?_⟩⟩
  have := bi_10 h0 h1 q0 z
  unfold bi
  rw [show (1023 : Int).toNat = 2 ^ 10 - 1 from rfl, Nat.testBit_two_pow_sub_one]
  exact decide_eq_true (by omega)
theorem k_plans {ok : Int → Int → Prop} {pr : Int → Int → Int} {T H noon : Int} (hO : PrO ok pr T H) (s sP : zS) (eH : s 6 0 4 = H) (eT : s 6 0 3 = T) (hK : ∀ (m pc : Nat) (ls st : List zV) (fs : List zFr) (Q : List zV → zS → Prop), Ev ((28, 0, [zR 4 0, zR 6 0, zI H, zI noon, zU, zU, zU, zU, zU, zU, zU, zU], []) :: (m, pc, ls, st) :: fs) s Q = Ev ((m, pc, ls, st) :: fs) sP Q) (hP : PTb ok pr T H sP) (hg : ∀ g : Nat, ¬ (g = 2 ∨ g = 4 ∨ g = 44 ∨ g = 45 ∨ g = 55) → sP g = s g) : ∃ (s1 : zS) (w : Int), (∀ (m pc : Nat) (ls st : List zV) (fs : List zFr) (Q : List zV → zS → Prop), Ev ((27, 0, [zR 4 0, zR 6 0, zI noon, zU, zU, zU, zU], []) :: (m, pc, ls, st) :: fs) s Q = Ev ((m, pc, ls, zI (z01 (w < 2305843009213693952)) :: st) :: fs) s1 Q) ∧ Sm s s1 ∧ Fin1 ok pr T H w ∧ ∀ t : Int, 0 ≤ t → t < 5 → s1 47 0 t = dg w t := by
  obtain ⟨⟨H0, H1⟩, ⟨T0, T1⟩, ok1, pr1⟩ := id hO
  have z1 : zand H 1023 = H := zand_1023 H0 H1
  have b0 : ((0 : Int) ≤ 0 ∧ (0 : Int) < 1024) = True := eq_true (by omega)
  have bH : (0 ≤ H ∧ H < 1024) = True := eq_true ⟨H0, H1⟩
  have w1 : w32 (T - 1) = T - 1 := w32_id (by omega) (by omega)
  have e6 : sP 6 = s 6 := hg 6 (by omega)
  have L0 : ∀ D : Int, 0 ≤ D → D < 1024 → zup (zfl sP 46 0 0 1024 2305843009213693952) 46 0 0 0 46 0 D = if D = 0 then 0 else 2305843009213693952 := by
    intro D D0 D1
    by_cases e : D = 0
    · rw [if_pos e, e, zup_eq]
    · rw [if_neg e, zup_nk e, zfl_in D0 D1]
  have hP0 : PTb ok pr T H (zup (zfl sP 46 0 0 1024 2305843009213693952) 46 0 0 0) := PTb_c (by rw [zup_ng (by omega), zfl_ng (by omega)]) (by rw [zup_ng (by omega), zfl_ng (by omega)]) (by rw [zup_ng (by omega), zfl_ng (by omega)]) (by rw [zup_ng (by omega), zfl_ng (by omega)]) hP
  have hg0 : ∀ g : Nat, ¬ (g = 2 ∨ g = 4 ∨ g = 44 ∨ g = 45 ∨ g = 55 ∨ g = 46) → zup (zfl sP 46 0 0 1024 2305843009213693952) 46 0 0 0 g = s g := by
    intro g hh
    rw [zup_ng (by omega), zfl_ng (by omega), hg g (by omega)]
  have first : ∀ (m pc : Nat) (ls st : List zV) (fs : List zFr) (Q : List zV → zS → Prop), Ev ((27, 0, [zR 4 0, zR 6 0, zI noon, zU, zU, zU, zU], []) :: (m, pc, ls, st) :: fs) s Q = Ev ((27, 41, [zR 4 0, zR 6 0, zI noon, zI H, zI (T - 1), zU, zU], []) :: (m, pc, ls, st) :: fs) (zup (zfl sP 46 0 0 1024 2305843009213693952) 46 0 0 0) Q := by
    intro m pc ls st fs Q
    simp only [r27_0, r27_1, r27_4, r27_7, r27_8, r27_9, r27_10, r27_11, r27_12, eH, z1, zclr_I, zclr_R, zclr_L, zclr_U, reduceIte, Int.reduceEq, Int.reduceLT, Int.reduceLE, Int.reduceNeg, not_true_eq_false, not_false_eq_true, or_true, true_or, or_false, false_or, and_true, true_and, and_false, false_and, z01_or]
    rw [r27_13, hK]
    simp only [r27_16, r27_17, r27_20, zclr_I, zclr_R, zclr_L, zclr_U, reduceIte, Int.reduceEq, Int.reduceLT, Int.reduceLE, Int.reduceNeg, not_true_eq_false, not_false_eq_true, or_true, true_or, or_false, false_or, and_true, true_and, and_false, false_and, z01_or]
    rw [r27_23, k_fillL 46 0 1024 _ zU zU _ zak_46 zln_46 (by omega) (by omega)]
    have f6 : zup (zfl sP 46 0 0 1024 2305843009213693952) 46 0 0 0 6 = s 6 := by rw [zup_ng (by omega), zfl_ng (by omega), e6]
    simp only [r27_26, r27_27, r27_30, r27_31, r27_32, r27_33, r27_34, r27_37, r27_38, r27_39, b0, f6, eT, w1, zak_40, zln_40, zak_41, zln_41, zak_42, zln_42, zak_43, zln_43, zak_44, zln_44, zak_45, zln_45, zak_46, zln_46, zak_47, zln_47, zak_48, zln_48, zak_49, zln_49, zak_50, zln_50, zak_51, zln_51, zak_52, zln_52, zak_53, zln_53, zak_54, zln_54, zak_55, zln_55, zak_73, zln_73, zak_74, zln_74, zak_75, zln_75, zak_76, zln_76, zak_77, zln_77, zak_78, zln_78, zak_79, zln_79, zak_80, zln_80, zak_81, zln_81, zak_82, zln_82, zak_83, zln_83, zak_84, zln_84, zak_85, zln_85, zak_86, zln_86, zak_87, zln_87, zak_88, zln_88, zak_89, zln_89, zak_90, zln_90, zak_91, zln_91, zak_92, zln_92, zak_93, zln_93, zak_94, zln_94, zak_95, zln_95, zak_96, zln_96, zak_97, zln_97, zak_98, zln_98, zak_99, zln_99, zak_100, zln_100, zak_101, zln_101, zak_102, zln_102, zak_103, zln_103, zak_104, zln_104, zak_105, zln_105, zak_108, zln_108, zak_109, zln_109, Nat.reduceLeDiff, zclr_I, zclr_R, zclr_L, zclr_U, reduceIte, Int.reduceEq, Int.reduceLT, Int.reduceLE, Int.reduceNeg, not_true_eq_false, not_false_eq_true, or_true, true_or, or_false, false_or, and_true, true_and, and_false, false_and, z01_or]
  generalize zup (zfl sP 46 0 0 1024 2305843009213693952) 46 0 0 0 = X at *
  have S0 : LSnd ok pr T (T - 1 + 1) (fun D => X 46 0 D) := by
    intro D D0 D1
    show (0 ≤ X 46 0 D ∧ X 46 0 D ≤ _) ∧ (X 46 0 D < _ → ∃ A : Int → Int, VA ok (T - 1 + 1) T D A ∧ CA pr (T - 1 + 1) T A = X 46 0 D)
    rw [L0 D D0 D1]
    by_cases e : D = 0
    · rw [if_pos e]
      exact ⟨by omega, fun _ => ⟨fun _ => 0, (VA_e (by omega) D0).mpr e, CA_0 (by omega)⟩⟩
    · rw [if_neg e]
      exact ⟨by omega, fun h => by omega⟩
  have C0 : LCmp ok pr T H (T - 1 + 1) (fun D => X 46 0 D) := by
    intro A hv
    right
    have e : suf A T (T - 1 + 1) = 0 := by
      obtain ⟨f0, f1, f2⟩ := suf_bi (A := A) (T := T) (t := T - 1 + 1) (by omega) (fun u u0 u1 => by omega)
      exact (zero_bi f0).mpr (fun q q0 hq => by obtain ⟨u, u0, u1, _⟩ := (f2 q q0).mp hq; omega)
    show X 46 0 (suf A T (T - 1 + 1)) ≤ CA pr (T - 1 + 1) T A
    rw [e, L0 0 (by omega) (by omega), if_pos rfl, CA_0 (by omega)]
    omega
  obtain ⟨s2, m1, m2, m4, m5⟩ := lp27 hO (zI noon) zU zU T.toNat (T - 1) X (by omega) (by omega) hP0 S0 C0
  have m3 : Fin1 ok pr T H (s2 46 0 H) := Fin1_0 hO m4 m5
  obtain ⟨s3, n1, n2, n3, n4⟩ := lp27d (zI noon) (zI H) (s2 46 0 H) 5 0 s2 (by omega) (by omega)
  refine ⟨s3, s2 46 0 H, fun m pc ls st fs Q => ?_, fun g hh => ?_, m3, fun t t0 t1 => n4 t t0 t1⟩
  · rw [first, m1]
    simp only [r27_59, r27_60, r27_63, r27_64, r27_65, r27_67, r27_68, bH, zak_40, zln_40, zak_41, zln_41, zak_42, zln_42, zak_43, zln_43, zak_44, zln_44, zak_45, zln_45, zak_46, zln_46, zak_47, zln_47, zak_48, zln_48, zak_49, zln_49, zak_50, zln_50, zak_51, zln_51, zak_52, zln_52, zak_53, zln_53, zak_54, zln_54, zak_55, zln_55, zak_73, zln_73, zak_74, zln_74, zak_75, zln_75, zak_76, zln_76, zak_77, zln_77, zak_78, zln_78, zak_79, zln_79, zak_80, zln_80, zak_81, zln_81, zak_82, zln_82, zak_83, zln_83, zak_84, zln_84, zak_85, zln_85, zak_86, zln_86, zak_87, zln_87, zak_88, zln_88, zak_89, zln_89, zak_90, zln_90, zak_91, zln_91, zak_92, zln_92, zak_93, zln_93, zak_94, zln_94, zak_95, zln_95, zak_96, zln_96, zak_97, zln_97, zak_98, zln_98, zak_99, zln_99, zak_100, zln_100, zak_101, zln_101, zak_102, zln_102, zak_103, zln_103, zak_104, zln_104, zak_105, zln_105, zak_108, zln_108, zak_109, zln_109, Nat.reduceLeDiff, zclr_I, zclr_R, zclr_L, zclr_U, reduceIte, Int.reduceEq, Int.reduceLT, Int.reduceLE, Int.reduceNeg, not_true_eq_false, not_false_eq_true, or_true, true_or, or_false, false_or, and_true, true_and, and_false, false_and, z01_or]
    rw [n1]
    by_cases c : s2 46 0 H < 2305843009213693952
    · have e := cmpF c
      rw [z01_t c]
      simp only [r27_102, r27_104, r27_107, r27_108, r27_111, r27_112, r27_115, r27_116, e, zclr_I, zclr_R, zclr_L, zclr_U, reduceIte, Int.reduceEq, Int.reduceLT, Int.reduceLE, Int.reduceNeg, not_true_eq_false, not_false_eq_true, or_true, true_or, or_false, false_or, and_true, true_and, and_false, false_and, z01_or]
    · have e := cmpT c
      rw [z01_f c]
      simp only [r27_102, r27_104, r27_107, r27_108, r27_111, r27_112, r27_115, r27_116, e, zclr_I, zclr_R, zclr_L, zclr_U, reduceIte, Int.reduceEq, Int.reduceLT, Int.reduceLE, Int.reduceNeg, not_true_eq_false, not_false_eq_true, or_true, true_or, or_false, false_or, and_true, true_and, and_false, false_and, z01_or]
  · unfold Scr at hh
    rw [n2 g (by omega), m2 g (by omega), hg0 g (by omega)]

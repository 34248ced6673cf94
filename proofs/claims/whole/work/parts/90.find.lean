def Gsd (s : zS) (t left y : Int) : Prop := zand y (zxor left (-1)) = 0 ∧ s 103 0 (1024 * t + y) < 1000000000 ∧ s 103 0 (1024 * t + y) + s 102 0 (1024 * (t + 1) + zand left (zxor y (-1))) = s 102 0 (1024 * t + left)
theorem lp148f (noon H t left : Int) (v6 v7 : zV) (t0 : 0 ≤ t ∧ t < 5) (l0 : 0 ≤ left) (l1 : left < 1024) (s : zS) (hP : ∀ y : Int, 0 ≤ y → SubB y left → 0 ≤ s 103 0 (1024 * t + y)) (hC : ∀ y : Int, 0 ≤ y → SubB y left → 0 ≤ s 102 0 (1024 * (t + 1) + zand left (zxor y (-1))) ∧ s 102 0 (1024 * (t + 1) + zand left (zxor y (-1))) ≤ 1000000000) (z : Int) (z1 : z < 1024) (hz : Gsd s t left z) : ∀ (n : Nat) (y : Int), 0 ≤ y → y + n = z → ∃ y' : Int, (y ≤ y' ∧ y' ≤ z) ∧ Gsd s t left y' ∧ (∀ x : Int, y ≤ x → x < y' → ¬ Gsd s t left x) ∧ ∀ (F : List zFr) (Q : List zV → zS → Prop), Ev ((148, 291, [zR 11 0, zI noon, zI H, zI left, zI t, zI y, v6, v7], []) :: F) s Q = Ev ((148, 376, [zR 11 0, zI noon, zI H, zI left, zI t, zI y', v6, v7], []) :: F) s Q := by
  have yes : ∀ y : Int, 0 ≤ y → y < 1024 → Gsd s t left y → ∀ (F : List zFr) (Q : List zV → zS → Prop), Ev ((148, 291, [zR 11 0, zI noon, zI H, zI left, zI t, zI y, v6, v7], []) :: F) s Q = Ev ((148, 376, [zR 11 0, zI noon, zI H, zI left, zI t, zI y, v6, v7], []) :: F) s Q := by
    intro y y0 y1 hg F Q
    obtain ⟨g1, g2, g3⟩ := hg
    have ys := (sub_z y0 y1 l0 l1).mp g1
    have p0 := hP y y0 ys
    have q := hC y y0 ys
    obtain ⟨d0, d1, d2, d3, d4⟩ := dif_bi l0 l1 y0 ys
    have w1 : w32 (1024 * t) = 1024 * t := w32_id (by omega) (by omega)
    have w2 : w32 (1024 * t + y) = 1024 * t + y := w32_id (by omega) (by omega)
    have w3 : w32 (t + 1) = t + 1 := w32_id (by omega) (by omega)
    have w4 : w32 (1024 * (t + 1)) = 1024 * (t + 1) := w32_id (by omega) (by omega)
    have w5 : w32 (1024 * (t + 1) + zand left (zxor y (-1))) = 1024 * (t + 1) + zand left (zxor y (-1)) := w32_id (by omega) (by omega)
    have w6 : w32 (s 103 0 (1024 * t + y) + s 102 0 (1024 * (t + 1) + zand left (zxor y (-1)))) = s 102 0 (1024 * t + left) := by rw [w32_id (by omega) (by omega)]; exact g3
    have w8 : w32 (1024 * t + left) = 1024 * t + left := w32_id (by omega) (by omega)
    have bp : (0 ≤ 1024 * t + y ∧ 1024 * t + y < 5120) = True := eq_true (by omega)
    have bc : (0 ≤ 1024 * (t + 1) + zand left (zxor y (-1)) ∧ 1024 * (t + 1) + zand left (zxor y (-1)) < 6144) = True := eq_true (by omega)
    have bl : (0 ≤ 1024 * t + left ∧ 1024 * t + left < 6144) = True := eq_true (by omega)
    have g2' : (1000000000 ≤ s 103 0 (1024 * t + y)) = False := eq_false (by omega)
    have g1' := eq_true g1
    rw [r148_291]
    simp only [r148_293, r148_294, r148_295, r148_296, r148_297, r148_300, r148_301, r148_304, r148_307, r148_309, r148_310, r148_312, r148_313, r148_314, r148_316, r148_319, r148_320, r148_323, r148_326, r148_328, r148_329, r148_331, r148_332, r148_333, r148_334, r148_337, r148_340, r148_342, r148_343, r148_344, r148_345, r148_346, r148_348, r148_349, r148_350, r148_351, r148_352, r148_353, r148_354, r148_355, r148_358, r148_361, r148_363, r148_364, r148_365, r148_366, r148_367, g1', g2', bp, bc, bl, w1, w2, w3, w4, w5, w6, w8, zak_40, zln_40, zak_41, zln_41, zak_42, zln_42, zak_43, zln_43, zak_44, zln_44, zak_45, zln_45, zak_46, zln_46, zak_47, zln_47, zak_48, zln_48, zak_49, zln_49, zak_50, zln_50, zak_51, zln_51, zak_52, zln_52, zak_53, zln_53, zak_54, zln_54, zak_55, zln_55, zak_73, zln_73, zak_74, zln_74, zak_75, zln_75, zak_76, zln_76, zak_77, zln_77, zak_78, zln_78, zak_79, zln_79, zak_80, zln_80, zak_81, zln_81, zak_82, zln_82, zak_83, zln_83, zak_84, zln_84, zak_85, zln_85, zak_86, zln_86, zak_87, zln_87, zak_88, zln_88, zak_89, zln_89, zak_90, zln_90, zak_91, zln_91, zak_92, zln_92, zak_93, zln_93, zak_94, zln_94, zak_95, zln_95, zak_96, zln_96, zak_97, zln_97, zak_98, zln_98, zak_99, zln_99, zak_100, zln_100, zak_101, zln_101, zak_102, zln_102, zak_103, zln_103, zak_104, zln_104, zak_105, zln_105, zak_108, zln_108, zak_109, zln_109, Nat.reduceLeDiff, zclr_I, zclr_R, zclr_L, zclr_U, reduceIte, Int.reduceEq, Int.reduceLT, Int.reduceLE, Int.reduceNeg, not_true_eq_false, not_false_eq_true, or_true, true_or, or_false, false_or, and_true, true_and, and_false, false_and, z01_or]
  intro n
  induction n with
  | zero =>
    intro y y0 y1
    have e : y = z := by omega
    rw [e]
    exact ⟨z, by omega, hz, fun x x0 x1 => by omega, yes z (by omega) z1 hz⟩
  | succ n ih =>
    intro y y0 y1
    by_cases hg : Gsd s t left y
    · exact ⟨y, by omega, hg, fun x x0 x1 => by omega, yes y y0 (by omega) hg⟩
    · obtain ⟨y', a1, a2, a3, a4⟩ := ih (y + 1) (by omega) (by omega)
      refine ⟨y', by omega, a2, fun x x0 x1 => ?_, fun F Q => ?_⟩
      · by_cases e : x = y
        · rw [e]; exact hg
        · exact a3 x (by omega) x1
      · rw [← a4]
        have w9 : w32 (y + 1) = y + 1 := w32_id (by omega) (by omega)
        by_cases g1 : zand y (zxor left (-1)) = 0
        · have ys := (sub_z y0 (by omega) l0 l1).mp g1
          have p0 := hP y y0 ys
          have q := hC y y0 ys
          obtain ⟨d0, d1, d2, d3, d4⟩ := dif_bi l0 l1 y0 ys
          have w1 : w32 (1024 * t) = 1024 * t := w32_id (by omega) (by omega)
          have w2 : w32 (1024 * t + y) = 1024 * t + y := w32_id (by omega) (by omega)
          have bp : (0 ≤ 1024 * t + y ∧ 1024 * t + y < 5120) = True := eq_true (by omega)
          have g1' := eq_true g1
          by_cases g2 : s 103 0 (1024 * t + y) < 1000000000
          · have g2' : (1000000000 ≤ s 103 0 (1024 * t + y)) = False := eq_false (by omega)
            have g3 : ¬ s 103 0 (1024 * t + y) + s 102 0 (1024 * (t + 1) + zand left (zxor y (-1))) = s 102 0 (1024 * t + left) := fun h => hg ⟨g1, g2, h⟩
            have w3 : w32 (t + 1) = t + 1 := w32_id (by omega) (by omega)
            have w4 : w32 (1024 * (t + 1)) = 1024 * (t + 1) := w32_id (by omega) (by omega)
            have w5 : w32 (1024 * (t + 1) + zand left (zxor y (-1))) = 1024 * (t + 1) + zand left (zxor y (-1)) := w32_id (by omega) (by omega)
            have w6 : w32 (s 103 0 (1024 * t + y) + s 102 0 (1024 * (t + 1) + zand left (zxor y (-1)))) = s 103 0 (1024 * t + y) + s 102 0 (1024 * (t + 1) + zand left (zxor y (-1))) := w32_id (by omega) (by omega)
            have w8 : w32 (1024 * t + left) = 1024 * t + left := w32_id (by omega) (by omega)
            have bc : (0 ≤ 1024 * (t + 1) + zand left (zxor y (-1)) ∧ 1024 * (t + 1) + zand left (zxor y (-1)) < 6144) = True := eq_true (by omega)
            have bl : (0 ≤ 1024 * t + left ∧ 1024 * t + left < 6144) = True := eq_true (by omega)
            have g3' := eq_false g3
            rw [r148_291]
            simp only [r148_293, r148_294, r148_295, r148_296, r148_297, r148_300, r148_301, r148_304, r148_307, r148_309, r148_310, r148_312, r148_313, r148_314, r148_316, r148_319, r148_320, r148_323, r148_326, r148_328, r148_329, r148_331, r148_332, r148_333, r148_334, r148_337, r148_340, r148_342, r148_343, r148_344, r148_345, r148_346, r148_348, r148_349, r148_350, r148_351, r148_352, r148_353, r148_354, r148_355, r148_358, r148_361, r148_363, r148_364, r148_365, r148_366, r148_367, r148_370, r148_373, g1', g2', g3', bp, bc, bl, w1, w2, w3, w4, w5, w6, w8, w9, zak_40, zln_40, zak_41, zln_41, zak_42, zln_42, zak_43, zln_43, zak_44, zln_44, zak_45, zln_45, zak_46, zln_46, zak_47, zln_47, zak_48, zln_48, zak_49, zln_49, zak_50, zln_50, zak_51, zln_51, zak_52, zln_52, zak_53, zln_53, zak_54, zln_54, zak_55, zln_55, zak_73, zln_73, zak_74, zln_74, zak_75, zln_75, zak_76, zln_76, zak_77, zln_77, zak_78, zln_78, zak_79, zln_79, zak_80, zln_80, zak_81, zln_81, zak_82, zln_82, zak_83, zln_83, zak_84, zln_84, zak_85, zln_85, zak_86, zln_86, zak_87, zln_87, zak_88, zln_88, zak_89, zln_89, zak_90, zln_90, zak_91, zln_91, zak_92, zln_92, zak_93, zln_93, zak_94, zln_94, zak_95, zln_95, zak_96, zln_96, zak_97, zln_97, zak_98, zln_98, zak_99, zln_99, zak_100, zln_100, zak_101, zln_101, zak_102, zln_102, zak_103, zln_103, zak_104, zln_104, zak_105, zln_105, zak_108, zln_108, zak_109, zln_109, Nat.reduceLeDiff, zclr_I, zclr_R, zclr_L, zclr_U, reduceIte, Int.reduceEq, Int.reduceLT, Int.reduceLE, Int.reduceNeg, not_true_eq_false, not_false_eq_true, or_true, true_or, or_false, false_or, and_true, true_and, and_false, false_and, z01_or]
          · have g2' : (1000000000 ≤ s 103 0 (1024 * t + y)) = True := eq_true (by omega)
            rw [r148_291]
            simp only [r148_293, r148_294, r148_295, r148_296, r148_297, r148_300, r148_301, r148_304, r148_307, r148_309, r148_310, r148_312, r148_313, r148_314, r148_316, r148_370, r148_373, g1', g2', bp, w1, w2, w9, zak_40, zln_40, zak_41, zln_41, zak_42, zln_42, zak_43, zln_43, zak_44, zln_44, zak_45, zln_45, zak_46, zln_46, zak_47, zln_47, zak_48, zln_48, zak_49, zln_49, zak_50, zln_50, zak_51, zln_51, zak_52, zln_52, zak_53, zln_53, zak_54, zln_54, zak_55, zln_55, zak_73, zln_73, zak_74, zln_74, zak_75, zln_75, zak_76, zln_76, zak_77, zln_77, zak_78, zln_78, zak_79, zln_79, zak_80, zln_80, zak_81, zln_81, zak_82, zln_82, zak_83, zln_83, zak_84, zln_84, zak_85, zln_85, zak_86, zln_86, zak_87, zln_87, zak_88, zln_88, zak_89, zln_89, zak_90, zln_90, zak_91, zln_91, zak_92, zln_92, zak_93, zln_93, zak_94, zln_94, zak_95, zln_95, zak_96, zln_96, zak_97, zln_97, zak_98, zln_98, zak_99, zln_99, zak_100, zln_100, zak_101, zln_101, zak_102, zln_102, zak_103, zln_103, zak_104, zln_104, zak_105, zln_105, zak_108, zln_108, zak_109, zln_109, Nat.reduceLeDiff, zclr_I, zclr_R, zclr_L, zclr_U, reduceIte, Int.reduceEq, Int.reduceLT, Int.reduceLE, Int.reduceNeg, not_true_eq_false, not_false_eq_true, or_true, true_or, or_false, false_or, and_true, true_and, and_false, false_and, z01_or]
        · have g1' := eq_false g1
          rw [r148_291]
          simp only [r148_293, r148_294, r148_295, r148_296, r148_297, r148_370, r148_373, g1', w9, zak_40, zln_40, zak_41, zln_41, zak_42, zln_42, zak_43, zln_43, zak_44, zln_44, zak_45, zln_45, zak_46, zln_46, zak_47, zln_47, zak_48, zln_48, zak_49, zln_49, zak_50, zln_50, zak_51, zln_51, zak_52, zln_52, zak_53, zln_53, zak_54, zln_54, zak_55, zln_55, zak_73, zln_73, zak_74, zln_74, zak_75, zln_75, zak_76, zln_76, zak_77, zln_77, zak_78, zln_78, zak_79, zln_79, zak_80, zln_80, zak_81, zln_81, zak_82, zln_82, zak_83, zln_83, zak_84, zln_84, zak_85, zln_85, zak_86, zln_86, zak_87, zln_87, zak_88, zln_88, zak_89, zln_89, zak_90, zln_90, zak_91, zln_91, zak_92, zln_92, zak_93, zln_93, zak_94, zln_94, zak_95, zln_95, zak_96, zln_96, zak_97, zln_97, zak_98, zln_98, zak_99, zln_99, zak_100, zln_100, zak_101, zln_101, zak_102, zln_102, zak_103, zln_103, zak_104, zln_104, zak_105, zln_105, zak_108, zln_108, zak_109, zln_109, Nat.reduceLeDiff, zclr_I, zclr_R, zclr_L, zclr_U, reduceIte, Int.reduceEq, Int.reduceLT, Int.reduceLE, Int.reduceNeg, not_true_eq_false, not_false_eq_true, or_true, true_or, or_false, false_or, and_true, true_and, and_false, false_and, z01_or]
/-- the reference's classing -/
def FinR (ok : Int → Int → Prop) (c : Int → Int → Int) (T H R : Int) (A : Int → Int) : Prop := VA ok 0 T H A ∧ CA c 0 T A = R ∧ ∀ B : Int → Int, VA ok 0 T H B → CA c 0 T B = R → ∀ u : Int, 0 ≤ u → u < T → (∀ v : Int, 0 ≤ v → v < u → B v = A v) → A u ≤ B u
theorem lp148g {ok : Int → Int → Prop} {c : Int → Int → Int} {T H : Int} (hO : CsO ok c T H) (noon R : Int) (hR : R < 1000000000) (v6 v7 : zV) : ∀ (k : Nat) (t left : Int) (s : zS) (v5 : zV), 0 ≤ t → t + k = T → s 11 0 1 = T → (∀ u : Int, 0 ≤ u → u < T → PrR ok c H u (fun y => s 103 0 (1024 * u + y))) → (∀ u z : Int, 0 ≤ u → u ≤ T → 0 ≤ z → SubB z H → Wsp ok c T u z (s 102 0 (1024 * u + z))) → s 102 0 H = R → 0 ≤ left → SubB left H → (∀ u : Int, 0 ≤ u → u < t → s 104 0 u = 0 ∨ ok u (s 104 0 u)) → (∀ u v : Int, 0 ≤ u → u < t → 0 ≤ v → v < t → ¬ u = v → ∀ q : Int, 0 ≤ q → bi (s 104 0 u) q → ¬ bi (s 104 0 v) q) → (∀ q : Int, 0 ≤ q → (bi left q ↔ bi H q ∧ ¬ ∃ u : Int, 0 ≤ u ∧ u < t ∧ bi (s 104 0 u) q)) → CA c 0 t (fun u => s 104 0 u) + s 102 0 (1024 * t + left) = R → (∀ B : Int → Int, VA ok 0 T H B → CA c 0 T B = R → ∀ u : Int, 0 ≤ u → u < t → (∀ v : Int, 0 ≤ v → v < u → B v = s 104 0 v) → s 104 0 u ≤ B u) → ∃ s1 : zS, (∀ (m pc : Nat) (ls st : List zV) (fs : List zFr) (Q : List zV → zS → Prop), Ev ((148, 268, [zR 11 0, zI noon, zI H, zI left, zI t, v5, v6, v7], []) :: (m, pc, ls, st) :: fs) s Q = Ev ((m, pc, ls, zI R :: st) :: fs) s1 Q) ∧ (∀ g : Nat, ¬ g = 104 → s1 g = s g) ∧ FinR ok c T H R (fun u => s1 104 0 u) := by
  obtain ⟨⟨H0, H1⟩, ⟨T0, T1⟩, ok1, cc1⟩ := id hO
  have bH : (0 ≤ H ∧ H < 6144) = True := eq_true (by omega)
  have nn : ∀ (s : zS) (t : Int), t ≤ T → 0 ≤ t → (∀ u : Int, 0 ≤ u → u < t → s 104 0 u = 0 ∨ ok u (s 104 0 u)) → 0 ≤ CA c 0 t (fun u => s 104 0 u) := by
    intro s t t1 t0 V1
    refine CA_nn t _ t.toNat 0 (by omega) (fun u u0 u1 => ?_)
    rcases V1 u u0 u1 with h | h
    · exact Or.inl h
    · exact Or.inr (cc1 u _ u0 (by omega) h).1
  intro k
  induction k with
  | zero =>
    intro t left s v5 t0 t1 eT hP hW hH l0 lH V1 V2 V3 hS hL
    have et : t = T := by omega
    have e1 : (T ≤ t) = True := eq_true (by omega)
    have w := hW t left t0 (by omega) l0 lH
    have n0 := nn s t (by omega) t0 V1
    obtain ⟨A, a1, a2⟩ := w.2.2 (by omega)
    rw [et] at a1 a2
    have lz := (VA_e (by omega) l0).mp a1
    rw [CA_0 (by omega)] at a2
    have wz : s 102 0 (1024 * T + left) = 0 := a2.symm
    rw [← et] at wz
    rw [← et]
    refine ⟨s, fun m pc ls st fs Q => ?_, fun _ _ => rfl, ⟨V1, V2, fun q q0 => ?_⟩, ?_, ?_⟩
    · rw [r148_268]
      simp only [r148_270, r148_271, r148_274, r148_398, r148_399, r148_402, r148_403, r148_404, eT, e1, hH, bH, zak_40, zln_40, zak_41, zln_41, zak_42, zln_42, zak_43, zln_43, zak_44, zln_44, zak_45, zln_45, zak_46, zln_46, zak_47, zln_47, zak_48, zln_48, zak_49, zln_49, zak_50, zln_50, zak_51, zln_51, zak_52, zln_52, zak_53, zln_53, zak_54, zln_54, zak_55, zln_55, zak_73, zln_73, zak_74, zln_74, zak_75, zln_75, zak_76, zln_76, zak_77, zln_77, zak_78, zln_78, zak_79, zln_79, zak_80, zln_80, zak_81, zln_81, zak_82, zln_82, zak_83, zln_83, zak_84, zln_84, zak_85, zln_85, zak_86, zln_86, zak_87, zln_87, zak_88, zln_88, zak_89, zln_89, zak_90, zln_90, zak_91, zln_91, zak_92, zln_92, zak_93, zln_93, zak_94, zln_94, zak_95, zln_95, zak_96, zln_96, zak_97, zln_97, zak_98, zln_98, zak_99, zln_99, zak_100, zln_100, zak_101, zln_101, zak_102, zln_102, zak_103, zln_103, zak_104, zln_104, zak_105, zln_105, zak_108, zln_108, zak_109, zln_109, Nat.reduceLeDiff, zclr_I, zclr_R, zclr_L, zclr_U, reduceIte, Int.reduceEq, Int.reduceLT, Int.reduceLE, Int.reduceNeg, not_true_eq_false, not_false_eq_true, or_true, true_or, or_false, false_or, and_true, true_and, and_false, false_and, z01_or]
    · have := V3 q q0
      rw [lz] at this
      constructor
      · intro h
        exact Classical.byContradiction fun hn => bi_0 q (this.mpr ⟨h, hn⟩)
      · rintro ⟨u, u0, u1, hu⟩
        have hu : bi (s 104 0 u) q := hu
        rcases V1 u u0 u1 with h | h
        · rw [h] at hu; exact absurd hu (bi_0 q)
        · exact (ok1 u _ h).2 q q0 hu
    · omega
    · rw [← et] at hL; exact hL
  | succ k ih =>
    intro t left s v5 t0 t1 eT hP hW hH l0 lH V1 V2 V3 hS hL
    have e1 : (T ≤ t) = False := eq_false (by omega)
    have e2 : (1000000000 ≤ R) = False := eq_false (by omega)
    have ll := SubB_le l0 H0 lH
    have n0 := nn s t (by omega) t0 V1
    obtain ⟨w1, w2, w3⟩ := hW t left t0 (by omega) l0 lH
    have hPt := hP t t0 (by omega)
    have hCt : ∀ z : Int, 0 ≤ z → SubB z H → Wsp ok c T (t + 1) z ((fun z => s 102 0 (1024 * (t + 1) + z)) z) := fun z z0 zH => hW (t + 1) z (by omega) (by omega) z0 zH
    have good : ∀ B : Int → Int, VA ok t T left B → CA c t T B = s 102 0 (1024 * t + left) → 0 ≤ B t ∧ B t < 1024 ∧ Gsd s t left (B t) := by
      intro B hv he
      obtain ⟨⟨x0, xs⟩, xF, xl⟩ := W_A hO t0 (by omega) l0 lH hPt hCt hv
      have lo := W_lo (b := s 102 0 (1024 * t + left)) hO t0 (by omega) l0 lH hPt hCt x0 xs xF w2 w1.2
      have xb := SubB_le x0 l0 xs
      refine ⟨x0, by omega, (sub_z x0 (by omega) l0 (by omega)).mpr xs, xF, ?_⟩
      have xl : s 103 0 (1024 * t + B t) + s 102 0 (1024 * (t + 1) + zand left (zxor (B t) (-1))) ≤ CA c t T B := xl
      have lo : s 102 0 (1024 * t + left) ≤ s 103 0 (1024 * t + B t) + s 102 0 (1024 * (t + 1) + zand left (zxor (B t) (-1))) := lo
      omega
    obtain ⟨A0, a1, a2⟩ := w3 (by omega)
    obtain ⟨z0, z1, hz⟩ := good A0 a1 a2
    have pr0 : ∀ y : Int, 0 ≤ y → SubB y left → 0 ≤ s 103 0 (1024 * t + y) ∧ (s 103 0 (1024 * t + y) < 1000000000 → (y = 0 ∨ ok t y) ∧ (if y = 0 then 0 else c t y) = s 103 0 (1024 * t + y)) := by
      intro y y0 ys
      rcases hPt y y0 (fun q q0 hq => lH q q0 (ys q q0 hq)) with ⟨x1, x2⟩ | ⟨x0, x1, x2⟩ | ⟨x0, x1, x2⟩
      · have x2 : s 103 0 (1024 * t + y) = 0 := x2
        exact ⟨by omega, fun _ => ⟨Or.inl x1, by rw [if_pos x1]; omega⟩⟩
      · have x2 : s 103 0 (1024 * t + y) = c t y := x2
        have := cc1 t y t0 (by omega) x1
        exact ⟨by omega, fun _ => ⟨Or.inr x1, by rw [if_neg (by omega)]; omega⟩⟩
      · have x2 : s 103 0 (1024 * t + y) = 1000000000 := x2
        exact ⟨by omega, fun h => by omega⟩
    obtain ⟨y, y1, y2, y3, y4⟩ := lp148f noon H t left v6 v7 ⟨t0, by omega⟩ l0 (by omega) s (fun y y0 ys => (pr0 y y0 ys).1) (fun y y0 ys => by
      obtain ⟨d0, d1, d2, d3, d4⟩ := dif_bi l0 (by omega) y0 ys
      exact (hW (t + 1) _ (by omega) (by omega) d0 (fun q q0 hq => lH q q0 (d2 q q0 hq))).1) (A0 t) z1 hz (A0 t).toNat 0 (by omega) (by omega)
    obtain ⟨g1, g2, g3⟩ := id y2
    have ys := (sub_z y1.1 (by omega) l0 (by omega)).mp g1
    obtain ⟨p1, p2⟩ := pr0 y y1.1 ys
    obtain ⟨p3, p4⟩ := p2 g2
    obtain ⟨d0, d1, d2, d3, d4⟩ := dif_bi l0 (by omega) y1.1 ys
    have f11 : zup s 104 0 t y 11 = s 11 := zup_ng (by omega)
    have f102 : zup s 104 0 t y 102 = s 102 := zup_ng (by omega)
    have f103 : zup s 104 0 t y 103 = s 103 := zup_ng (by omega)
    have f4 : ∀ u : Int, u < t → zup s 104 0 t y 104 0 u = s 104 0 u := fun u hu => zup_nk (by omega)
    have f5 : zup s 104 0 t y 104 0 t = y := zup_eq _ _ _ _ _
    obtain ⟨s1, c1, c2, c3⟩ := ih (t + 1) (zand left (zxor y (-1))) (zup s 104 0 t y) (zI y) (by omega) (by omega) (by rw [f11]; exact eT) (by rw [f103]; exact hP) (by rw [f102]; exact hW) (by rw [f102]; exact hH) d0 (fun q q0 hq => lH q q0 (d2 q q0 hq)) (fun u u0 u1 => by
      by_cases e : u = t
      · rw [e, f5]; exact p3
      · rw [f4 u (by omega)]; exact V1 u u0 (by omega)) (fun u v u0 u1 v0 v1 hne q q0 => by
      by_cases e : u = t
      · rw [e, f5, f4 v (by omega)]
        intro hq hv
        exact ((V3 q q0).mp (ys q q0 hq)).2 ⟨v, v0, by omega, hv⟩
      · by_cases e' : v = t
        · rw [e', f5, f4 u (by omega)]
          intro hq hv
          exact ((V3 q q0).mp (ys q q0 hv)).2 ⟨u, u0, by omega, hq⟩
        · rw [f4 u (by omega), f4 v (by omega)]
          exact V2 u v u0 (by omega) v0 (by omega) hne q q0) (fun q q0 => by
      rw [d3 q q0, V3 q q0]
      constructor
      · rintro ⟨⟨x1, x2⟩, x3⟩
        refine ⟨x1, fun ⟨u, u0, u1, hu⟩ => ?_⟩
        by_cases e : u = t
        · rw [e, f5] at hu; exact x3 hu
        · rw [f4 u (by omega)] at hu; exact x2 ⟨u, u0, by omega, hu⟩
      · rintro ⟨x1, x2⟩
        refine ⟨⟨x1, fun ⟨u, u0, u1, hu⟩ => x2 ⟨u, u0, by omega, by rw [f4 u u1]; exact hu⟩⟩, fun hu => x2 ⟨t, t0, by omega, by rw [f5]; exact hu⟩⟩) (by
      rw [CA_back t0, f102, f5, p4, CA_c (B := fun u => s 104 0 u) (fun u u0 u1 => f4 u u1)]
      omega) (fun B hv he u u0 u1 hpre => by
      by_cases e : u = t
      · rw [e, f5]
        rw [e] at hpre
        have pe : ∀ v : Int, 0 ≤ v → v < t → B v = s 104 0 v := fun v v0 v1 => by rw [hpre v v0 v1, f4 v v1]
        have sv := VA_suf (D := left) hv t0 (fun q q0 => by
          rw [V3 q q0]
          constructor
          · rintro ⟨x1, x2⟩
            exact ⟨x1, fun ⟨v, v0, v1, hv2⟩ => x2 ⟨v, v0, v1, by rw [← pe v v0 v1]; exact hv2⟩⟩
          · rintro ⟨x1, x2⟩
            exact ⟨x1, fun ⟨v, v0, v1, hv2⟩ => x2 ⟨v, v0, v1, by rw [pe v v0 v1]; exact hv2⟩⟩)
        have sp := CA_split (c := c) T B t.toNat 0 t (by omega) (by omega)
        rw [CA_c (hi := t) (B := fun u => s 104 0 u) pe] at sp
        obtain ⟨b0, b1, b2⟩ := good B sv (by omega)
        refine Classical.byContradiction fun hn => y3 (B t) b0 (by omega) b2
      · rw [f4 u (by omega)]
        exact hL B hv he u u0 (by omega) (fun v v0 v1 => by rw [hpre v v0 v1, f4 v (by omega)]))
    refine ⟨s1, fun m pc ls st fs Q => ?_, fun g hg => by rw [c2 g hg, zup_ng hg], c3⟩
    have bt : (0 ≤ t ∧ t < 5) = True := eq_true (by omega)
    have u1 : w32 (t + 1) = t + 1 := w32_id (by omega) (by omega)
    rw [r148_268]
    simp only [r148_270, r148_271, r148_274, r148_277, r148_278, r148_281, r148_282, r148_283, r148_285, r148_288, r148_289, eT, e1, hH, bH, e2, zak_40, zln_40, zak_41, zln_41, zak_42, zln_42, zak_43, zln_43, zak_44, zln_44, zak_45, zln_45, zak_46, zln_46, zak_47, zln_47, zak_48, zln_48, zak_49, zln_49, zak_50, zln_50, zak_51, zln_51, zak_52, zln_52, zak_53, zln_53, zak_54, zln_54, zak_55, zln_55, zak_73, zln_73, zak_74, zln_74, zak_75, zln_75, zak_76, zln_76, zak_77, zln_77, zak_78, zln_78, zak_79, zln_79, zak_80, zln_80, zak_81, zln_81, zak_82, zln_82, zak_83, zln_83, zak_84, zln_84, zak_85, zln_85, zak_86, zln_86, zak_87, zln_87, zak_88, zln_88, zak_89, zln_89, zak_90, zln_90, zak_91, zln_91, zak_92, zln_92, zak_93, zln_93, zak_94, zln_94, zak_95, zln_95, zak_96, zln_96, zak_97, zln_97, zak_98, zln_98, zak_99, zln_99, zak_100, zln_100, zak_101, zln_101, zak_102, zln_102, zak_103, zln_103, zak_104, zln_104, zak_105, zln_105, zak_108, zln_108, zak_109, zln_109, Nat.reduceLeDiff, zclr_I, zclr_R, zclr_L, zclr_U, reduceIte, Int.reduceEq, Int.reduceLT, Int.reduceLE, Int.reduceNeg, not_true_eq_false, not_false_eq_true, or_true, true_or, or_false, false_or, and_true, true_and, and_false, false_and, z01_or]
    rw [y4]
    simp only [r148_376, r148_377, r148_380, r148_382, r148_384, r148_385, r148_386, r148_388, r148_389, r148_390, r148_391, r148_392, r148_395, bt, u1, zak_40, zln_40, zak_41, zln_41, zak_42, zln_42, zak_43, zln_43, zak_44, zln_44, zak_45, zln_45, zak_46, zln_46, zak_47, zln_47, zak_48, zln_48, zak_49, zln_49, zak_50, zln_50, zak_51, zln_51, zak_52, zln_52, zak_53, zln_53, zak_54, zln_54, zak_55, zln_55, zak_73, zln_73, zak_74, zln_74, zak_75, zln_75, zak_76, zln_76, zak_77, zln_77, zak_78, zln_78, zak_79, zln_79, zak_80, zln_80, zak_81, zln_81, zak_82, zln_82, zak_83, zln_83, zak_84, zln_84, zak_85, zln_85, zak_86, zln_86, zak_87, zln_87, zak_88, zln_88, zak_89, zln_89, zak_90, zln_90, zak_91, zln_91, zak_92, zln_92, zak_93, zln_93, zak_94, zln_94, zak_95, zln_95, zak_96, zln_96, zak_97, zln_97, zak_98, zln_98, zak_99, zln_99, zak_100, zln_100, zak_101, zln_101, zak_102, zln_102, zak_103, zln_103, zak_104, zln_104, zak_105, zln_105, zak_108, zln_108, zak_109, zln_109, Nat.reduceLeDiff, zclr_I, zclr_R, zclr_L, zclr_U, reduceIte, Int.reduceEq, Int.reduceLT, Int.reduceLE, Int.reduceNeg, not_true_eq_false, not_false_eq_true, or_true, true_or, or_false, false_or, and_true, true_and, and_false, false_and, z01_or]
    exact c1 m pc ls st fs Q

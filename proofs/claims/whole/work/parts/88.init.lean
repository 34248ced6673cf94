theorem cst_c {s0 s : zS} (h : Sm s0 s) (noon t x : Int) : cst s noon t x = cst s0 noon t x := by
  have e : mayM s t x = mayM s0 t x := mayM_c t x (fun g hg => h g (by unfold Scr; omega))
  unfold cst cR wM mM
  rw [e, h 11 (by unfold Scr; omega), h 86 (by unfold Scr; omega), h 79 (by unfold Scr; omega)]
def prV (s0 : zS) (noon t x : Int) : Int := if zand x (zxor (s0 6 0 4) (-1)) = 0 then cst s0 noon t x else 1000000000
theorem sub_z {x h : Int} (x0 : 0 ≤ x) (x1 : x < 1024) (h0 : 0 ≤ h) (h1 : h < 1024) : zand x (zxor h (-1)) = 0 ↔ SubB x h := by
  obtain ⟨b0, b1, b2⟩ := zandnot_bi x0 x1 h0 h1
  rw [zero_bi b0]
  constructor
  · intro hz q q0 hq
    exact Classical.byContradiction fun hn => hz q q0 ((b2 q q0).mpr ⟨hq, hn⟩)
  · intro hs q q0 hq
    exact ((b2 q q0).mp hq).2 (hs q q0 ((b2 q q0).mp hq).1)
theorem lp148a {L : Nat} {s0 : zS} (hs : Inv L s0) (noon x : Int) (hn : noon = 0 ∨ noon = 1) (x0 : 0 ≤ x) (x1 : x < 1024) (v5 v6 v7 : zV) : ∀ (k : Nat) (t : Int) (s : zS), 0 ≤ t → t + k = s0 11 0 1 → Sm s0 s → ∃ s1 : zS, (∀ (F : List zFr) (Q : List zV → zS → Prop), Ev ((148, 40, [zR 11 0, zI noon, zI (s0 6 0 4), zI x, zI t, v5, v6, v7], []) :: F) s Q = Ev ((148, 89, [zR 11 0, zI noon, zI (s0 6 0 4), zI x, zI (s0 11 0 1), v5, v6, v7], []) :: F) s1 Q) ∧ (∀ g : Nat, ¬ g = 103 → s1 g = s g) ∧ (∀ u : Int, t ≤ u → u < s0 11 0 1 → s1 103 0 (1024 * u + x) = prV s0 noon u x) ∧ ∀ j : Int, (∀ u : Int, t ≤ u → u < s0 11 0 1 → ¬ j = 1024 * u + x) → s1 103 0 j = s 103 0 j := by
  obtain ⟨h1, h2, h3, h4, h5, h6, h7, h8, h9, h10, h11, h12, h13, h14, h15, h16⟩ := id hs
  obtain ⟨H0, H1, -⟩ := id h14
  have h50 := h5.2
  intro k
  induction k with
  | zero =>
    intro t s t0 t1 hS
    have e11 : s 11 = s0 11 := hS 11 (by unfold Scr; omega)
    have e1 : (s0 11 0 1 ≤ t) = True := eq_true (by omega)
    have e2 : t = s0 11 0 1 := by omega
    refine ⟨s, fun F Q => ?_, fun _ _ => rfl, fun u u0 u1 => by omega, fun _ _ => rfl⟩
    rw [r148_40]
    simp only [r148_42, r148_43, r148_46, r148_49, r148_50, r148_53, r148_56, r148_58, r148_59, r148_60, r148_61, r148_62, r148_63, r148_64, r148_65, r148_66, r148_69, r148_71, r148_74, r148_75, r148_77, r148_78, r148_79, r148_82, r148_83, r148_86, e11, e1, zclr_I, zclr_R, zclr_L, zclr_U, reduceIte, Int.reduceEq, Int.reduceLT, Int.reduceLE, Int.reduceNeg, not_true_eq_false, not_false_eq_true, or_true, true_or, or_false, false_or, and_true, true_and, and_false, false_and, z01_or]
    rw [e2]
  | succ k ih =>
    intro t s t0 t1 hS
    have e11 : s 11 = s0 11 := hS 11 (by unfold Scr; omega)
    have e6 : s 6 = s0 6 := hS 6 (by unfold Scr; omega)
    have e1 : (s0 11 0 1 ≤ t) = False := eq_false (by omega)
    have w1 : w32 (t + 1) = t + 1 := w32_id (by omega) (by omega)
    have w2 : w32 (1024 * t) = 1024 * t := w32_id (by omega) (by omega)
    have w3 : w32 (1024 * t + x) = 1024 * t + x := w32_id (by omega) (by omega)
    have b1 : (0 ≤ 1024 * t + x ∧ 1024 * t + x < 5120) = True := eq_true (by omega)
    have S1 : Sm s0 (zup s 103 0 (1024 * t + x) (prV s0 noon t x)) := Sm_up _ _ _ (by unfold Scr; omega) hS
    obtain ⟨s1, c1, c2, c3, c4⟩ := ih (t + 1) (zup s 103 0 (1024 * t + x) (prV s0 noon t x)) (by omega) (by omega) S1
    refine ⟨s1, fun F Q => ?_, fun g hg => by rw [c2 g hg, zup_ng hg], fun u u0 u1 => ?_, fun j hj => ?_⟩
    · rw [← c1]
      rw [r148_40]
      by_cases c : zand x (zxor (s0 6 0 4) (-1)) = 0
      · have xH := (sub_z x0 x1 H0 H1).mp c
        have ev : prV s0 noon t x = cst s noon t x := by unfold prV; rw [if_pos c, cst_c hS]
        have kC := k_costOf (Inv_Sm hS hs) noon t x hn t0 (by rw [e11]; omega) x0 (by rw [e6]; exact xH)
        rw [ev]
        simp only [r148_42, r148_43, r148_46, r148_49, r148_50, r148_53, r148_56, r148_58, r148_59, r148_60, r148_61, r148_62, r148_63, r148_64, r148_65, r148_66, r148_69, r148_71, r148_74, r148_75, r148_77, r148_78, r148_79, r148_82, r148_83, r148_86, kC, e11, e1, c, b1, w1, w2, w3, zak_40, zln_40, zak_41, zln_41, zak_42, zln_42, zak_43, zln_43, zak_44, zln_44, zak_45, zln_45, zak_46, zln_46, zak_47, zln_47, zak_48, zln_48, zak_49, zln_49, zak_50, zln_50, zak_51, zln_51, zak_52, zln_52, zak_53, zln_53, zak_54, zln_54, zak_55, zln_55, zak_73, zln_73, zak_74, zln_74, zak_75, zln_75, zak_76, zln_76, zak_77, zln_77, zak_78, zln_78, zak_79, zln_79, zak_80, zln_80, zak_81, zln_81, zak_82, zln_82, zak_83, zln_83, zak_84, zln_84, zak_85, zln_85, zak_86, zln_86, zak_87, zln_87, zak_88, zln_88, zak_89, zln_89, zak_90, zln_90, zak_91, zln_91, zak_92, zln_92, zak_93, zln_93, zak_94, zln_94, zak_95, zln_95, zak_96, zln_96, zak_97, zln_97, zak_98, zln_98, zak_99, zln_99, zak_100, zln_100, zak_101, zln_101, zak_102, zln_102, zak_103, zln_103, zak_104, zln_104, zak_105, zln_105, zak_108, zln_108, zak_109, zln_109, Nat.reduceLeDiff, zclr_I, zclr_R, zclr_L, zclr_U, reduceIte, Int.reduceEq, Int.reduceLT, Int.reduceLE, Int.reduceNeg, not_true_eq_false, not_false_eq_true, or_true, true_or, or_false, false_or, and_true, true_and, and_false, false_and, z01_or]
      · have ev : prV s0 noon t x = 1000000000 := if_neg c
        rw [ev]
        simp only [r148_42, r148_43, r148_46, r148_49, r148_50, r148_53, r148_56, r148_58, r148_59, r148_60, r148_61, r148_62, r148_63, r148_64, r148_65, r148_66, r148_69, r148_71, r148_74, r148_75, r148_77, r148_78, r148_79, r148_82, r148_83, r148_86, e11, e1, c, b1, w1, w2, w3, zak_40, zln_40, zak_41, zln_41, zak_42, zln_42, zak_43, zln_43, zak_44, zln_44, zak_45, zln_45, zak_46, zln_46, zak_47, zln_47, zak_48, zln_48, zak_49, zln_49, zak_50, zln_50, zak_51, zln_51, zak_52, zln_52, zak_53, zln_53, zak_54, zln_54, zak_55, zln_55, zak_73, zln_73, zak_74, zln_74, zak_75, zln_75, zak_76, zln_76, zak_77, zln_77, zak_78, zln_78, zak_79, zln_79, zak_80, zln_80, zak_81, zln_81, zak_82, zln_82, zak_83, zln_83, zak_84, zln_84, zak_85, zln_85, zak_86, zln_86, zak_87, zln_87, zak_88, zln_88, zak_89, zln_89, zak_90, zln_90, zak_91, zln_91, zak_92, zln_92, zak_93, zln_93, zak_94, zln_94, zak_95, zln_95, zak_96, zln_96, zak_97, zln_97, zak_98, zln_98, zak_99, zln_99, zak_100, zln_100, zak_101, zln_101, zak_102, zln_102, zak_103, zln_103, zak_104, zln_104, zak_105, zln_105, zak_108, zln_108, zak_109, zln_109, Nat.reduceLeDiff, zclr_I, zclr_R, zclr_L, zclr_U, reduceIte, Int.reduceEq, Int.reduceLT, Int.reduceLE, Int.reduceNeg, not_true_eq_false, not_false_eq_true, or_true, true_or, or_false, false_or, and_true, true_and, and_false, false_and, z01_or]
    · by_cases e : u = t
      · rw [e, c4 _ (fun v v0 v1 => by omega), zup_eq]
      · exact c3 u (by omega) u1
    · rw [c4 j (fun u u0 u1 => hj u (by omega) u1), zup_nk (hj t (by omega) (by omega))]
theorem lp148b {L : Nat} {s0 : zS} (hs : Inv L s0) (noon : Int) (hn : noon = 0 ∨ noon = 1) (v5 v6 v7 : zV) : ∀ (n : Nat) (x : Int) (s : zS) (v4 : zV), 0 ≤ x → x + n = s0 6 0 4 + 1 → Sm s0 s → (∀ y : Int, 0 ≤ y → y < x → s 102 0 (1024 * s0 11 0 1 + y) = (if y = 0 then 0 else 1000000000) ∧ ∀ u : Int, 0 ≤ u → u < s0 11 0 1 → s 103 0 (1024 * u + y) = prV s0 noon u y) → ∃ (s1 : zS) (v4' : zV), (∀ (F : List zFr) (Q : List zV → zS → Prop), Ev ((148, 7, [zR 11 0, zI noon, zI (s0 6 0 4), zI x, v4, v5, v6, v7], []) :: F) s Q = Ev ((148, 95, [zR 11 0, zI noon, zI (s0 6 0 4), zI (s0 6 0 4 + 1), v4', v5, v6, v7], []) :: F) s1 Q) ∧ Sm s0 s1 ∧ ∀ y : Int, 0 ≤ y → y ≤ s0 6 0 4 → s1 102 0 (1024 * s0 11 0 1 + y) = (if y = 0 then 0 else 1000000000) ∧ ∀ u : Int, 0 ≤ u → u < s0 11 0 1 → s1 103 0 (1024 * u + y) = prV s0 noon u y := by
  obtain ⟨h1, h2, h3, h4, h5, h6, h7, h8, h9, h10, h11, h12, h13, h14, h15, h16⟩ := id hs
  obtain ⟨H0, H1, -⟩ := id h14
  have h50 := h5.2
  intro n
  induction n with
  | zero =>
    intro x s v4 x0 x1 hS hI
    have e1 : (s0 6 0 4 < x) = True := eq_true (by omega)
    have e2 : x = s0 6 0 4 + 1 := by omega
    refine ⟨s, v4, fun F Q => ?_, hS, fun y y0 y1 => hI y y0 (by omega)⟩
    rw [r148_7]
    simp only [r148_8, r148_9, e1, zclr_I, zclr_R, zclr_L, zclr_U, reduceIte, Int.reduceEq, Int.reduceLT, Int.reduceLE, Int.reduceNeg, not_true_eq_false, not_false_eq_true, or_true, true_or, or_false, false_or, and_true, true_and, and_false, false_and, z01_or]
    rw [e2]
  | succ n ih =>
    intro x s v4 x0 x1 hS hI
    have e11 : s 11 = s0 11 := hS 11 (by unfold Scr; omega)
    have e1 : (s0 6 0 4 < x) = False := eq_false (by omega)
    have w1 : w32 (x + 1) = x + 1 := w32_id (by omega) (by omega)
    have w2 : w32 (1024 * s0 11 0 1) = 1024 * s0 11 0 1 := w32_id (by omega) (by omega)
    have w3 : w32 (1024 * s0 11 0 1 + x) = 1024 * s0 11 0 1 + x := w32_id (by omega) (by omega)
    have b1 : (0 ≤ 1024 * s0 11 0 1 + x ∧ 1024 * s0 11 0 1 + x < 6144) = True := eq_true (by omega)
    have S1 : Sm s0 (zup s 102 0 (1024 * s0 11 0 1 + x) (if x = 0 then 0 else 1000000000)) := Sm_up _ _ _ (by unfold Scr; omega) hS
    obtain ⟨sA, a1, a2, a3, a4⟩ := lp148a hs noon x hn x0 (by omega) v5 v6 v7 (s0 11 0 1).toNat 0 _ (by omega) (by omega) S1
    have SA : Sm s0 sA := fun g hg => by rw [a2 g (fun e => hg (by rw [e]; unfold Scr; omega))]; exact S1 g hg
    obtain ⟨s1, w4, c1, c2, c3⟩ := ih (x + 1) sA (zI (s0 11 0 1)) (by omega) (by omega) SA (fun y y0 y1 => by
      by_cases e : y = x
      · rw [e]
        refine ⟨by rw [a2 102 (by omega), zup_eq], fun u u0 u1 => a3 u u0 u1⟩
      · obtain ⟨i1, i2⟩ := hI y y0 (by omega)
        refine ⟨by rw [a2 102 (by omega), zup_nk (by omega)]; exact i1, fun u u0 u1 => ?_⟩
        rw [a4 _ (fun v v0 v1 => by omega), zup_ng (by omega)]
        exact i2 u u0 u1)
    refine ⟨s1, w4, fun F Q => ?_, c2, c3⟩
    rw [← c1, r148_7]
    by_cases cx : x = 0
    · rw [if_pos cx] at a1
      have cx' := eq_true cx
      simp only [r148_8, r148_9, r148_12, r148_13, r148_16, r148_19, r148_20, r148_23, r148_24, r148_25, r148_26, r148_27, r148_30, r148_31, r148_34, r148_36, r148_37, r148_38, e11, e1, cx', b1, w2, w3, zak_40, zln_40, zak_41, zln_41, zak_42, zln_42, zak_43, zln_43, zak_44, zln_44, zak_45, zln_45, zak_46, zln_46, zak_47, zln_47, zak_48, zln_48, zak_49, zln_49, zak_50, zln_50, zak_51, zln_51, zak_52, zln_52, zak_53, zln_53, zak_54, zln_54, zak_55, zln_55, zak_73, zln_73, zak_74, zln_74, zak_75, zln_75, zak_76, zln_76, zak_77, zln_77, zak_78, zln_78, zak_79, zln_79, zak_80, zln_80, zak_81, zln_81, zak_82, zln_82, zak_83, zln_83, zak_84, zln_84, zak_85, zln_85, zak_86, zln_86, zak_87, zln_87, zak_88, zln_88, zak_89, zln_89, zak_90, zln_90, zak_91, zln_91, zak_92, zln_92, zak_93, zln_93, zak_94, zln_94, zak_95, zln_95, zak_96, zln_96, zak_97, zln_97, zak_98, zln_98, zak_99, zln_99, zak_100, zln_100, zak_101, zln_101, zak_102, zln_102, zak_103, zln_103, zak_104, zln_104, zak_105, zln_105, zak_108, zln_108, zak_109, zln_109, Nat.reduceLeDiff, zclr_I, zclr_R, zclr_L, zclr_U, reduceIte, Int.reduceEq, Int.reduceLT, Int.reduceLE, Int.reduceNeg, not_true_eq_false, not_false_eq_true, or_true, true_or, or_false, false_or, and_true, true_and, and_false, false_and, z01_or]
      rw [a1]
      simp only [r148_89, r148_92, w1, zclr_I, zclr_R, zclr_L, zclr_U, reduceIte, Int.reduceEq, Int.reduceLT, Int.reduceLE, Int.reduceNeg, not_true_eq_false, not_false_eq_true, or_true, true_or, or_false, false_or, and_true, true_and, and_false, false_and, z01_or]
    · rw [if_neg cx] at a1
      have cx' := eq_false cx
      simp only [r148_8, r148_9, r148_12, r148_13, r148_16, r148_19, r148_20, r148_23, r148_24, r148_25, r148_26, r148_27, r148_30, r148_31, r148_34, r148_36, r148_37, r148_38, e11, e1, cx', b1, w2, w3, zak_40, zln_40, zak_41, zln_41, zak_42, zln_42, zak_43, zln_43, zak_44, zln_44, zak_45, zln_45, zak_46, zln_46, zak_47, zln_47, zak_48, zln_48, zak_49, zln_49, zak_50, zln_50, zak_51, zln_51, zak_52, zln_52, zak_53, zln_53, zak_54, zln_54, zak_55, zln_55, zak_73, zln_73, zak_74, zln_74, zak_75, zln_75, zak_76, zln_76, zak_77, zln_77, zak_78, zln_78, zak_79, zln_79, zak_80, zln_80, zak_81, zln_81, zak_82, zln_82, zak_83, zln_83, zak_84, zln_84, zak_85, zln_85, zak_86, zln_86, zak_87, zln_87, zak_88, zln_88, zak_89, zln_89, zak_90, zln_90, zak_91, zln_91, zak_92, zln_92, zak_93, zln_93, zak_94, zln_94, zak_95, zln_95, zak_96, zln_96, zak_97, zln_97, zak_98, zln_98, zak_99, zln_99, zak_100, zln_100, zak_101, zln_101, zak_102, zln_102, zak_103, zln_103, zak_104, zln_104, zak_105, zln_105, zak_108, zln_108, zak_109, zln_109, Nat.reduceLeDiff, zclr_I, zclr_R, zclr_L, zclr_U, reduceIte, Int.reduceEq, Int.reduceLT, Int.reduceLE, Int.reduceNeg, not_true_eq_false, not_false_eq_true, or_true, true_or, or_false, false_or, and_true, true_and, and_false, false_and, z01_or]
      rw [a1]
      simp only [r148_89, r148_92, w1, zclr_I, zclr_R, zclr_L, zclr_U, reduceIte, Int.reduceEq, Int.reduceLT, Int.reduceLE, Int.reduceNeg, not_true_eq_false, not_false_eq_true, or_true, true_or, or_false, false_or, and_true, true_and, and_false, false_and, z01_or]
/-- over the parts of a set -/
theorem lp148c (noon H t x : Int) (t0 : 0 ≤ t ∧ t < 5) (x0 : 0 ≤ x) (x1 : x < 1024) (s : zS) (hP : ∀ y : Int, 0 ≤ y → SubB y x → 0 ≤ s 103 0 (1024 * t + y) ∧ s 103 0 (1024 * t + y) ≤ 1000000000) (hC : ∀ y : Int, 0 ≤ y → SubB y x → 0 ≤ s 102 0 (1024 * (t + 1) + zand x (zxor y (-1))) ∧ s 102 0 (1024 * (t + 1) + zand x (zxor y (-1))) ≤ 1000000000) : ∀ (n : Nat) (y b : Int) (v7 : zV), y < n → -1 ≤ y → (y = -1 ∨ SubB y x) → 0 ≤ b → b ≤ 1000000000 → ∃ (b' : Int) (v7' : zV), (∀ (F : List zFr) (Q : List zV → zS → Prop), Ev ((148, 135, [zR 11 0, zI noon, zI H, zI t, zI x, zI b, zI y, v7], []) :: F) s Q = Ev ((148, 236, [zR 11 0, zI noon, zI H, zI t, zI x, zI b', zI (-1), v7'], []) :: F) s Q) ∧ (0 ≤ b' ∧ b' ≤ b) ∧ (∀ z : Int, 0 ≤ z → z ≤ y → SubB z x → s 103 0 (1024 * t + z) < 1000000000 → b' ≤ s 103 0 (1024 * t + z) + s 102 0 (1024 * (t + 1) + zand x (zxor z (-1)))) ∧ (b' = b ∨ ∃ z : Int, 0 ≤ z ∧ SubB z x ∧ s 103 0 (1024 * t + z) < 1000000000 ∧ b' = s 103 0 (1024 * t + z) + s 102 0 (1024 * (t + 1) + zand x (zxor z (-1)))) := by
  intro n
  induction n with
  | zero =>
    intro y b v7 hn hy _ b0 b1
    have e1 : (y < 0) = True := eq_true (by omega)
    have e2 : y = -1 := by omega
    refine ⟨b, v7, fun F Q => ?_, by omega, fun z z0 z1 => by omega, Or.inl rfl⟩
    rw [r148_135]
    simp only [r148_137, r148_140, r148_141, r148_144, r148_147, r148_148, r148_149, r148_151, r148_152, r148_153, r148_155, r148_158, r148_160, r148_163, r148_164, r148_167, r148_170, r148_171, r148_172, r148_174, r148_175, r148_176, r148_177, r148_180, r148_183, r148_184, r148_185, r148_186, r148_187, r148_189, r148_191, r148_192, r148_193, r148_194, r148_195, r148_196, r148_197, r148_199, r148_201, r148_203, r148_206, r148_208, r148_211, r148_213, r148_215, r148_217, r148_220, r148_221, r148_224, r148_226, r148_227, r148_228, r148_230, r148_231, r148_233, e1, zclr_I, zclr_R, zclr_L, zclr_U, reduceIte, Int.reduceEq, Int.reduceLT, Int.reduceLE, Int.reduceNeg, not_true_eq_false, not_false_eq_true, or_true, true_or, or_false, false_or, and_true, true_and, and_false, false_and, z01_or]
    rw [e2]
  | succ n ih =>
    intro y b v7 hn hy hs b0 b1
    by_cases hy0 : y < 0
    · have e1 : (y < 0) = True := eq_true hy0
      have e2 : y = -1 := by omega
      refine ⟨b, v7, fun F Q => ?_, by omega, fun z z0 z1 => by omega, Or.inl rfl⟩
      rw [r148_135]
      simp only [r148_137, r148_140, r148_141, r148_144, r148_147, r148_148, r148_149, r148_151, r148_152, r148_153, r148_155, r148_158, r148_160, r148_163, r148_164, r148_167, r148_170, r148_171, r148_172, r148_174, r148_175, r148_176, r148_177, r148_180, r148_183, r148_184, r148_185, r148_186, r148_187, r148_189, r148_191, r148_192, r148_193, r148_194, r148_195, r148_196, r148_197, r148_199, r148_201, r148_203, r148_206, r148_208, r148_211, r148_213, r148_215, r148_217, r148_220, r148_221, r148_224, r148_226, r148_227, r148_228, r148_230, r148_231, r148_233, e1, zclr_I, zclr_R, zclr_L, zclr_U, reduceIte, Int.reduceEq, Int.reduceLT, Int.reduceLE, Int.reduceNeg, not_true_eq_false, not_false_eq_true, or_true, true_or, or_false, false_or, and_true, true_and, and_false, false_and, z01_or]
      rw [e2]
    · have e1 : (y < 0) = False := eq_false hy0
      have ys : SubB y x := hs.resolve_left (by omega)
      have yl := SubB_le (by omega) x0 ys
      obtain ⟨d0, d1, d2, d3, d4⟩ := dif_bi x0 x1 (show 0 ≤ y by omega) ys
      obtain ⟨p0, p1⟩ := hP y (by omega) ys
      obtain ⟨q0, q1⟩ := hC y (by omega) ys
      have w1 : w32 (1024 * t) = 1024 * t := w32_id (by omega) (by omega)
      have w2 : w32 (1024 * t + y) = 1024 * t + y := w32_id (by omega) (by omega)
      have w3 : w32 (t + 1) = t + 1 := w32_id (by omega) (by omega)
      have w4 : w32 (1024 * (t + 1)) = 1024 * (t + 1) := w32_id (by omega) (by omega)
      have w5 : w32 (1024 * (t + 1) + zand x (zxor y (-1))) = 1024 * (t + 1) + zand x (zxor y (-1)) := w32_id (by omega) (by omega)
      have bp : (0 ≤ 1024 * t + y ∧ 1024 * t + y < 5120) = True := eq_true (by omega)
      have bc : (0 ≤ 1024 * (t + 1) + zand x (zxor y (-1)) ∧ 1024 * (t + 1) + zand x (zxor y (-1)) < 6144) = True := eq_true (by omega)
      have w7 : w32 (y - 1) = y - 1 := w32_id (by omega) (by omega)
      have nxt : ∃ y' : Int, y' = (if y = 0 then -1 else zand (y - 1) x) ∧ y' < n ∧ -1 ≤ y' ∧ (y' = -1 ∨ SubB y' x) ∧ ∀ z : Int, 0 ≤ z → SubB z x → z ≤ y → ¬ z = y → z ≤ y' := by
        by_cases e : y = 0
        · exact ⟨-1, by rw [if_pos e], by omega, by omega, Or.inl rfl, fun z z0 zs z1 z2 => by omega⟩
        · obtain ⟨a0, a1, a2, a3⟩ := sub_next x0 x1 (show 0 < y by omega) ys
          exact ⟨_, by rw [if_neg e], by omega, by omega, Or.inr a2, fun z z0 zs z1 z2 => a3 z z0 zs (by omega)⟩
      obtain ⟨y', n1, n2, n3, n4, n5⟩ := nxt
      have run : ∀ (v : Int) (F : List zFr) (Q : List zV → zS → Prop) (w7 : zV), Ev ((148, 215, [zR 11 0, zI noon, zI H, zI t, zI x, zI v, zI y, w7], []) :: F) s Q = Ev ((148, 135, [zR 11 0, zI noon, zI H, zI t, zI x, zI v, zI y', w7], []) :: F) s Q := by
        intro v F Q w7'
        by_cases e : y = 0
        · rw [if_pos e] at n1
          rw [n1]
          have e' := eq_true e
          simp only [r148_215, r148_217, r148_220, r148_221, r148_224, r148_226, r148_227, r148_228, r148_230, r148_231, r148_233, e', zclr_I, zclr_R, zclr_L, zclr_U, reduceIte, Int.reduceEq, Int.reduceLT, Int.reduceLE, Int.reduceNeg, not_true_eq_false, not_false_eq_true, or_true, true_or, or_false, false_or, and_true, true_and, and_false, false_and, z01_or]
        · rw [if_neg e] at n1
          rw [n1]
          have e' := eq_false e
          simp only [r148_215, r148_217, r148_220, r148_221, r148_224, r148_226, r148_227, r148_228, r148_230, r148_231, r148_233, e', w7, zclr_I, zclr_R, zclr_L, zclr_U, reduceIte, Int.reduceEq, Int.reduceLT, Int.reduceLE, Int.reduceNeg, not_true_eq_false, not_false_eq_true, or_true, true_or, or_false, false_or, and_true, true_and, and_false, false_and, z01_or]
      by_cases cF : s 103 0 (1024 * t + y) < 1000000000
      · have cF' := eq_true cF
        have w6 : w32 (s 103 0 (1024 * t + y) + s 102 0 (1024 * (t + 1) + zand x (zxor y (-1)))) = s 103 0 (1024 * t + y) + s 102 0 (1024 * (t + 1) + zand x (zxor y (-1))) := w32_id (by omega) (by omega)
        by_cases cb : s 103 0 (1024 * t + y) + s 102 0 (1024 * (t + 1) + zand x (zxor y (-1))) < b
        · have cb' : (b ≤ s 103 0 (1024 * t + y) + s 102 0 (1024 * (t + 1) + zand x (zxor y (-1)))) = False := eq_false (by omega)
          obtain ⟨b', x7, r1, r2, r3, r4⟩ := ih y' _ (zI (s 103 0 (1024 * t + y) + s 102 0 (1024 * (t + 1) + zand x (zxor y (-1))))) n2 n3 n4 (show 0 ≤ s 103 0 (1024 * t + y) + s 102 0 (1024 * (t + 1) + zand x (zxor y (-1))) by omega) (by omega)
          refine ⟨b', x7, fun F Q => ?_, by omega, fun z z0 z1 zs zF => ?_, ?_⟩
          · rw [r148_135]
            simp only [r148_137, r148_140, r148_141, r148_144, r148_147, r148_148, r148_149, r148_151, r148_152, r148_153, r148_155, r148_158, r148_160, r148_163, r148_164, r148_167, r148_170, r148_171, r148_172, r148_174, r148_175, r148_176, r148_177, r148_180, r148_183, r148_184, r148_185, r148_186, r148_187, r148_189, r148_191, r148_192, r148_193, r148_194, r148_195, r148_196, r148_197, r148_199, r148_201, r148_203, r148_206, r148_208, r148_211, r148_213, e1, cF', cb', bp, bc, w1, w2, w3, w4, w5, w6, zak_40, zln_40, zak_41, zln_41, zak_42, zln_42, zak_43, zln_43, zak_44, zln_44, zak_45, zln_45, zak_46, zln_46, zak_47, zln_47, zak_48, zln_48, zak_49, zln_49, zak_50, zln_50, zak_51, zln_51, zak_52, zln_52, zak_53, zln_53, zak_54, zln_54, zak_55, zln_55, zak_73, zln_73, zak_74, zln_74, zak_75, zln_75, zak_76, zln_76, zak_77, zln_77, zak_78, zln_78, zak_79, zln_79, zak_80, zln_80, zak_81, zln_81, zak_82, zln_82, zak_83, zln_83, zak_84, zln_84, zak_85, zln_85, zak_86, zln_86, zak_87, zln_87, zak_88, zln_88, zak_89, zln_89, zak_90, zln_90, zak_91, zln_91, zak_92, zln_92, zak_93, zln_93, zak_94, zln_94, zak_95, zln_95, zak_96, zln_96, zak_97, zln_97, zak_98, zln_98, zak_99, zln_99, zak_100, zln_100, zak_101, zln_101, zak_102, zln_102, zak_103, zln_103, zak_104, zln_104, zak_105, zln_105, zak_108, zln_108, zak_109, zln_109, Nat.reduceLeDiff, zclr_I, zclr_R, zclr_L, zclr_U, reduceIte, Int.reduceEq, Int.reduceLT, Int.reduceLE, Int.reduceNeg, not_true_eq_false, not_false_eq_true, or_true, true_or, or_false, false_or, and_true, true_and, and_false, false_and, z01_or]
            rw [run, r1]
          · by_cases ez : z = y
            · rw [ez]; omega
            · exact r3 z z0 (n5 z z0 zs z1 ez) zs zF
          · rcases r4 with h | h
            · exact Or.inr ⟨y, by omega, ys, cF, h⟩
            · exact Or.inr h
        · have cb' : (b ≤ s 103 0 (1024 * t + y) + s 102 0 (1024 * (t + 1) + zand x (zxor y (-1)))) = True := eq_true (by omega)
          obtain ⟨b', x7, r1, r2, r3, r4⟩ := ih y' b (zI (s 103 0 (1024 * t + y) + s 102 0 (1024 * (t + 1) + zand x (zxor y (-1))))) n2 n3 n4 b0 b1
          refine ⟨b', x7, fun F Q => ?_, r2, fun z z0 z1 zs zF => ?_, r4⟩
          · rw [r148_135]
            simp only [r148_137, r148_140, r148_141, r148_144, r148_147, r148_148, r148_149, r148_151, r148_152, r148_153, r148_155, r148_158, r148_160, r148_163, r148_164, r148_167, r148_170, r148_171, r148_172, r148_174, r148_175, r148_176, r148_177, r148_180, r148_183, r148_184, r148_185, r148_186, r148_187, r148_189, r148_191, r148_192, r148_193, r148_194, r148_195, r148_196, r148_197, r148_199, r148_201, r148_203, r148_206, r148_208, r148_211, r148_213, e1, cF', cb', bp, bc, w1, w2, w3, w4, w5, w6, zak_40, zln_40, zak_41, zln_41, zak_42, zln_42, zak_43, zln_43, zak_44, zln_44, zak_45, zln_45, zak_46, zln_46, zak_47, zln_47, zak_48, zln_48, zak_49, zln_49, zak_50, zln_50, zak_51, zln_51, zak_52, zln_52, zak_53, zln_53, zak_54, zln_54, zak_55, zln_55, zak_73, zln_73, zak_74, zln_74, zak_75, zln_75, zak_76, zln_76, zak_77, zln_77, zak_78, zln_78, zak_79, zln_79, zak_80, zln_80, zak_81, zln_81, zak_82, zln_82, zak_83, zln_83, zak_84, zln_84, zak_85, zln_85, zak_86, zln_86, zak_87, zln_87, zak_88, zln_88, zak_89, zln_89, zak_90, zln_90, zak_91, zln_91, zak_92, zln_92, zak_93, zln_93, zak_94, zln_94, zak_95, zln_95, zak_96, zln_96, zak_97, zln_97, zak_98, zln_98, zak_99, zln_99, zak_100, zln_100, zak_101, zln_101, zak_102, zln_102, zak_103, zln_103, zak_104, zln_104, zak_105, zln_105, zak_108, zln_108, zak_109, zln_109, Nat.reduceLeDiff, zclr_I, zclr_R, zclr_L, zclr_U, reduceIte, Int.reduceEq, Int.reduceLT, Int.reduceLE, Int.reduceNeg, not_true_eq_false, not_false_eq_true, or_true, true_or, or_false, false_or, and_true, true_and, and_false, false_and, z01_or]
            rw [run, r1]
          · by_cases ez : z = y
            · rw [ez]; omega
            · exact r3 z z0 (n5 z z0 zs z1 ez) zs zF
      · have cF' := eq_false cF
        have cb' : (b ≤ 1000000000) = True := eq_true b1
        obtain ⟨b', x7, r1, r2, r3, r4⟩ := ih y' b (zI 1000000000) n2 n3 n4 b0 b1
        refine ⟨b', x7, fun F Q => ?_, r2, fun z z0 z1 zs zF => ?_, r4⟩
        · rw [r148_135]
          simp only [r148_137, r148_140, r148_141, r148_144, r148_147, r148_148, r148_149, r148_151, r148_152, r148_153, r148_155, r148_158, r148_160, r148_163, r148_164, r148_167, r148_170, r148_171, r148_172, r148_174, r148_175, r148_176, r148_177, r148_180, r148_183, r148_184, r148_185, r148_186, r148_187, r148_189, r148_191, r148_192, r148_193, r148_194, r148_195, r148_196, r148_197, r148_199, r148_201, r148_203, r148_206, r148_208, r148_211, r148_213, e1, cF', cb', bp, w1, w2, zak_40, zln_40, zak_41, zln_41, zak_42, zln_42, zak_43, zln_43, zak_44, zln_44, zak_45, zln_45, zak_46, zln_46, zak_47, zln_47, zak_48, zln_48, zak_49, zln_49, zak_50, zln_50, zak_51, zln_51, zak_52, zln_52, zak_53, zln_53, zak_54, zln_54, zak_55, zln_55, zak_73, zln_73, zak_74, zln_74, zak_75, zln_75, zak_76, zln_76, zak_77, zln_77, zak_78, zln_78, zak_79, zln_79, zak_80, zln_80, zak_81, zln_81, zak_82, zln_82, zak_83, zln_83, zak_84, zln_84, zak_85, zln_85, zak_86, zln_86, zak_87, zln_87, zak_88, zln_88, zak_89, zln_89, zak_90, zln_90, zak_91, zln_91, zak_92, zln_92, zak_93, zln_93, zak_94, zln_94, zak_95, zln_95, zak_96, zln_96, zak_97, zln_97, zak_98, zln_98, zak_99, zln_99, zak_100, zln_100, zak_101, zln_101, zak_102, zln_102, zak_103, zln_103, zak_104, zln_104, zak_105, zln_105, zak_108, zln_108, zak_109, zln_109, Nat.reduceLeDiff, zclr_I, zclr_R, zclr_L, zclr_U, reduceIte, Int.reduceEq, Int.reduceLT, Int.reduceLE, Int.reduceNeg, not_true_eq_false, not_false_eq_true, or_true, true_or, or_false, false_or, and_true, true_and, and_false, false_and, z01_or]
          rw [run, r1]
        · by_cases ez : z = y
          · rw [ez] at zF; exact absurd zF cF
          · exact r3 z z0 (n5 z z0 zs z1 ez) zs zF

theorem CsO_I {L : Nat} {s : zS} (hs : Inv L s) (noon : Int) : CsO (okS s) (cR s noon) (s 11 0 1) (s 6 0 4) := by
  obtain ⟨h1, h2, h3, h4, h5, h6, h7, h8, h9, h10, h11, h12, h13, h14, h15, h16⟩ := id hs
  refine ⟨⟨h14.1, h14.2.1⟩, h5.2, fun t x hx => ⟨hx.1, hx.2.1⟩, fun t x t0 t1 hx => ?_⟩
  obtain ⟨bw, bm, -⟩ := wM_b hs t0 t1 (show 0 ≤ x by have := hx.1; omega) hx.1.2
  unfold cR
  by_cases c : noon = 0
  · rw [if_pos c]; omega
  · rw [if_neg c]; omega
theorem lp148d {s0 : zS} {ok : Int → Int → Prop} {c : Int → Int → Int} {T H : Int} (hO : CsO ok c T H) (noon t : Int) (t0 : 0 ≤ t) (t1 : t < T) : ∀ (n : Nat) (x : Int) (s : zS) (v5 v6 v7 : zV), 0 ≤ x → x + n = H + 1 → PrR ok c H t (fun y => s 103 0 (1024 * t + y)) → (∀ z : Int, 0 ≤ z → SubB z H → Wsp ok c T (t + 1) z (s 102 0 (1024 * (t + 1) + z))) → (∀ y : Int, 0 ≤ y → y < x → SubB y H → Wsp ok c T t y (s 102 0 (1024 * t + y))) → ∃ (s1 : zS) (v5' v6' v7' : zV), (∀ (F : List zFr) (Q : List zV → zS → Prop), Ev ((148, 109, [zR 11 0, zI noon, zI H, zI t, zI x, v5, v6, v7], []) :: F) s Q = Ev ((148, 257, [zR 11 0, zI noon, zI H, zI t, zI (H + 1), v5', v6', v7'], []) :: F) s1 Q) ∧ (∀ g : Nat, ¬ g = 102 → s1 g = s g) ∧ (∀ j : Int, 1024 * (t + 1) ≤ j → s1 102 0 j = s 102 0 j) ∧ ∀ y : Int, 0 ≤ y → SubB y H → Wsp ok c T t y (s1 102 0 (1024 * t + y)) := by
  obtain ⟨⟨H0, H1⟩, ⟨T0, T1⟩, ok1, cc1⟩ := id hO
  intro n
  induction n with
  | zero =>
    intro x s v5 v6 v7 x0 x1 hP hC hW
    have e1 : (H < x) = True := eq_true (by omega)
    have e2 : x = H + 1 := by omega
    refine ⟨s, v5, v6, v7, fun F Q => ?_, fun _ _ => rfl, fun _ _ => rfl, fun y y0 yH => hW y y0 (by have := SubB_le y0 H0 yH; omega) yH⟩
    rw [r148_109]
    simp only [r148_111, r148_112, e1, zclr_I, zclr_R, zclr_L, zclr_U, reduceIte, Int.reduceEq, Int.reduceLT, Int.reduceLE, Int.reduceNeg, not_true_eq_false, not_false_eq_true, or_true, true_or, or_false, false_or, and_true, true_and, and_false, false_and, z01_or]
    rw [e2]
  | succ n ih =>
    intro x s v5 v6 v7 x0 x1 hP hC hW
    have e1 : (H < x) = False := eq_false (by omega)
    have w1 : w32 (x + 1) = x + 1 := w32_id (by omega) (by omega)
    by_cases cz : zand x (zxor H (-1)) = 0
    · have xH := (sub_z x0 (by omega) H0 H1).mp cz
      have w2 : w32 (1024 * t) = 1024 * t := w32_id (by omega) (by omega)
      have w3 : w32 (1024 * t + x) = 1024 * t + x := w32_id (by omega) (by omega)
      have b1 : (0 ≤ 1024 * t + x ∧ 1024 * t + x < 6144) = True := eq_true (by omega)
      obtain ⟨b, u7, r1, r2, r3, r4⟩ := lp148c noon H t x ⟨t0, by omega⟩ x0 (by omega) s (fun y y0 hy => by
        rcases hP y y0 (fun q q0 hq => xH q q0 (hy q q0 hq)) with ⟨z1, z2⟩ | ⟨z0, z1, z2⟩ | ⟨z0, z1, z2⟩
        · have z2 : s 103 0 (1024 * t + y) = 0 := z2
          omega
        · have z2 : s 103 0 (1024 * t + y) = c t y := z2
          have := cc1 t y t0 t1 z1; omega
        · have z2 : s 103 0 (1024 * t + y) = 1000000000 := z2
          omega) (fun y y0 hy => by
        obtain ⟨d0, d1, d2, d3, d4⟩ := dif_bi x0 (by omega) y0 hy
        exact (hC _ d0 (fun q q0 hq => xH q q0 (d2 q q0 hq))).1) (x + 1).toNat x 1000000000 v7 (by omega) (by omega) (Or.inr (fun _ _ h => h)) (by omega) (by omega)
      have hWx : Wsp ok c T t x b := Wsp_step hO t0 t1 x0 xH hP hC r2.2 (fun y y0 hy yF => r3 y y0 (SubB_le y0 x0 hy) hy yF) r4
      have g103 : zup s 102 0 (1024 * t + x) b 103 = s 103 := zup_ng (by omega)
      obtain ⟨s1, u5, u6, u8, c1, c2, c3, c4⟩ := ih (x + 1) (zup s 102 0 (1024 * t + x) b) (zI b) (zI (-1)) u7 (by omega) (by omega) (by rw [g103]; exact hP) (fun z z0 zH => by
        rw [zup_nk (by omega)]; exact hC z z0 zH) (fun y y0 y1 yH => by
        by_cases e : y = x
        · rw [e, zup_eq]; exact hWx
        · rw [zup_nk (by omega)]; exact hW y y0 (by omega) yH)
      refine ⟨s1, u5, u6, u8, fun F Q => ?_, fun g hg => by rw [c2 g hg, zup_ng hg], fun j hj => by rw [c3 j hj, zup_nk (by omega)], c4⟩
      have cz' := eq_true cz
      rw [r148_109]
      simp only [r148_111, r148_112, r148_115, r148_117, r148_118, r148_119, r148_120, r148_121, r148_124, r148_127, r148_129, r148_131, r148_133, e1, cz', zclr_I, zclr_R, zclr_L, zclr_U, reduceIte, Int.reduceEq, Int.reduceLT, Int.reduceLE, Int.reduceNeg, not_true_eq_false, not_false_eq_true, or_true, true_or, or_false, false_or, and_true, true_and, and_false, false_and, z01_or]
      rw [r1]
      simp only [r148_236, r148_237, r148_240, r148_243, r148_244, r148_245, r148_247, r148_248, r148_250, r148_251, r148_254, b1, w1, w2, w3, zak_40, zln_40, zak_41, zln_41, zak_42, zln_42, zak_43, zln_43, zak_44, zln_44, zak_45, zln_45, zak_46, zln_46, zak_47, zln_47, zak_48, zln_48, zak_49, zln_49, zak_50, zln_50, zak_51, zln_51, zak_52, zln_52, zak_53, zln_53, zak_54, zln_54, zak_55, zln_55, zak_73, zln_73, zak_74, zln_74, zak_75, zln_75, zak_76, zln_76, zak_77, zln_77, zak_78, zln_78, zak_79, zln_79, zak_80, zln_80, zak_81, zln_81, zak_82, zln_82, zak_83, zln_83, zak_84, zln_84, zak_85, zln_85, zak_86, zln_86, zak_87, zln_87, zak_88, zln_88, zak_89, zln_89, zak_90, zln_90, zak_91, zln_91, zak_92, zln_92, zak_93, zln_93, zak_94, zln_94, zak_95, zln_95, zak_96, zln_96, zak_97, zln_97, zak_98, zln_98, zak_99, zln_99, zak_100, zln_100, zak_101, zln_101, zak_102, zln_102, zak_103, zln_103, zak_104, zln_104, zak_105, zln_105, zak_108, zln_108, zak_109, zln_109, Nat.reduceLeDiff, zclr_I, zclr_R, zclr_L, zclr_U, reduceIte, Int.reduceEq, Int.reduceLT, Int.reduceLE, Int.reduceNeg, not_true_eq_false, not_false_eq_true, or_true, true_or, or_false, false_or, and_true, true_and, and_false, false_and, z01_or]
      exact c1 F Q
    · have cz' := eq_false cz
      obtain ⟨s1, u5, u6, u8, c1, c2, c3, c4⟩ := ih (x + 1) s v5 v6 v7 (by omega) (by omega) hP hC (fun y y0 y1 yH => by
        by_cases e : y = x
        · rw [e] at yH; exact absurd ((sub_z x0 (by omega) H0 H1).mpr yH) cz
        · exact hW y y0 (by omega) yH)
      refine ⟨s1, u5, u6, u8, fun F Q => ?_, c2, c3, c4⟩
      rw [r148_109]
      simp only [r148_111, r148_112, r148_115, r148_117, r148_118, r148_119, r148_120, r148_121, r148_124, r148_251, r148_254, e1, cz', w1, zclr_I, zclr_R, zclr_L, zclr_U, reduceIte, Int.reduceEq, Int.reduceLT, Int.reduceLE, Int.reduceNeg, not_true_eq_false, not_false_eq_true, or_true, true_or, or_false, false_or, and_true, true_and, and_false, false_and, z01_or]
      exact c1 F Q
theorem lp148e {ok : Int → Int → Prop} {c : Int → Int → Int} {T H : Int} (hO : CsO ok c T H) (noon : Int) : ∀ (k : Nat) (t : Int) (s : zS) (v4 v5 v6 v7 : zV), t + 1 = k → t < T → (∀ u : Int, 0 ≤ u → u < T → PrR ok c H u (fun y => s 103 0 (1024 * u + y))) → (∀ u z : Int, t < u → u ≤ T → 0 ≤ z → SubB z H → Wsp ok c T u z (s 102 0 (1024 * u + z))) → ∃ (s1 : zS) (v4' v5' v6' v7' : zV), (∀ (F : List zFr) (Q : List zV → zS → Prop), Ev ((148, 102, [zR 11 0, zI noon, zI H, zI t, v4, v5, v6, v7], []) :: F) s Q = Ev ((148, 263, [zR 11 0, zI noon, zI H, zI (-1), v4', v5', v6', v7'], []) :: F) s1 Q) ∧ (∀ g : Nat, ¬ g = 102 → s1 g = s g) ∧ ∀ u z : Int, 0 ≤ u → u ≤ T → 0 ≤ z → SubB z H → Wsp ok c T u z (s1 102 0 (1024 * u + z)) := by
  obtain ⟨⟨H0, H1⟩, ⟨T0, T1⟩, ok1, cc1⟩ := id hO
  intro k
  induction k with
  | zero =>
    intro t s v4 v5 v6 v7 hk hT hP hW
    have e1 : (t < 0) = True := eq_true (by omega)
    have e2 : t = -1 := by omega
    refine ⟨s, v4, v5, v6, v7, fun F Q => ?_, fun _ _ => rfl, fun u z u0 u1 z0 zH => hW u z (by omega) u1 z0 zH⟩
    rw [r148_102]
    simp only [r148_103, e1, zclr_I, zclr_R, zclr_L, zclr_U, reduceIte, Int.reduceEq, Int.reduceLT, Int.reduceLE, Int.reduceNeg, not_true_eq_false, not_false_eq_true, or_true, true_or, or_false, false_or, and_true, true_and, and_false, false_and, z01_or]
    rw [e2]
  | succ k ih =>
    intro t s v4 v5 v6 v7 hk hT hP hW
    have e1 : (t < 0) = False := eq_false (by omega)
    have w1 : w32 (t + -1) = t - 1 := by rw [w32_id (by omega) (by omega)]; omega
    obtain ⟨s1, u5, u6, u7, c1, c2, c3, c4⟩ := lp148d (s0 := s) hO noon t (by omega) hT (H + 1).toNat 0 s v5 v6 v7 (by omega) (by omega) (hP t (by omega) hT) (fun z z0 zH => hW (t + 1) z (by omega) (by omega) z0 zH) (fun y y0 y1 => by omega)
    have g103 : s1 103 = s 103 := c2 103 (by omega)
    obtain ⟨s2, x4, x5, x6, x7, d1, d2, d3⟩ := ih (t - 1) s1 (zI (H + 1)) u5 u6 u7 (by omega) (by omega) (by rw [g103]; exact hP) (fun u z u0 u1 z0 zH => by
      by_cases e : u = t
      · rw [e]; exact c4 z z0 zH
      · have zl := SubB_le z0 H0 zH
        rw [c3 _ (by omega)]; exact hW u z (by omega) u1 z0 zH)
    refine ⟨s2, x4, x5, x6, x7, fun F Q => ?_, fun g hg => by rw [d2 g hg, c2 g hg], d3⟩
    rw [r148_102]
    simp only [r148_103, r148_106, r148_107, e1, zclr_I, zclr_R, zclr_L, zclr_U, reduceIte, Int.reduceEq, Int.reduceLT, Int.reduceLE, Int.reduceNeg, not_true_eq_false, not_false_eq_true, or_true, true_or, or_false, false_or, and_true, true_and, and_false, false_and, z01_or]
    rw [c1]
    simp only [r148_257, r148_260, w1, zclr_I, zclr_R, zclr_L, zclr_U, reduceIte, Int.reduceEq, Int.reduceLT, Int.reduceLE, Int.reduceNeg, not_true_eq_false, not_false_eq_true, or_true, true_or, or_false, false_or, and_true, true_and, and_false, false_and, z01_or]
    exact d1 F Q

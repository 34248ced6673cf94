def Chs (s : zS) (t w : Int) : Prop := 0 ≤ w ∧ w < zshl 1 (s 11 0 4) ∧ 0 ≤ payM s t w ∧ (∀ z : Int, 0 ≤ z → z < zshl 1 (s 11 0 4) → payM s t z ≤ payM s t w) ∧ ∀ z : Int, 0 ≤ z → z < w → payM s t z < payM s t w
theorem Chs_u {s : zS} {t w w' : Int} (h : Chs s t w) (h' : Chs s t w') : w = w' := by
  obtain ⟨a0, a1, a2, a3, a4⟩ := h
  obtain ⟨b0, b1, b2, b3, b4⟩ := h'
  have c1 := a3 w' b0 b1
  have c2 := b3 w a0 a1
  by_cases d : w < w'
  · have := b4 w a0 d; omega
  · by_cases e : w' < w
    · have := a4 w' b0 e; omega
    · omega
theorem N_b {n : Int} (n2 : 0 ≤ n) (n3 : n ≤ 10) : 1 ≤ zshl 1 n ∧ zshl 1 n ≤ 1024 := by
  obtain ⟨N, rfl⟩ := Int.eq_ofNat_of_zero_le n2
  rw [zshl_1 (by omega)]
  have hj1 : 2 ^ N ≤ 2 ^ 10 := Nat.pow_le_pow_right (by omega) (by omega)
  have hj0 : 0 < 2 ^ N := Nat.two_pow_pos N
  generalize 2 ^ N = X at *
  omega
theorem k_choiceX {s : zS} {t : Int} (hR : AskR s t) : ∃ w : Int, (∀ (m pc : Nat) (ls st : List zV) (fs : List zFr) (Q : List zV → zS → Prop), Ev ((178, 0, [zR 11 0, zI t, zU, zU], []) :: (m, pc, ls, st) :: fs) s Q = Ev ((m, pc, ls, zI w :: st) :: fs) s Q) ∧ Chs s t w := by
  obtain ⟨n1, n2, n3, hA⟩ := id hR
  have hN := N_b n2 n3
  have p0 : 0 ≤ payM s t 0 := (pay_val hR (by omega) (by omega)).1.mpr Val_0
  obtain ⟨w, d0, d1⟩ := lp178 t hR (zshl 1 (s 11 0 4) - 1).toNat 1 0 (by omega) (by omega) (by omega) hN.2 (by omega) (by omega) p0 (fun z z0 z1 => by rw [show z = 0 by omega]; exact Int.le_refl _) (fun z z0 z1 => by omega)
  refine ⟨w, fun m pc ls st fs Q => ?_, d1⟩
  simp only [r178_0, r178_1, r178_2, r178_3, zclr_I, zclr_R, zclr_L, zclr_U, reduceIte, Int.reduceEq, Int.reduceLT, Int.reduceLE, Int.reduceNeg, not_true_eq_false, not_false_eq_true, or_true, true_or, or_false, false_or, and_true, true_and, and_false, false_and, z01_or]
  exact d0 m pc ls st fs Q
theorem Chs_v {s : zS} {t w : Int} (hR : AskR s t) (h : Chs s t w) : (0 ≤ w ∧ w < 1024) ∧ (0 ≤ payM s t w ∧ payM s t w ≤ 10000) ∧ ∀ b : Int, BstM s t 0 b → b = 1024 * payM s t w - w := by
  obtain ⟨n1, n2, n3, hA⟩ := id hR
  obtain ⟨w0, w1, w2, w3, w4⟩ := h
  have hN := N_b n2 n3
  obtain ⟨v1, v2⟩ := pay_val hR w0 w1
  have e := v2 w2
  have vb : 0 ≤ payS (s 11 0 4) (fun i => s 97 0 i) w ∧ payS (s 11 0 4) (fun i => s 97 0 i) w ≤ 10000 ∧ VV (s 11 0 4) (fun i => s 97 0 i) w ≤ 10240000 := VV_b n2 n3 (fun i i0 i1 => (hA i i0 i1).2.2.2.1) w0
  refine ⟨by omega, ⟨w2, by omega⟩, fun b hb => ?_⟩
  rw [e]
  refine Bst_ch n2 n3 (fun i i0 i1 => (hA i i0 i1).2.2.2.1) hb (fun i i0 i1 => (hA i i0 i1).2.2.1.1) (v1.mp w2) (fun x hx => ?_) (fun x hx hlt => ?_)
  · have xN := Val_N hR hx
    obtain ⟨u1, u2⟩ := pay_val hR hx.1 xN
    have a := u2 (u1.mpr hx)
    have b := w3 x hx.1 xN
    show payS (s 11 0 4) (fun i => s 97 0 i) x ≤ payS (s 11 0 4) (fun i => s 97 0 i) w
    omega
  · have xN := Val_N hR hx
    obtain ⟨u1, u2⟩ := pay_val hR hx.1 xN
    have a := u2 (u1.mpr hx)
    have b := w4 x hx.1 hlt
    show payS (s 11 0 4) (fun i => s 97 0 i) x < payS (s 11 0 4) (fun i => s 97 0 i) w
    omega
theorem Chs_c {s s' : zS} (h : ∀ g : Nat, g = 11 ∨ g = 86 ∨ g = 87 ∨ g = 94 ∨ g = 95 ∨ g = 96 ∨ g = 97 → s' g = s g) (t w : Int) : Chs s' t w = Chs s t w := by
  have e : payM s' t = payM s t := by
    funext x
    have e : badA s' t x = badA s t x := by
      funext a
      unfold badA suitM apM
      rw [h 94 (by omega), h 95 (by omega), h 96 (by omega), h 87 (by omega), h 86 (by omega), h 11 (by omega)]
    unfold payM
    rw [e, h 11 (by omega), h 97 (by omega)]
  unfold Chs
  rw [e, h 11 (by omega)]
theorem pr_choose (L : Nat) : Pr_choose (Inv L) := by
  intro a ha s hs
  obtain ⟨h1, h2, h3, h4, h5, h6, h7, h8, h9, h10, h11, h12, h13, h14, h15, h16, h17, h18, h19, h20⟩ := id hs
  have eT := h5.1
  have h50 := h5.2
  have eA := h8.1
  have h80 := h8.2
  have w0 : w32 (s 11 0 1 - 1) = s 11 0 1 - 1 := w32_id (by omega) (by omega)
  by_cases hc : 0 ≤ a ∧ a < s 6 0 3
  · have q1 := z01_t hc
    have q2 : z01 (0 ≤ a ∧ a ≤ s 11 0 1 - 1) = 1 := z01_t (by omega)
    have b1 : (0 ≤ a ∧ a < 5) = True := eq_true (by omega)
    have hR : AskR s a := AskR_I hs
    obtain ⟨s1, c1, c2, c3⟩ := k_best a hR
    obtain ⟨w, -, cw⟩ := k_choiceX hR
    obtain ⟨d1, d2, d3⟩ := Chs_v hR cw
    have v := d3 _ c3
    have g1 : s1 1 = s 1 := c2 1 (by omega)
    have g0 : s1 0 = s 0 := c2 0 (by omega)
    obtain ⟨s2, y0, y1, y2, y3⟩ := lpB12 a w d1.1 d1.2 (s 1 0 1).toNat 0 s1 (by omega) (by rw [g1]; omega) (by rw [g1]; omega)
    rw [g1, g0] at y3
    rw [g0] at y2
    have f : ∀ g : Nat, ¬ g = 52 → ¬ g = 0 → s2 g = s g := fun g x1 x2 => by rw [y1 g x2, c2 g x1]
    have hR2 : AskR s2 a := by
      unfold AskR suitC suitM
      have e0 : ∀ i l : Int, ¬ l = 4 → s2 0 i l = s 0 i l := y2
      refine ⟨by rw [f 1 (by omega) (by omega), f 11 (by omega) (by omega)]; exact hR.1, by rw [f 11 (by omega) (by omega)]; exact hR.2.1, by rw [f 11 (by omega) (by omega)]; exact hR.2.2.1, fun i i0 i1 => ?_⟩
      rw [f 11 (by omega) (by omega)] at i1
      have := hR.2.2.2 i i0 i1
      rw [e0 i 0 (by omega), e0 i 1 (by omega), e0 i 2 (by omega), e0 i 3 (by omega), f 11 (by omega) (by omega), f 1 (by omega) (by omega), f 8 (by omega) (by omega), f 94 (by omega) (by omega), f 95 (by omega) (by omega), f 96 (by omega) (by omega), f 97 (by omega) (by omega), f 86 (by omega) (by omega), f 87 (by omega) (by omega)]
      exact this
    obtain ⟨w', x0, cw'⟩ := k_choiceX hR2
    rw [Chs_c (s := s) (fun g hg => f g (by omega) (by omega))] at cw'
    have ew : w' = w := Chs_u cw' cw
    rw [ew] at x0
    have f11 : s2 11 = s 11 := f 11 (by omega) (by omega)
    have f94 : s2 94 = s 94 := f 94 (by omega) (by omega)
    have f98 : s2 98 = s 98 := f 98 (by omega) (by omega)
    obtain ⟨s3, z0, z1, z3⟩ := lp180 a w d1.1 d1.2 (s 11 0 4).toNat 0 s2 (by omega) (by rw [f11]; omega) (by rw [f11]; omega)
    rw [f11] at z0 z3
    rw [f94, f98] at z3
    refine ⟨popc w, s2, s3, ?_, ?_, ?_, f 110 (by omega) (by omega), f 111 (by omega) (by omega)⟩
    · intro m pc ls st fs Q
      simp only [r103_0, r103_1, r103_4, r103_5, r103_8, r103_11, r103_12, r103_14, r103_17, r103_18, r103_19, r103_22, r103_23, r103_24, r103_27, r103_30, r103_31, r103_32, r103_35, r103_38, r103_39, r103_40, r103_43, r103_44, r103_45, r103_48, r103_49, r103_52, k_hasTeacher, q1, b1, zak_40, zln_40, zak_41, zln_41, zak_42, zln_42, zak_43, zln_43, zak_44, zln_44, zak_45, zln_45, zak_46, zln_46, zak_47, zln_47, zak_48, zln_48, zak_49, zln_49, zak_50, zln_50, zak_51, zln_51, zak_52, zln_52, zak_53, zln_53, zak_54, zln_54, zak_55, zln_55, zak_73, zln_73, zak_74, zln_74, zak_75, zln_75, zak_76, zln_76, zak_77, zln_77, zak_78, zln_78, zak_79, zln_79, zak_80, zln_80, zak_81, zln_81, zak_82, zln_82, zak_83, zln_83, zak_84, zln_84, zak_85, zln_85, zak_86, zln_86, zak_87, zln_87, zak_88, zln_88, zak_89, zln_89, zak_90, zln_90, zak_91, zln_91, zak_92, zln_92, zak_93, zln_93, zak_94, zln_94, zak_95, zln_95, zak_96, zln_96, zak_97, zln_97, zak_98, zln_98, zak_99, zln_99, zak_100, zln_100, zak_101, zln_101, zak_102, zln_102, zak_103, zln_103, zak_104, zln_104, zak_105, zln_105, zak_108, zln_108, zak_109, zln_109, Nat.reduceLeDiff, zclr_I, zclr_R, zclr_L, zclr_U, reduceIte, Int.reduceEq, Int.reduceLT, Int.reduceLE, Int.reduceNeg, not_true_eq_false, not_false_eq_true, or_true, true_or, or_false, false_or, and_true, true_and, and_false, false_and, z01_or]
      rw [c1, v]
      simp only [r103_0, r103_1, r103_4, r103_5, r103_8, r103_11, r103_12, r103_14, r103_17, r103_18, r103_19, r103_22, r103_23, r103_24, r103_27, r103_30, r103_31, r103_32, r103_35, r103_38, r103_39, r103_40, r103_43, r103_44, r103_45, r103_48, r103_49, r103_52, k_asksIn _ w d2.1 d2.2 d1.1 d1.2, r12_0, r12_1, zclr_I, zclr_R, zclr_L, zclr_U, reduceIte, Int.reduceEq, Int.reduceLT, Int.reduceLE, Int.reduceNeg, not_true_eq_false, not_false_eq_true, or_true, true_or, or_false, false_or, and_true, true_and, and_false, false_and, z01_or]
      rw [y0]
      simp only [r103_0, r103_1, r103_4, r103_5, r103_8, r103_11, r103_12, r103_14, r103_17, r103_18, r103_19, r103_22, r103_23, r103_24, r103_27, r103_30, r103_31, r103_32, r103_35, r103_38, r103_39, r103_40, r103_43, r103_44, r103_45, r103_48, r103_49, r103_52, k_bitCount w d1.1 d1.2, zclr_I, zclr_R, zclr_L, zclr_U, reduceIte, Int.reduceEq, Int.reduceLT, Int.reduceLE, Int.reduceNeg, not_true_eq_false, not_false_eq_true, or_true, true_or, or_false, false_or, and_true, true_and, and_false, false_and, z01_or]
    · intro m pc ls st fs Q
      simp only [r180_0, r180_1, r180_2, r180_5, r180_8, r180_9, r180_11, r180_14, r180_15, r180_16, r180_17, r180_20, r180_21, r180_22, k_isTeacher, f11, w0, q2, x0, zclr_I, zclr_R, zclr_L, zclr_U, reduceIte, Int.reduceEq, Int.reduceLT, Int.reduceLE, Int.reduceNeg, not_true_eq_false, not_false_eq_true, or_true, true_or, or_false, false_or, and_true, true_and, and_false, false_and, z01_or]
      rw [z0]
      simp only [r180_58, r180_59, r180_62, k_ones w zU zU d1.1 d1.2, zclr_I, zclr_R, zclr_L, zclr_U, reduceIte, Int.reduceEq, Int.reduceLT, Int.reduceLE, Int.reduceNeg, not_true_eq_false, not_false_eq_true, or_true, true_or, or_false, false_or, and_true, true_and, and_false, false_and, z01_or]
    · have fz : ∀ g : Nat, ¬ (g = 52 ∨ g = 0 ∨ g = 98) → s3 g = s g := fun g hg => by rw [z1 g (by omega), f g (by omega) (by omega)]
      have e0 : s3 0 = s2 0 := z1 0 (by omega)
      unfold Inv
      simp only [fz, zup_g, Nat.reduceEqDiff, zclr_I, zclr_R, zclr_L, zclr_U, reduceIte, Int.reduceEq, Int.reduceLT, Int.reduceLE, Int.reduceNeg, not_true_eq_false, not_false_eq_true, or_true, true_or, or_false, false_or, and_true, true_and, and_false, false_and, z01_or]
      refine ⟨h1, h2, h3, h4, h5, h6, h7, h8, h9, h10, h11, h12, h13, h14, h15, h16, h17, h18, ⟨fun i i0 i1 => ?_, fun i i0 i1 => ?_⟩, h20⟩
      · obtain ⟨k1, k2, k3, k4, k5⟩ := h19.1 i i0 i1
        rw [e0, y2 i 0 (by omega), y2 i 1 (by omega), y2 i 2 (by omega), y2 i 3 (by omega), y3 i, z3 i]
        refine ⟨k1, k2, k3, ?_⟩
        by_cases c : s 94 0 i = a
        · rw [if_pos (by omega), if_pos (by omega)]
          exact ⟨rfl, hb_01 w i⟩
        · rw [if_neg (by omega), if_neg (by omega)]
          exact ⟨k4, k5⟩
      · rw [e0, y3 i, z3 i, if_neg (by omega), if_neg (by omega)]
        exact h19.2 i i0 i1
  · have q1 := z01_f hc
    have q2 : z01 (0 ≤ a ∧ a ≤ s 11 0 1 - 1) = 0 := z01_f (by omega)
    refine pf (-1000001) hs ?_ ?_ <;> intro m pc ls st fs Q
    · simp only [r103_0, r103_1, r103_4, r103_5, r103_8, r103_11, r103_12, r103_14, r103_17, r103_18, r103_19, r103_22, r103_23, r103_24, r103_27, r103_30, r103_31, r103_32, r103_35, r103_38, r103_39, r103_40, r103_43, r103_44, r103_45, r103_48, r103_49, r103_52, k_hasTeacher, k_finding, q1, zclr_I, zclr_R, zclr_L, zclr_U, reduceIte, Int.reduceEq, Int.reduceLT, Int.reduceLE, Int.reduceNeg, not_true_eq_false, not_false_eq_true, or_true, true_or, or_false, false_or, and_true, true_and, and_false, false_and, z01_or]
    · simp only [r180_0, r180_1, r180_2, r180_5, r180_8, r180_9, r180_11, r180_14, r180_15, r180_16, r180_17, r180_20, r180_21, r180_22, k_isTeacher, k_finds, zup_g, Nat.reduceEqDiff, w0, q2, zclr_I, zclr_R, zclr_L, zclr_U, reduceIte, Int.reduceEq, Int.reduceLT, Int.reduceLE, Int.reduceNeg, not_true_eq_false, not_false_eq_true, or_true, true_or, or_false, false_or, and_true, true_and, and_false, false_and, z01_or]

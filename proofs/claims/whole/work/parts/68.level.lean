theorem lv_eq {L : Nat} {s s1 : zS} {x : Int} (hs : Inv L s) (hg : Gat s s1 x) : s1 2 0 2 = topM s x ∧ (s1 2 0 3 < s1 2 0 2 ↔ lvM s x < 0) ∧ (¬ lvM s x < 0 → lvM s x = topM s x) ∧ 0 ≤ topM s x ∧ topM s x ≤ 9 := by
  obtain ⟨h1, h2, h3, h4, h5, h6, h7, h8, h9, h10, h11, h12, h13⟩ := id hs
  have eP := h4.1
  have h40 := h4.2
  obtain ⟨g0, g1, g2, g3, g4, g5⟩ := hg
  have e1 : s1 2 0 2 = topM s x := by
    rw [g3, eP]
    exact mxF_c (fun i i0 i1 => (h12 i i0 (by omega)).2.2.2.1.1)
  have e0 : 0 ≤ topM s x ∧ topM s x ≤ 9 := by
    constructor
    · have := (mxF_le (fun p => s 76 0 p) x (topM s x) (s 11 0 0).toNat 0 0).mp (Int.le_refl _)
      exact this.1
    · exact (mxF_le (fun p => s 76 0 p) x 9 (s 11 0 0).toNat 0 0).mpr ⟨by omega, fun i i0 i1 _ => by have := (h12 i i0 (by omega)).2.2.2.1; omega⟩
  have e2 : s1 2 0 3 < s1 2 0 2 ↔ anyF (fun p => tb x p && decide (s 77 0 p < topM s x)) 0 (s 11 0 0).toNat = true := by
    rw [e1, g4, eP, anyF_t]
    have := mnF_ge (fun p => s 5 p 4) x (topM s x) (s 11 0 0).toNat 9 0
    constructor
    · intro h
      refine Classical.byContradiction fun hn => ?_
      have h2 := this.mpr ⟨e0.2, fun i i0 i1 i2 => ?_⟩
      · omega
      · refine Classical.byContradiction fun hm => hn ⟨i, i0, i1, ?_⟩
        rw [i2, Bool.true_and]
        have := (h12 i i0 (by omega)).2.2.2.1
        exact decide_eq_true (by omega)
    · rintro ⟨i, i0, i1, i2⟩
      refine Classical.byContradiction fun hn => ?_
      have h2 := (this.mp (by omega)).2 i i0 i1
      rw [Bool.and_eq_true] at i2
      have h3 := h2 i2.1
      have h4 := of_decide_eq_true i2.2
      have := (h12 i i0 (by omega)).2.2.2.1
      omega
  refine ⟨e1, ?_, ?_, e0.1, e0.2⟩
  · rw [e2]
    unfold lvM
    by_cases h : anyF (fun p => tb x p && decide (s 77 0 p < topM s x)) 0 (s 11 0 0).toNat = true
    · rw [if_pos h]; exact ⟨fun _ => by omega, fun _ => h⟩
    · rw [if_neg h]; exact ⟨fun z => absurd z h, fun z => by omega⟩
  · unfold lvM
    by_cases h : anyF (fun p => tb x p && decide (s 77 0 p < topM s x)) 0 (s 11 0 0).toNat = true
    · rw [if_pos h]; intro z; omega
    · rw [if_neg h]; intro _; rfl
theorem age_b {L : Nat} {s : zS} (hs : Inv L s) {x : Int} (x0 : 0 < x) (xP : ∀ q : Int, 0 ≤ q → bi x q → q < s 11 0 0) : yngM s x = mnF (fun p => s 5 p 1) x 90 0 (s 6 0 1).toNat ∧ oldM s x = mxF (fun p => s 5 p 1) x 0 0 (s 6 0 1).toNat ∧ 0 ≤ oldM s x ∧ oldM s x ≤ 90 ∧ 3 ≤ yngM s x ∧ yngM s x ≤ 90 := by
  obtain ⟨h1, h2, h3, h4, h5, h6, h7, h8, h9, h10, h11, h12, h13⟩ := id hs
  have eP := h4.1
  have h40 := h4.2
  have hm : ∃ i : Int, 0 ≤ i ∧ bi x i := by
    refine Classical.byContradiction fun hn => ?_
    have := (zero_bi (x := x) (by omega)).mpr (fun q q0 z => hn ⟨q, q0, z⟩)
    omega
  obtain ⟨i, i0, i1⟩ := hm
  have i2 := xP i i0 i1
  have ai := (h12 i i0 i2).2.1
  have ey : mnF (fun p => s 5 p 1) x 90 0 (s 6 0 1).toNat = mnF (fun p => s 74 0 p) x 90 0 (s 11 0 0).toNat := by
    rw [eP]
    exact mnF_c (fun i i0 i1 => (h12 i i0 (by omega)).2.1.1)
  have a1 := mnF_ge (fun p => s 74 0 p) x (mnF (fun p => s 74 0 p) x 90 0 (s 11 0 0).toNat) (s 11 0 0).toNat 90 0
  have a2 := mnF_ge (fun p => s 74 0 p) x (yngM s x) (s 11 0 0).toNat 1000 0
  have b1 := a1.mp (Int.le_refl _)
  have b2 := a2.mp (Int.le_refl _)
  have b3 := b2.2 i i0 (by omega) i1
  have c1 : yngM s x ≤ mnF (fun p => s 74 0 p) x 90 0 (s 11 0 0).toNat := (mnF_ge (fun p => s 74 0 p) x (yngM s x) (s 11 0 0).toNat 90 0).mpr ⟨by omega, b2.2⟩
  have c2 : mnF (fun p => s 74 0 p) x 90 0 (s 11 0 0).toNat ≤ yngM s x := (mnF_ge (fun p => s 74 0 p) x _ (s 11 0 0).toNat 1000 0).mpr ⟨by omega, b1.2⟩
  have c3 : 3 ≤ yngM s x := (mnF_ge (fun p => s 74 0 p) x 3 (s 11 0 0).toNat 1000 0).mpr ⟨by omega, fun j j0 j1 _ => by have := (h12 j j0 (by omega)).2.1; omega⟩
  have d1 := (mxF_le (fun p => s 74 0 p) x (oldM s x) (s 11 0 0).toNat 0 0).mp (Int.le_refl _)
  have d2 : oldM s x ≤ 90 := (mxF_le (fun p => s 74 0 p) x 90 (s 11 0 0).toNat 0 0).mpr ⟨by omega, fun j j0 j1 _ => by have := (h12 j j0 (by omega)).2.1; omega⟩
  refine ⟨by rw [ey]; omega, ?_, d1.1, d2, c3, by omega⟩
  rw [eP]
  exact (mxF_c (fun i i0 i1 => (h12 i i0 (by omega)).2.1.1)).symm
theorem rs_eq {L : Nat} {s s1 s' : zS} {x t : Int} (hs : Inv L s) (hg : Gat s s1 x) (x0 : 0 < x) (x1 : x < 1024) (xP : ∀ q : Int, 0 ≤ q → bi x q → q < s 11 0 0) (t0 : 0 ≤ t) (t1 : t < s 11 0 1) (e2 : s' 2 = s1 2) (e6 : s' 6 = s 6) (e8 : s' 8 = s 8) : rsC s' t = mayM s t x := by
  obtain ⟨lv1, lv2, lv3, lv4, lv5⟩ := lv_eq hs hg
  obtain ⟨ag1, ag2, -⟩ := age_b hs x0 xP
  obtain ⟨h1, h2, h3, h4, h5, h6, h7, h8, h9, h10, h11, h12, h13, h14, h15, h16, h17⟩ := id hs
  have eP := h4.1
  have h40 := h4.2
  obtain ⟨g0, g1, g2, g3, g4, g5, g6, g7, g8, g9⟩ := hg
  obtain ⟨k1, k2, k3, k4, ⟨k5, k5b, k5c⟩, k6⟩ := h15 t t0 t1
  obtain ⟨u0, u1, u2⟩ := id h14
  unfold rsC mayM gdC
  simp only [e2, e6, e8]
  rw [g1, g2, k3.1, h9.1.1, h9.2.1.1, g5, g6, ← ag1, ← ag2]
  have c2 : (¬ zand x (zxor (s 8 t 3) (-1)) = 0) ↔ tgM s t x = true := by
    obtain ⟨b0, b1, b2⟩ := zandnot_bi (show 0 ≤ x by omega) x1 k5 k5b
    rw [zero_bi b0]
    unfold tgM
    rw [anyF_t]
    constructor
    · intro h
      refine Classical.byContradiction fun hn => h (fun q q0 hq => ?_)
      rw [b2 q q0] at hq
      refine hn ⟨q, q0, by have := xP q q0 hq.1; omega, ?_⟩
      rw [Bool.and_eq_true]
      refine ⟨hq.1, decide_eq_true ?_⟩
      refine Classical.byContradiction fun hm => hq.2 ?_
      rw [k5c q q0]
      exact ⟨xP q q0 hq.1, by rw [zand_comm]; exact hm⟩
    · rintro ⟨i, i0, i1, i2⟩ h
      rw [Bool.and_eq_true] at i2
      refine h i i0 ?_
      rw [b2 i i0]
      refine ⟨i2.1, fun z => ?_⟩
      rw [k5c i i0] at z
      have := of_decide_eq_true i2.2
      rw [zand_comm] at this
      exact z.2 this
  have ekd : ∀ w : Int, kdF w (fun p => s 5 p 0) x 0 0 (s 6 0 1).toNat = 0 ↔ ¬ kdM s x w = true := by
    intro w
    have ee : kdF w (fun p => s 5 p 0) x 0 0 (s 6 0 1).toNat = kdF w (fun p => s 73 0 p) x 0 0 (s 11 0 0).toNat := by
      rw [eP]
      exact kdF_c (fun i i0 i1 => (h12 i i0 (by omega)).1.1)
    rw [ee, (kdF_z w (fun p => s 73 0 p) x (s 11 0 0).toNat 0 0 (Or.inl rfl)).2]
    unfold kdM
    constructor
    · rintro ⟨-, h⟩ z; rw [h] at z; cases z
    · intro h; exact ⟨rfl, Bool.eq_false_iff.mpr h⟩
  have c4 : (if s1 2 0 7 = 0 then s 11 0 6 else zdiv (s 11 0 6) 2) = (if kdM s x 3 = true then zdiv (s 11 0 6) 2 else s 11 0 6) := by
    rw [g8]
    by_cases h : kdM s x 3 = true
    · rw [if_pos h, if_neg (fun z => ((ekd 3).mp z) h)]
    · rw [if_neg h, if_pos ((ekd 3).mpr h)]
  have c6 : (¬ zand (zand (s1 2 0 6) (s 6 0 4)) (zxor x (-1)) = 0) ↔ frM s x = true := by
    obtain ⟨a0, a1, a2⟩ := frF_bi (fun p => s 5 p 5) x (s 6 0 1).toNat 0 0 (by omega) (by omega) (fun i i0 i1 => by have := (h12 i i0 (by omega)).2.2.2.2.1; omega)
    rw [g7]
    obtain ⟨b0, b1, b2⟩ := zand_bi a0 a1 u0 u1
    obtain ⟨d0, d1, d2⟩ := zandnot_bi b0 b1 (show 0 ≤ x by omega) x1
    rw [zero_bi d0]
    unfold frM
    rw [anyF_t]
    constructor
    · intro h
      refine Classical.byContradiction fun hn => h (fun q q0 hq => ?_)
      rw [d2 q q0, b2 q q0, a2 q q0, u2 q q0] at hq
      obtain ⟨⟨hq1, hq2, hq3⟩, hq4⟩ := hq
      rcases hq1 with hq1 | ⟨i, i0, i1, i2, i3⟩
      · exact bi_0 q hq1
      · have kf := (h12 i i0 (by omega)).2.2.2.2.1
        have i4 : q = s 78 0 i := by rw [← kf.1]; exact i3
        refine hn ⟨i, i0, by omega, ?_⟩
        rw [Bool.and_eq_true]
        refine ⟨i2, decide_eq_true ⟨by omega, ?_, ?_⟩⟩
        · rw [← i4]; omega
        · rw [← i4]; exact hq4
    · rintro ⟨i, i0, i1, i2⟩ h
      rw [Bool.and_eq_true] at i2
      obtain ⟨j1, j2, j3⟩ := of_decide_eq_true i2.2
      have kf := (h12 i i0 (by omega)).2.2.2.2.1
      refine h (s 78 0 i) j1 ?_
      rw [d2 _ j1, b2 _ j1, a2 _ j1, u2 _ j1]
      refine ⟨⟨Or.inr ⟨i, i0, by omega, i2.1, kf.1.symm⟩, by omega, ?_⟩, j3⟩
      have := (h12 (s 78 0 i) j1 (by omega)).2.2.2.2.2.2.2.2
      omega
  by_cases q1 : s 87 0 t = 0
  · have q1' : ¬ ¬ s 87 0 t = 0 := fun z => z q1
    rw [if_neg q1', if_neg q1']
    by_cases q2 : tgM s t x = true
    · rw [if_pos q2, if_pos (c2.mpr q2)]
    · rw [if_neg q2, if_neg (fun z => q2 (c2.mp z))]
      by_cases q3 : lvM s x < 0
      · rw [if_pos q3, if_pos (lv2.mpr q3)]
      · rw [if_neg q3, if_neg (fun z => q3 (lv2.mp z)), c4]
        by_cases q4 : (if kdM s x 3 = true then zdiv (s 11 0 6) 2 else s 11 0 6) < popc x
        · rw [if_pos q4, if_pos q4]
        · rw [if_neg q4, if_neg q4]
          by_cases q5 : s 11 0 7 < oldM s x - yngM s x
          · rw [if_pos q5, if_pos q5]
          · rw [if_neg q5, if_neg q5]
            by_cases q6 : frM s x = true
            · rw [if_pos q6, if_pos (c6.mpr q6)]
            · rw [if_neg q6, if_neg (fun z => q6 (c6.mp z))]
              have el := lv3 q3
              have kr := ekd 2
              rw [← g9] at kr
              rw [k1.1, lv1, el]
              by_cases r : kdM s x 2 = true
              · have r0 : ¬ s1 2 0 8 = 0 := fun z => kr.mp z r
                by_cases q7 : s 84 0 t = 2 ∨ s 84 0 t = 3
                · rw [if_pos (Or.inl ⟨Or.inl r0, q7⟩), if_neg (by omega), if_neg (fun z => z.2 q7)]
                · rw [if_neg (fun z => z.elim (fun y => q7 y.2) (fun y => y.1 (Or.inl r0)))]
                  by_cases q8 : s 84 0 t = 1 ∧ 3 < topM s x
                  · rw [if_pos q8]
                  · rw [if_neg q8, if_pos ⟨Or.inr r, q7⟩]
              · have r0 : s1 2 0 8 = 0 := kr.mpr r
                have r1 : ¬ (7 < topM s x ∨ kdM s x 2 = true) ↔ ¬ 7 < topM s x := ⟨fun z y => z (Or.inl y), fun z y => y.elim z r⟩
                by_cases q9 : 7 < topM s x
                · by_cases q7 : s 84 0 t = 2 ∨ s 84 0 t = 3
                  · rw [if_pos (Or.inl ⟨Or.inr (by omega), q7⟩), if_neg (by omega), if_neg (fun z => z.2 q7)]
                  · rw [if_neg (by omega)]
                    by_cases q8 : s 84 0 t = 1 ∧ 3 < topM s x
                    · rw [if_pos q8]
                    · rw [if_neg q8, if_pos ⟨Or.inl q9, q7⟩]
                · by_cases q8 : s 84 0 t = 1 ∧ 3 < topM s x
                  · rw [if_pos q8, if_neg (by omega)]
                  · have q10 : ¬ ((7 < topM s x ∨ kdM s x 2 = true) ∧ ¬ (s 84 0 t = 2 ∨ s 84 0 t = 3)) := fun z => r1.mpr q9 z.1
                    rw [if_neg q8, if_neg q10, if_pos (by omega)]
  · rw [if_pos q1, if_pos q1]
theorem Gat_Sm {s s1 : zS} {x : Int} (h : Gat s s1 x) : Sm s s1 := fun g hg => h.1 g (fun e => hg (Or.inl e))
theorem pr_level (L : Nat) : Pr_level (Inv L) := by
  intro a ha s hs
  obtain ⟨h1, h2, h3, h4, h5, h6, h7, h8, h9, h10, h11, h12, h13⟩ := id hs
  have eP := h4.1
  have h40 := h4.2
  by_cases hc : 0 < a ∧ a < zshl 1 (s 11 0 0)
  · obtain ⟨a1, aP⟩ := set_P (show 0 ≤ a by omega) hc.2 (by omega) (by omega)
    have q1 : z01 (0 < a ∧ a < zshl 1 (s 6 0 1)) = 1 := z01_t (by rw [eP]; exact hc)
    have q2 := z01_t hc
    obtain ⟨s1, c1, c2⟩ := k_gather a (by omega) a1 s (by omega) (by omega) h2 (fun p p0 p1 => by have := (h12 p p0 (by omega)).1; omega)
    obtain ⟨lv1, lv2, lv3, lv4, lv5⟩ := lv_eq hs c2
    have hs1 : Inv L s1 := Inv_Sm (Gat_Sm c2) hs
    have g := c2.1
    have g11 : s1 11 = s 11 := g 11 (by omega)
    by_cases hl : lvM s a < 0
    · have q3 := z01_f (show ¬ s1 2 0 2 ≤ s1 2 0 3 by have := lv2.mpr hl; omega)
      have e0 : (0 ≤ lvM s a) = False := eq_false (by omega)
      have eL : ∀ s' : zS, s' 11 = s 11 → s' 76 = s 76 → s' 77 = s 77 → lvM s' a = lvM s a := by
        intro s' e1 e2 e3
        unfold lvM topM
        rw [e1, e2, e3]
      refine ⟨-1000004, zup s1 10 0 5 (w32 (s1 10 0 5 + 1)), zup (zup s1 10 0 5 (w32 (s1 10 0 5 + 1))) 11 0 5 (w32 (s1 11 0 5 + 1)), ?_, ?_, zf_step s1 hs1, ?_, ?_⟩
      · intro m pc ls st fs Q
        simp only [r82_0, r82_1, r82_4, r82_5, r82_8, r82_11, r82_12, r82_14, r82_17, r82_18, r82_19, r82_22, r82_23, r82_26, r82_27, r82_28, r82_31, r82_34, r82_35, r82_38, r82_41, r82_42, r82_44, r82_47, k_hasAll, q1, zclr_I, zclr_R, zclr_L, zclr_U, reduceIte, Int.reduceEq, Int.reduceLT, Int.reduceLE, Int.reduceNeg, not_true_eq_false, not_false_eq_true, or_true, true_or, or_false, false_or, and_true, true_and, and_false, false_and, z01_or]
        rw [c1]
        simp only [r82_0, r82_1, r82_4, r82_5, r82_8, r82_11, r82_12, r82_14, r82_17, r82_18, r82_19, r82_22, r82_23, r82_26, r82_27, r82_28, r82_31, r82_34, r82_35, r82_38, r82_41, r82_42, r82_44, r82_47, k_hasLevel, k_finding, q3, zclr_I, zclr_R, zclr_L, zclr_U, reduceIte, Int.reduceEq, Int.reduceLT, Int.reduceLE, Int.reduceNeg, not_true_eq_false, not_false_eq_true, or_true, true_or, or_false, false_or, and_true, true_and, and_false, false_and, z01_or]
      · intro m pc ls st fs Q
        have f11 : (zup s1 10 0 5 (w32 (s1 10 0 5 + 1))) 11 = s 11 := by rw [zup_ng (by omega), g11]
        have f76 : (zup s1 10 0 5 (w32 (s1 10 0 5 + 1))) 76 = s 76 := by rw [zup_ng (by omega), g 76 (by omega)]
        have f77 : (zup s1 10 0 5 (w32 (s1 10 0 5 + 1))) 77 = s 77 := by rw [zup_ng (by omega), g 77 (by omega)]
        rw [g11]
        simp only [r139_0, r139_1, r139_2, r139_5, r139_8, r139_9, r139_11, r139_14, r139_15, r139_16, r139_17, r139_20, r139_21, r139_22, r139_25, r139_26, r139_28, r139_31, r139_34, r139_35, k_isSet, f11, q2, zclr_I, zclr_R, zclr_L, zclr_U, reduceIte, Int.reduceEq, Int.reduceLT, Int.reduceLE, Int.reduceNeg, not_true_eq_false, not_false_eq_true, or_true, true_or, or_false, false_or, and_true, true_and, and_false, false_and, z01_or]
        rw [k_levelOf a zU zU (by omega) a1 (by rw [f11]; omega) (by rw [f11]; omega), eL _ f11 f76 f77]
        simp only [r139_0, r139_1, r139_2, r139_5, r139_8, r139_9, r139_11, r139_14, r139_15, r139_16, r139_17, r139_20, r139_21, r139_22, r139_25, r139_26, r139_28, r139_31, r139_34, r139_35, k_finds, f11, e0, zclr_I, zclr_R, zclr_L, zclr_U, reduceIte, Int.reduceEq, Int.reduceLT, Int.reduceLE, Int.reduceNeg, not_true_eq_false, not_false_eq_true, or_true, true_or, or_false, false_or, and_true, true_and, and_false, false_and, z01_or]
      · rw [zup_ng (by omega), g 110 (by omega)]
      · rw [zup_ng (by omega), g 111 (by omega)]
    · have q3 := z01_t (show s1 2 0 2 ≤ s1 2 0 3 by have := fun z => hl (lv2.mp z); omega)
      have e0 : (0 ≤ lvM s a) = True := eq_true (by omega)
      have eL : lvM s1 a = lvM s a := by
        unfold lvM topM
        rw [g11, g 76 (by omega), g 77 (by omega)]
      refine ⟨lvM s a, s1, s1, ?_, ?_, hs1, g 110 (by omega), g 111 (by omega)⟩
      · intro m pc ls st fs Q
        simp only [r82_0, r82_1, r82_4, r82_5, r82_8, r82_11, r82_12, r82_14, r82_17, r82_18, r82_19, r82_22, r82_23, r82_26, r82_27, r82_28, r82_31, r82_34, r82_35, r82_38, r82_41, r82_42, r82_44, r82_47, k_hasAll, q1, zclr_I, zclr_R, zclr_L, zclr_U, reduceIte, Int.reduceEq, Int.reduceLT, Int.reduceLE, Int.reduceNeg, not_true_eq_false, not_false_eq_true, or_true, true_or, or_false, false_or, and_true, true_and, and_false, false_and, z01_or]
        rw [c1]
        simp only [r82_0, r82_1, r82_4, r82_5, r82_8, r82_11, r82_12, r82_14, r82_17, r82_18, r82_19, r82_22, r82_23, r82_26, r82_27, r82_28, r82_31, r82_34, r82_35, r82_38, r82_41, r82_42, r82_44, r82_47, k_hasLevel, q3, zclr_I, zclr_R, zclr_L, zclr_U, reduceIte, Int.reduceEq, Int.reduceLT, Int.reduceLE, Int.reduceNeg, not_true_eq_false, not_false_eq_true, or_true, true_or, or_false, false_or, and_true, true_and, and_false, false_and, z01_or]
        rw [lv1, lv3 hl]
      · intro m pc ls st fs Q
        simp only [r139_0, r139_1, r139_2, r139_5, r139_8, r139_9, r139_11, r139_14, r139_15, r139_16, r139_17, r139_20, r139_21, r139_22, r139_25, r139_26, r139_28, r139_31, r139_34, r139_35, k_isSet, g11, q2, zclr_I, zclr_R, zclr_L, zclr_U, reduceIte, Int.reduceEq, Int.reduceLT, Int.reduceLE, Int.reduceNeg, not_true_eq_false, not_false_eq_true, or_true, true_or, or_false, false_or, and_true, true_and, and_false, false_and, z01_or]
        rw [k_levelOf a zU zU (by omega) a1 (by rw [g11]; omega) (by rw [g11]; omega), eL]
        simp only [r139_0, r139_1, r139_2, r139_5, r139_8, r139_9, r139_11, r139_14, r139_15, r139_16, r139_17, r139_20, r139_21, r139_22, r139_25, r139_26, r139_28, r139_31, r139_34, r139_35, e0, zclr_I, zclr_R, zclr_L, zclr_U, reduceIte, Int.reduceEq, Int.reduceLT, Int.reduceLE, Int.reduceNeg, not_true_eq_false, not_false_eq_true, or_true, true_or, or_false, false_or, and_true, true_and, and_false, false_and, z01_or]
  · have q1 : z01 (0 < a ∧ a < zshl 1 (s 6 0 1)) = 0 := z01_f (by rw [eP]; exact hc)
    have q2 := z01_f hc
    refine pf (-1000001) hs ?_ ?_ <;> intro m pc ls st fs Q
    · simp only [r82_0, r82_1, r82_4, r82_5, r82_8, r82_11, r82_12, r82_14, r82_17, r82_18, r82_19, r82_22, r82_23, r82_26, r82_27, r82_28, r82_31, r82_34, r82_35, r82_38, r82_41, r82_42, r82_44, r82_47, k_hasAll, k_finding, q1, zclr_I, zclr_R, zclr_L, zclr_U, reduceIte, Int.reduceEq, Int.reduceLT, Int.reduceLE, Int.reduceNeg, not_true_eq_false, not_false_eq_true, or_true, true_or, or_false, false_or, and_true, true_and, and_false, false_and, z01_or]
    · simp only [r139_0, r139_1, r139_2, r139_5, r139_8, r139_9, r139_11, r139_14, r139_15, r139_16, r139_17, r139_20, r139_21, r139_22, r139_25, r139_26, r139_28, r139_31, r139_34, r139_35, k_isSet, k_finds, zup_g, Nat.reduceEqDiff, q2, zclr_I, zclr_R, zclr_L, zclr_U, reduceIte, Int.reduceEq, Int.reduceLT, Int.reduceLE, Int.reduceNeg, not_true_eq_false, not_false_eq_true, or_true, true_or, or_false, false_or, and_true, true_and, and_false, false_and, z01_or]
theorem mayM_c {s s' : zS} (t x : Int) (h : ∀ g : Nat, g = 11 ∨ g = 73 ∨ g = 74 ∨ g = 75 ∨ g = 76 ∨ g = 77 ∨ g = 78 ∨ g = 83 ∨ g = 84 ∨ g = 85 ∨ g = 87 → s' g = s g) : mayM s' t x = mayM s t x := by
  unfold mayM tgM lvM topM kdM oldM yngM frM
  rw [h 11 (by omega), h 73 (by omega), h 74 (by omega), h 75 (by omega), h 76 (by omega), h 77 (by omega), h 78 (by omega), h 83 (by omega), h 84 (by omega), h 85 (by omega), h 87 (by omega)]
theorem pr_may (L : Nat) : Pr_may (Inv L) := by
  intro a b ha hbr s hs
  obtain ⟨h1, h2, h3, h4, h5, h6, h7, h8, h9, h10, h11, h12, h13, h14, h15, h16⟩ := id hs
  have eP := h4.1
  have h40 := h4.2
  have eT := h5.1
  have h50 := h5.2
  have w0 : w32 (s 11 0 1 - 1) = s 11 0 1 - 1 := w32_id (by omega) (by omega)
  by_cases hq : 0 ≤ a ∧ a < s 11 0 1
  · have p1 : z01 (0 ≤ a ∧ a < s 6 0 3) = 1 := z01_t (by omega)
    have p2 : z01 (0 ≤ a ∧ a ≤ s 11 0 1 - 1) = 1 := z01_t (by omega)
    by_cases hc : 0 < b ∧ b < zshl 1 (s 11 0 0)
    · obtain ⟨a1, aP⟩ := set_P (show 0 ≤ b by omega) hc.2 (by omega) (by omega)
      have q1 : z01 (0 < b ∧ b < zshl 1 (s 6 0 1)) = 1 := z01_t (by rw [eP]; exact hc)
      have q2 := z01_t hc
      have b1 : (0 ≤ a ∧ a < 5) = True := eq_true (by omega)
      obtain ⟨s1, c1, c2⟩ := k_gather b (by omega) a1 s (by omega) (by omega) h2 (fun p p0 p1 => by have := (h12 p p0 (by omega)).1; omega)
      have hs1 : Inv L s1 := Inv_Sm (Gat_Sm c2) hs
      obtain ⟨ag1, ag2, ag3, ag4, ag5, ag6⟩ := age_b hs hc.1 aP
      have g := c2.1
      have g11 : s1 11 = s 11 := g 11 (by omega)
      have eM : mayM s1 a b = mayM s a b := mayM_c a b (fun g' hg' => g g' (by omega))
      have eR := rs_eq (s' := s1) hs c2 hc.1 a1 aP hq.1 hq.2 rfl (g 6 (by omega)) (g 8 (by omega))
      have ht := (h15 a hq.1 hq.2).1
      refine ⟨mayM s a b, s1, s1, ?_, ?_, hs1, g 110 (by omega), g 111 (by omega)⟩
      · intro m pc ls st fs Q
        simp only [r83_0, r83_1, r83_4, r83_5, r83_8, r83_11, r83_12, r83_15, r83_16, r83_19, r83_22, r83_23, r83_25, r83_28, r83_29, r83_30, r83_33, r83_34, r83_37, r83_40, r83_41, r83_42, r83_43, r83_46, r83_47, r83_50, r83_53, k_hasTeacher, k_hasAll, p1, q1, b1, zak_40, zln_40, zak_41, zln_41, zak_42, zln_42, zak_43, zln_43, zak_44, zln_44, zak_45, zln_45, zak_46, zln_46, zak_47, zln_47, zak_48, zln_48, zak_49, zln_49, zak_50, zln_50, zak_51, zln_51, zak_52, zln_52, zak_53, zln_53, zak_54, zln_54, zak_55, zln_55, zak_73, zln_73, zak_74, zln_74, zak_75, zln_75, zak_76, zln_76, zak_77, zln_77, zak_78, zln_78, zak_79, zln_79, zak_80, zln_80, zak_81, zln_81, zak_82, zln_82, zak_83, zln_83, zak_84, zln_84, zak_85, zln_85, zak_86, zln_86, zak_87, zln_87, zak_88, zln_88, zak_89, zln_89, zak_90, zln_90, zak_91, zln_91, zak_92, zln_92, zak_93, zln_93, zak_94, zln_94, zak_95, zln_95, zak_96, zln_96, zak_97, zln_97, zak_98, zln_98, zak_99, zln_99, zak_100, zln_100, zak_101, zln_101, zak_102, zln_102, zak_103, zln_103, zak_104, zln_104, zak_105, zln_105, zak_108, zln_108, zak_109, zln_109, Nat.reduceLeDiff, zclr_I, zclr_R, zclr_L, zclr_U, reduceIte, Int.reduceEq, Int.reduceLT, Int.reduceLE, Int.reduceNeg, not_true_eq_false, not_false_eq_true, or_true, true_or, or_false, false_or, and_true, true_and, and_false, false_and, z01_or]
        rw [c1]
        simp only [r83_0, r83_1, r83_4, r83_5, r83_8, r83_11, r83_12, r83_15, r83_16, r83_19, r83_22, r83_23, r83_25, r83_28, r83_29, r83_30, r83_33, r83_34, r83_37, r83_40, r83_41, r83_42, r83_43, r83_46, r83_47, r83_50, r83_53, zclr_I, zclr_R, zclr_L, zclr_U, reduceIte, Int.reduceEq, Int.reduceLT, Int.reduceLE, Int.reduceNeg, not_true_eq_false, not_false_eq_true, or_true, true_or, or_false, false_or, and_true, true_and, and_false, false_and, z01_or]
        rw [k_reason (by rw [g 108 (by omega), g 109 (by omega)]; exact h2) a (by rw [g 8 (by omega)]; omega) (by rw [c2.2.2.2.2.2.1, c2.2.2.2.2.2.2.1, ← ag1, ← ag2]; omega), eR]
        simp only [r83_0, r83_1, r83_4, r83_5, r83_8, r83_11, r83_12, r83_15, r83_16, r83_19, r83_22, r83_23, r83_25, r83_28, r83_29, r83_30, r83_33, r83_34, r83_37, r83_40, r83_41, r83_42, r83_43, r83_46, r83_47, r83_50, r83_53, zclr_I, zclr_R, zclr_L, zclr_U, reduceIte, Int.reduceEq, Int.reduceLT, Int.reduceLE, Int.reduceNeg, not_true_eq_false, not_false_eq_true, or_true, true_or, or_false, false_or, and_true, true_and, and_false, false_and, z01_or]
      · intro m pc ls st fs Q
        have hF : ∀ p : Int, 0 ≤ p → p < s1 11 0 0 → s1 78 0 p < 10 := by
          rw [g11, g 78 (by omega)]
          intro p p0 p1
          have := (h12 p p0 p1).2.2.2.2.1
          omega
        have eo : oldM s1 b = oldM s b := by unfold oldM; rw [g11, g 74 (by omega)]
        have ey : yngM s1 b = yngM s b := by unfold yngM; rw [g11, g 74 (by omega)]
        simp only [r145_0, r145_1, r145_2, r145_5, r145_8, r145_9, r145_10, r145_13, r145_16, r145_17, r145_18, r145_19, r145_22, r145_25, r145_26, r145_28, r145_31, k_isTeacher, k_isSet, g11, w0, p2, q2, zclr_I, zclr_R, zclr_L, zclr_U, reduceIte, Int.reduceEq, Int.reduceLT, Int.reduceLE, Int.reduceNeg, not_true_eq_false, not_false_eq_true, or_true, true_or, or_false, false_or, and_true, true_and, and_false, false_and, z01_or]
        rw [k_mayTeach a b zU (by omega) (by omega) a1 (by rw [g11]; omega) (by rw [g11]; omega) hF (by rw [eo, ey]; omega), eM]
        simp only [r145_0, r145_1, r145_2, r145_5, r145_8, r145_9, r145_10, r145_13, r145_16, r145_17, r145_18, r145_19, r145_22, r145_25, r145_26, r145_28, r145_31, zclr_I, zclr_R, zclr_L, zclr_U, reduceIte, Int.reduceEq, Int.reduceLT, Int.reduceLE, Int.reduceNeg, not_true_eq_false, not_false_eq_true, or_true, true_or, or_false, false_or, and_true, true_and, and_false, false_and, z01_or]
    · have q1 : z01 (0 < b ∧ b < zshl 1 (s 6 0 1)) = 0 := z01_f (by rw [eP]; exact hc)
      have q2 := z01_f hc
      refine pf (-1000001) hs ?_ ?_ <;> intro m pc ls st fs Q
      · simp only [r83_0, r83_1, r83_4, r83_5, r83_8, r83_11, r83_12, r83_15, r83_16, r83_19, r83_22, r83_23, r83_25, r83_28, r83_29, r83_30, r83_33, r83_34, r83_37, r83_40, r83_41, r83_42, r83_43, r83_46, r83_47, r83_50, r83_53, k_hasTeacher, k_hasAll, k_finding, p1, q1, zclr_I, zclr_R, zclr_L, zclr_U, reduceIte, Int.reduceEq, Int.reduceLT, Int.reduceLE, Int.reduceNeg, not_true_eq_false, not_false_eq_true, or_true, true_or, or_false, false_or, and_true, true_and, and_false, false_and, z01_or]
      · simp only [r145_0, r145_1, r145_2, r145_5, r145_8, r145_9, r145_10, r145_13, r145_16, r145_17, r145_18, r145_19, r145_22, r145_25, r145_26, r145_28, r145_31, k_isTeacher, k_isSet, k_finds, zup_g, Nat.reduceEqDiff, w0, p2, q2, zclr_I, zclr_R, zclr_L, zclr_U, reduceIte, Int.reduceEq, Int.reduceLT, Int.reduceLE, Int.reduceNeg, not_true_eq_false, not_false_eq_true, or_true, true_or, or_false, false_or, and_true, true_and, and_false, false_and, z01_or]
  · have p1 : z01 (0 ≤ a ∧ a < s 6 0 3) = 0 := z01_f (by omega)
    have p2 : z01 (0 ≤ a ∧ a ≤ s 11 0 1 - 1) = 0 := z01_f (by omega)
    refine pf (-1000001) hs ?_ ?_ <;> intro m pc ls st fs Q
    · simp only [r83_0, r83_1, r83_4, r83_5, r83_8, r83_11, r83_12, r83_15, r83_16, r83_19, r83_22, r83_23, r83_25, r83_28, r83_29, r83_30, r83_33, r83_34, r83_37, r83_40, r83_41, r83_42, r83_43, r83_46, r83_47, r83_50, r83_53, k_hasTeacher, k_finding, p1, zclr_I, zclr_R, zclr_L, zclr_U, reduceIte, Int.reduceEq, Int.reduceLT, Int.reduceLE, Int.reduceNeg, not_true_eq_false, not_false_eq_true, or_true, true_or, or_false, false_or, and_true, true_and, and_false, false_and, z01_or]
    · simp only [r145_0, r145_1, r145_2, r145_5, r145_8, r145_9, r145_10, r145_13, r145_16, r145_17, r145_18, r145_19, r145_22, r145_25, r145_26, r145_28, r145_31, k_isTeacher, k_finds, zup_g, Nat.reduceEqDiff, w0, p2, zclr_I, zclr_R, zclr_L, zclr_U, reduceIte, Int.reduceEq, Int.reduceLT, Int.reduceLE, Int.reduceNeg, not_true_eq_false, not_false_eq_true, or_true, true_or, or_false, false_or, and_true, true_and, and_false, false_and, z01_or]

/-- the class's search and the reference's, wherever the latter begins -/
theorem both {L : Nat} {s : zS} (hs : Inv L s) (noon : Int) (hn : noon = 0 ∨ noon = 1) : ∃ (s1 : zS) (w : Int), (∀ (m pc : Nat) (ls st : List zV) (fs : List zFr) (Q : List zV → zS → Prop), Ev ((27, 0, [zR 4 0, zR 6 0, zI noon, zU, zU, zU, zU], []) :: (m, pc, ls, st) :: fs) s Q = Ev ((m, pc, ls, zI (z01 (w < 2305843009213693952)) :: st) :: fs) s1 Q) ∧ Sm s s1 ∧ ∀ s9 : zS, Sm8 s s9 → ∃ (s2 : zS) (R : Int), (∀ (m pc : Nat) (ls st : List zV) (fs : List zFr) (Q : List zV → zS → Prop), Ev ((148, 0, [zR 11 0, zI noon, zU, zU, zU, zU, zU, zU], []) :: (m, pc, ls, st) :: fs) s9 Q = Ev ((m, pc, ls, zI R :: st) :: fs) s2 Q) ∧ (∀ g : Nat, ¬ (g = 102 ∨ g = 103 ∨ g = 104) → s2 g = s9 g) ∧ (w < 2305843009213693952 ↔ R < 1000000000) ∧ (R < 1000000000 → VA (okS s) 0 (s 11 0 1) (s 6 0 4) (fun u => s2 104 0 u) ∧ CA (cR s noon) 0 (s 11 0 1) (fun u => s2 104 0 u) = R ∧ ∀ t : Int, 0 ≤ t → t < s 11 0 1 → s1 47 0 t = s2 104 0 t) := by
  obtain ⟨h1, h2, h3, h4, h5, h6⟩ := id hs
  have h50 := h5.2
  obtain ⟨sP, kp1, kp2, kp3⟩ := k_price hs noon hn
  obtain ⟨s1, w, c1, S1, hF, hd⟩ := k_plans (PrO_I hs noon) s sP rfl h5.1 kp1 kp2 kp3
  refine ⟨s1, w, c1, S1, fun s9 hS9 => ?_⟩
  obtain ⟨s2, R, d1, d2, d3, d4, d5⟩ := k_find8 hs hS9 noon hn
  obtain ⟨j1, j2⟩ := join hs noon hn hF d4 d5
  refine ⟨s2, R, d1, d2, j1, fun hR => ⟨(d5 hR).1, (d5 hR).2.1, fun t t0 t1 => ?_⟩⟩
  rw [hd t t0 (by omega)]
  exact j2 hR t t0 t1
/-- both have found none -/
theorem none_I {L : Nat} {s s1 s2 : zS} (hs : Inv L s) (S1 : Sm s s1) (h : ∀ g : Nat, ¬ (g = 102 ∨ g = 103 ∨ g = 104) → s2 g = zup s1 10 0 5 (w32 (s1 10 0 5 + 1)) g) : Inv L (zup s2 11 0 5 (w32 (s2 11 0 5 + 1))) := by
  have hz := zf_step s1 (Inv_Sm S1 hs)
  refine Inv_Sm (fun g hg => ?_) hz
  have e11 : s2 11 = s1 11 := by rw [h 11 (by omega), zup_ng (by omega)]
  have hg' : ¬ (g = 102 ∨ g = 103 ∨ g = 104) := fun e => hg (by unfold Scr; omega)
  by_cases e : g = 11
  · subst e
    rw [zup_g, if_pos rfl, zup_g, if_pos rfl, e11, zup_ng (by omega)]
  · rw [zup_ng e, zup_ng e]; exact h g hg'
/-- behind makeClasses and become -/
theorem made_I {L : Nat} {s s1 s2 s3 s4 : zS} (hs : Inv L s) (S1 : Sm s s1) (y1 : ∀ g : Nat, ¬ g = 8 → s2 g = s1 g) (y2 : ∀ u l : Int, ¬ l = 5 → s2 8 u l = s1 8 u l) (y3 : ∀ u : Int, s2 8 u 5 = if 0 ≤ u ∧ u < s 11 0 1 then s1 47 0 u else s1 8 u 5) (z1 : ∀ g : Nat, ¬ (g = 102 ∨ g = 103 ∨ g = 104) → s3 g = s2 g) (x1 : ∀ g : Nat, ¬ g = 86 → s4 g = s3 g) (x2 : ∀ u : Int, s4 86 0 u = if 0 ≤ u ∧ u < s 11 0 1 then s3 104 0 u else s3 86 0 u) (hv : VA (okS s) 0 (s 11 0 1) (s 6 0 4) (fun u => s3 104 0 u)) (he : ∀ t : Int, 0 ≤ t → t < s 11 0 1 → s1 47 0 t = s3 104 0 t) : Inv L s4 := by
  obtain ⟨h1, h2, h3, h4, h5, h6, h7, h8, h9, h10, h11, h12, h13, h14, h15, h16, h17⟩ := id hs
  have f : ∀ g : Nat, ¬ Scr g → ¬ (g = 8 ∨ g = 86) → s4 g = s g := fun g hg hg2 => by
    rw [x1 g (by omega), z1 g (fun e => hg (by unfold Scr; omega)), y1 g (by omega), S1 g hg]
  have f8 : s4 8 = s2 8 := by rw [x1 8 (by omega), z1 8 (by omega)]
  have g8 : s1 8 = s 8 := S1 8 (nScr 8 (by omega))
  have g86 : s3 86 = s 86 := by rw [z1 86 (by omega), y1 86 (by omega), S1 86 (nScr 86 (by omega))]
  rw [g8] at y2 y3
  rw [g86] at x2
  unfold Inv
  rw [f 110 (by unfold Scr; omega) (by omega), f 111 (by unfold Scr; omega) (by omega), f 108 (by unfold Scr; omega) (by omega), f 109 (by unfold Scr; omega) (by omega), f 10 (by unfold Scr; omega) (by omega), f 11 (by unfold Scr; omega) (by omega), f 6 (by unfold Scr; omega) (by omega), f 3 (by unfold Scr; omega) (by omega), f 1 (by unfold Scr; omega) (by omega), f 5 (by unfold Scr; omega) (by omega), f 42 (by unfold Scr; omega) (by omega), f 73 (by unfold Scr; omega) (by omega), f 74 (by unfold Scr; omega) (by omega), f 75 (by unfold Scr; omega) (by omega), f 76 (by unfold Scr; omega) (by omega), f 77 (by unfold Scr; omega) (by omega), f 78 (by unfold Scr; omega) (by omega), f 79 (by unfold Scr; omega) (by omega), f 80 (by unfold Scr; omega) (by omega), f 81 (by unfold Scr; omega) (by omega), f 82 (by unfold Scr; omega) (by omega), f 83 (by unfold Scr; omega) (by omega), f 84 (by unfold Scr; omega) (by omega), f 85 (by unfold Scr; omega) (by omega), f 87 (by unfold Scr; omega) (by omega), f 9 (by unfold Scr; omega) (by omega), f 88 (by unfold Scr; omega) (by omega), f 89 (by unfold Scr; omega) (by omega), f 93 (by unfold Scr; omega) (by omega), f 12 (by unfold Scr; omega) (by omega), f 90 (by unfold Scr; omega) (by omega), f 91 (by unfold Scr; omega) (by omega), f 92 (by unfold Scr; omega) (by omega), f 0 (by unfold Scr; omega) (by omega), f 94 (by unfold Scr; omega) (by omega), f 95 (by unfold Scr; omega) (by omega), f 96 (by unfold Scr; omega) (by omega), f 97 (by unfold Scr; omega) (by omega), f 98 (by unfold Scr; omega) (by omega), f 7 (by unfold Scr; omega) (by omega), f 54 (by unfold Scr; omega) (by omega), f 99 (by unfold Scr; omega) (by omega), f 100 (by unfold Scr; omega) (by omega), f 101 (by unfold Scr; omega) (by omega), f8]
  refine ⟨h1, h2, h3, h4, h5, h6, h7, h8, h9, h10, h11, h12, h13, h14, fun t t0 t1 => ?_, fun t t0 t1 => ?_, h17⟩
  · obtain ⟨k1, k2, k3, k4, k5, k6⟩ := h15 t t0 t1
    rw [y2 t 0 (by omega), y2 t 1 (by omega), y2 t 2 (by omega), y2 t 3 (by omega), y2 t 4 (by omega), y3 t, x2 t, if_pos ⟨t0, t1⟩, if_pos ⟨t0, t1⟩]
    refine ⟨k1, k2, k3, ⟨he t t0 t1, ?_⟩, k5, k6⟩
    rcases hv.1 t t0 t1 with z | z
    · have z : s3 104 0 t = 0 := z
      rw [z]; omega
    · have z1 : 0 < s3 104 0 t ∧ s3 104 0 t < 1024 := z.1
      omega
  · rw [y2 t 2 (by omega), y2 t 3 (by omega), y2 t 4 (by omega), y3 t, x2 t, if_neg (by omega), if_neg (by omega)]
    exact h16 t t0 t1
theorem pr_classing (L : Nat) : Pr_classing (Inv L) := by
  intro s hs
  obtain ⟨h1, h2, h3, h4, h5, h6⟩ := id hs
  have h50 := h5.2
  have eT := h5.1
  obtain ⟨s1, w, c1, S1, hb⟩ := both hs 0 (Or.inl rfl)
  have g6 : s1 6 = s 6 := S1 6 (nScr 6 (by omega))
  by_cases hw : w < 2305843009213693952
  · have q := z01_t hw
    obtain ⟨s2, y0, y1, y2, y3⟩ := lp57 (s 6 0 3).toNat 0 s1 (by omega) (by rw [g6]; omega) (by rw [g6]; omega)
    rw [g6, eT] at y3
    have S2 : Sm8 s s2 := fun g hg hg2 => by rw [y1 g (by omega), S1 g hg]
    obtain ⟨s3, R, z0, z1, z2, z3⟩ := hb s2 S2
    have hR := z2.mp hw
    obtain ⟨v1, v2, v3⟩ := z3 hR
    have f11 : s3 11 = s 11 := by rw [z1 11 (by omega), y1 11 (by omega), S1 11 (nScr 11 (by omega))]
    obtain ⟨s4, x0, x1, x2⟩ := lp149 (s 11 0 1).toNat 0 0 s3 (by omega) (by rw [f11]; omega) (by rw [f11]; omega) (by omega) (by omega)
    rw [f11] at x2
    have e6 : s2 6 = s 6 := by rw [y1 6 (by omega), g6]
    refine ⟨0 + sumF (fun i => if s3 104 0 i = 0 then 0 else 1) 0 (s 11 0 1).toNat, s2, s4, ?_, ?_, made_I hs S1 y1 y2 y3 z1 x1 x2 v1 v3, ?_, ?_⟩
    · intro m pc ls st fs Q
      simp only [r84_0, r84_1, r84_4, r84_5, r84_8, r84_9, r84_12, r84_15, r84_16, r84_18, r84_21, r84_22, r84_23, r84_26, r84_27, r84_30, r84_33, r84_36, r84_37, r84_40, r84_43, c1, q, r57_0, r57_1, zclr_I, zclr_R, zclr_L, zclr_U, reduceIte, Int.reduceEq, Int.reduceLT, Int.reduceLE, Int.reduceNeg, not_true_eq_false, not_false_eq_true, or_true, true_or, or_false, false_or, and_true, true_and, and_false, false_and, z01_or]
      rw [y0]
      simp only [r84_0, r84_1, r84_4, r84_5, r84_8, r84_9, r84_12, r84_15, r84_16, r84_18, r84_21, r84_22, r84_23, r84_26, r84_27, r84_30, r84_33, r84_36, r84_37, r84_40, r84_43, zclr_I, zclr_R, zclr_L, zclr_U, reduceIte, Int.reduceEq, Int.reduceLT, Int.reduceLE, Int.reduceNeg, not_true_eq_false, not_false_eq_true, or_true, true_or, or_false, false_or, and_true, true_and, and_false, false_and, z01_or]
      rw [k_countClasses (by rw [e6]; omega), e6, eT, sumF_c (g := fun i => if s3 104 0 i = 0 then 0 else 1) _ _ (fun i i0 i1 => by rw [(y3 i).trans (if_pos ⟨i0, by omega⟩), v3 i i0 (by omega)])]
      simp only [r84_0, r84_1, r84_4, r84_5, r84_8, r84_9, r84_12, r84_15, r84_16, r84_18, r84_21, r84_22, r84_23, r84_26, r84_27, r84_30, r84_33, r84_36, r84_37, r84_40, r84_43, Int.zero_add, zclr_I, zclr_R, zclr_L, zclr_U, reduceIte, Int.reduceEq, Int.reduceLT, Int.reduceLE, Int.reduceNeg, not_true_eq_false, not_false_eq_true, or_true, true_or, or_false, false_or, and_true, true_and, and_false, false_and, z01_or]
    · intro m pc ls st fs Q
      have hR' : (R < 1000000000) = True := eq_true hR
      simp only [r150_0, r150_1, r150_2, r150_5, r150_7, r150_10, r150_11, r150_13, r150_16, r150_19, r150_20, r150_23, z0, hR', r149_0, r149_1, r149_2, r149_3, zclr_I, zclr_R, zclr_L, zclr_U, reduceIte, Int.reduceEq, Int.reduceLT, Int.reduceLE, Int.reduceNeg, not_true_eq_false, not_false_eq_true, or_true, true_or, or_false, false_or, and_true, true_and, and_false, false_and, z01_or]
      rw [x0]
      simp only [r150_0, r150_1, r150_2, r150_5, r150_7, r150_10, r150_11, r150_13, r150_16, r150_19, r150_20, r150_23, zclr_I, zclr_R, zclr_L, zclr_U, reduceIte, Int.reduceEq, Int.reduceLT, Int.reduceLE, Int.reduceNeg, not_true_eq_false, not_false_eq_true, or_true, true_or, or_false, false_or, and_true, true_and, and_false, false_and, z01_or]
    · rw [y1 110 (by omega), S1 110 (nScr 110 (by omega))]
    · rw [y1 111 (by omega), S1 111 (nScr 111 (by omega))]
  · have q := z01_f hw
    obtain ⟨s3, R, z0, z1, z2, z3⟩ := hb (zup s1 10 0 5 (w32 (s1 10 0 5 + 1))) (Sm8_up _ _ _ (Or.inr (Or.inr rfl)) (Sm8_S S1))
    have hR : ¬ R < 1000000000 := fun h => hw (z2.mpr h)
    refine ⟨-1000004, zup s1 10 0 5 (w32 (s1 10 0 5 + 1)), zup s3 11 0 5 (w32 (s3 11 0 5 + 1)), ?_, ?_, none_I hs S1 z1, ?_, ?_⟩
    · intro m pc ls st fs Q
      simp only [r84_0, r84_1, r84_4, r84_5, r84_8, r84_9, r84_12, r84_15, r84_16, r84_18, r84_21, r84_22, r84_23, r84_26, r84_27, r84_30, r84_33, r84_36, r84_37, r84_40, r84_43, c1, q, k_finding, zclr_I, zclr_R, zclr_L, zclr_U, reduceIte, Int.reduceEq, Int.reduceLT, Int.reduceLE, Int.reduceNeg, not_true_eq_false, not_false_eq_true, or_true, true_or, or_false, false_or, and_true, true_and, and_false, false_and, z01_or]
    · intro m pc ls st fs Q
      have hR' : (R < 1000000000) = False := eq_false hR
      simp only [r150_0, r150_1, r150_2, r150_5, r150_7, r150_10, r150_11, r150_13, r150_16, r150_19, r150_20, r150_23, z0, hR', k_finds, zclr_I, zclr_R, zclr_L, zclr_U, reduceIte, Int.reduceEq, Int.reduceLT, Int.reduceLE, Int.reduceNeg, not_true_eq_false, not_false_eq_true, or_true, true_or, or_false, false_or, and_true, true_and, and_false, false_and, z01_or]
    · rw [zup_ng (by omega), S1 110 (nScr 110 (by omega))]
    · rw [zup_ng (by omega), S1 111 (nScr 111 (by omega))]
theorem pr_noon (L : Nat) : Pr_noon (Inv L) := by
  intro s hs
  obtain ⟨h1, h2, h3, h4, h5, h6⟩ := id hs
  have h50 := h5.2
  have eT := h5.1
  obtain ⟨s1, w, c1, S1, hb⟩ := both hs 1 (Or.inr rfl)
  have g6 : s1 6 = s 6 := S1 6 (nScr 6 (by omega))
  have g8 : s1 8 = s 8 := S1 8 (nScr 8 (by omega))
  by_cases hw : w < 2305843009213693952
  · have q := z01_t hw
    obtain ⟨s2, y0, y1, y2, y3⟩ := lp57 (s 6 0 3).toNat 0 s1 (by omega) (by rw [g6]; omega) (by rw [g6]; omega)
    rw [g6, eT] at y3
    have S2 : Sm8 s s2 := fun g hg hg2 => by rw [y1 g (by omega), S1 g hg]
    obtain ⟨s3, R, z0, z1, z2, z3⟩ := hb s2 S2
    have hR := z2.mp hw
    obtain ⟨v1, v2, v3⟩ := z3 hR
    have f11 : s3 11 = s 11 := by rw [z1 11 (by omega), y1 11 (by omega), S1 11 (nScr 11 (by omega))]
    obtain ⟨s4, x0, x1, x2⟩ := lp149 (s 11 0 1).toNat 0 0 s3 (by omega) (by rw [f11]; omega) (by rw [f11]; omega) (by omega) (by omega)
    rw [f11] at x2
    have bB : ∀ u : Int, 0 ≤ u → u < s 11 0 1 → 0 ≤ s3 104 0 u ∧ s3 104 0 u < 1024 := fun u u0 u1 => by
      rcases v1.1 u u0 u1 with z | z
      · have z : s3 104 0 u = 0 := z
        omega
      · have z1 : 0 < s3 104 0 u ∧ s3 104 0 u < 1024 := z.1
        omega
    have hB : ∀ u : Int, 0 ≤ u → u < s1 6 0 3 → TeB s1 u ∧ 0 ≤ s1 47 0 u ∧ s1 47 0 u < 1024 := fun u u0 u1 => by
      rw [g6, eT] at u1
      refine ⟨?_, by rw [v3 u u0 u1]; exact bB u u0 u1⟩
      have := TeB_I hs u0 u1
      unfold TeB at this ⊢
      rw [g6, g8]; exact this
    obtain ⟨N, W, K, C, X, t1, t2, t3, t4, t5, t6⟩ := VA_sums hs 1 (Or.inr rfl) v1
    have eS : sumF (fun u => mC s1 u (s1 47 0 u)) 0 (s 11 0 1).toNat = W := by
      rw [sumF_c (g := fun u => mC s u (s3 104 0 u)) _ _ (fun u u0 u1 => by rw [v3 u u0 (by omega)]; unfold mC; rw [g8]), CA_sum (A := fun u => s3 104 0 u) h50.1 (fun u u0 u1 _ => (wmC_0 (TeB_I hs u0 u1)).2)]
      omega
    have eD : zdiv R 100 = W := by
      rw [zdiv_p (by omega) (by omega) (by omega) (by omega)]
      omega
    have h100 : ((100 : Int) = 0) = False := eq_false (by omega)
    refine ⟨W, s2, s4, ?_, ?_, made_I hs S1 y1 y2 y3 z1 x1 x2 v1 v3, ?_, ?_⟩
    · intro m pc ls st fs Q
      simp only [r85_0, r85_1, r85_4, r85_5, r85_8, r85_9, r85_12, r85_15, r85_16, r85_18, r85_21, r85_22, r85_23, r85_26, r85_27, r85_30, r85_33, r85_36, r85_37, r85_38, r85_41, r85_42, r85_45, r85_48, r85_51, r85_52, c1, q, r56_0, r56_1, r56_2, r56_3, zclr_I, zclr_R, zclr_L, zclr_U, reduceIte, Int.reduceEq, Int.reduceLT, Int.reduceLE, Int.reduceNeg, not_true_eq_false, not_false_eq_true, or_true, true_or, or_false, false_or, and_true, true_and, and_false, false_and, z01_or]
      rw [lp56 (by rw [g6]; omega) hB (s 11 0 1).toNat 0 0 (by omega) (by rw [g6, eT]; omega) (by omega) (by omega), eS, Int.zero_add]
      simp only [r85_0, r85_1, r85_4, r85_5, r85_8, r85_9, r85_12, r85_15, r85_16, r85_18, r85_21, r85_22, r85_23, r85_26, r85_27, r85_30, r85_33, r85_36, r85_37, r85_38, r85_41, r85_42, r85_45, r85_48, r85_51, r85_52, r57_0, r57_1, zclr_I, zclr_R, zclr_L, zclr_U, reduceIte, Int.reduceEq, Int.reduceLT, Int.reduceLE, Int.reduceNeg, not_true_eq_false, not_false_eq_true, or_true, true_or, or_false, false_or, and_true, true_and, and_false, false_and, z01_or]
      rw [y0]
      simp only [r85_0, r85_1, r85_4, r85_5, r85_8, r85_9, r85_12, r85_15, r85_16, r85_18, r85_21, r85_22, r85_23, r85_26, r85_27, r85_30, r85_33, r85_36, r85_37, r85_38, r85_41, r85_42, r85_45, r85_48, r85_51, r85_52, zclr_I, zclr_R, zclr_L, zclr_U, reduceIte, Int.reduceEq, Int.reduceLT, Int.reduceLE, Int.reduceNeg, not_true_eq_false, not_false_eq_true, or_true, true_or, or_false, false_or, and_true, true_and, and_false, false_and, z01_or]
    · intro m pc ls st fs Q
      have hR' : (R < 1000000000) = True := eq_true hR
      simp only [r151_0, r151_1, r151_2, r151_5, r151_6, r151_7, r151_9, r151_12, r151_13, r151_15, r151_18, r151_19, r151_20, r151_23, r151_24, r151_25, r151_27, r151_28, z0, hR', r149_0, r149_1, r149_2, r149_3, zclr_I, zclr_R, zclr_L, zclr_U, reduceIte, Int.reduceEq, Int.reduceLT, Int.reduceLE, Int.reduceNeg, not_true_eq_false, not_false_eq_true, or_true, true_or, or_false, false_or, and_true, true_and, and_false, false_and, z01_or]
      rw [x0]
      simp only [r151_0, r151_1, r151_2, r151_5, r151_6, r151_7, r151_9, r151_12, r151_13, r151_15, r151_18, r151_19, r151_20, r151_23, r151_24, r151_25, r151_27, r151_28, h100, eD, zclr_I, zclr_R, zclr_L, zclr_U, reduceIte, Int.reduceEq, Int.reduceLT, Int.reduceLE, Int.reduceNeg, not_true_eq_false, not_false_eq_true, or_true, true_or, or_false, false_or, and_true, true_and, and_false, false_and, z01_or]
    · rw [y1 110 (by omega), S1 110 (nScr 110 (by omega))]
    · rw [y1 111 (by omega), S1 111 (nScr 111 (by omega))]
  · have q := z01_f hw
    obtain ⟨s3, R, z0, z1, z2, z3⟩ := hb (zup s1 10 0 5 (w32 (s1 10 0 5 + 1))) (Sm8_up _ _ _ (Or.inr (Or.inr rfl)) (Sm8_S S1))
    have hR : ¬ R < 1000000000 := fun h => hw (z2.mpr h)
    refine ⟨-1000004, zup s1 10 0 5 (w32 (s1 10 0 5 + 1)), zup s3 11 0 5 (w32 (s3 11 0 5 + 1)), ?_, ?_, none_I hs S1 z1, ?_, ?_⟩
    · intro m pc ls st fs Q
      simp only [r85_0, r85_1, r85_4, r85_5, r85_8, r85_9, r85_12, r85_15, r85_16, r85_18, r85_21, r85_22, r85_23, r85_26, r85_27, r85_30, r85_33, r85_36, r85_37, r85_38, r85_41, r85_42, r85_45, r85_48, r85_51, r85_52, c1, q, k_finding, zclr_I, zclr_R, zclr_L, zclr_U, reduceIte, Int.reduceEq, Int.reduceLT, Int.reduceLE, Int.reduceNeg, not_true_eq_false, not_false_eq_true, or_true, true_or, or_false, false_or, and_true, true_and, and_false, false_and, z01_or]
    · intro m pc ls st fs Q
      have hR' : (R < 1000000000) = False := eq_false hR
      simp only [r151_0, r151_1, r151_2, r151_5, r151_6, r151_7, r151_9, r151_12, r151_13, r151_15, r151_18, r151_19, r151_20, r151_23, r151_24, r151_25, r151_27, r151_28, z0, hR', k_finds, zclr_I, zclr_R, zclr_L, zclr_U, reduceIte, Int.reduceEq, Int.reduceLT, Int.reduceLE, Int.reduceNeg, not_true_eq_false, not_false_eq_true, or_true, true_or, or_false, false_or, and_true, true_and, and_false, false_and, z01_or]
    · rw [zup_ng (by omega), S1 110 (nScr 110 (by omega))]
    · rw [zup_ng (by omega), S1 111 (nScr 111 (by omega))]
theorem pr_worth (L : Nat) : Pr_worth (Inv L) := by
  intro s hs
  obtain ⟨h1, h2, h3, h4, h5, h6⟩ := id hs
  have h50 := h5.2
  have eT := h5.1
  obtain ⟨s1, w, c1, S1, hb⟩ := both hs 0 (Or.inl rfl)
  have g6 : s1 6 = s 6 := S1 6 (nScr 6 (by omega))
  have g8 : s1 8 = s 8 := S1 8 (nScr 8 (by omega))
  by_cases hw : w < 2305843009213693952
  · have q := z01_t hw
    obtain ⟨s3, R, z0, z1, z2, z3⟩ := hb s1 (Sm8_S S1)
    have hR := z2.mp hw
    obtain ⟨v1, v2, v3⟩ := z3 hR
    have S3 : Sm s s3 := fun g hg => by rw [z1 g (fun e => hg (by unfold Scr; omega)), S1 g hg]
    have bB : ∀ u : Int, 0 ≤ u → u < s 11 0 1 → 0 ≤ s3 104 0 u ∧ s3 104 0 u < 1024 := fun u u0 u1 => by
      rcases v1.1 u u0 u1 with z | z
      · have z : s3 104 0 u = 0 := z
        omega
      · have z1 : 0 < s3 104 0 u ∧ s3 104 0 u < 1024 := z.1
        omega
    have hB : ∀ u : Int, 0 ≤ u → u < s1 6 0 3 → TeB s1 u ∧ 0 ≤ s1 47 0 u ∧ s1 47 0 u < 1024 := fun u u0 u1 => by
      rw [g6, eT] at u1
      refine ⟨?_, by rw [v3 u u0 u1]; exact bB u u0 u1⟩
      have := TeB_I hs u0 u1
      unfold TeB at this ⊢
      rw [g6, g8]; exact this
    have eS : sumF (fun u => wC s1 u (s1 47 0 u)) 0 (s 11 0 1).toNat = sumF (fun u => if s3 104 0 u = 0 then 0 else wC s u (s3 104 0 u)) 0 (s 11 0 1).toNat := by
      refine sumF_c _ _ (fun u u0 u1 => ?_)
      have ew : wC s1 u (s1 47 0 u) = wC s u (s3 104 0 u) := by rw [v3 u u0 (by omega)]; unfold wC; rw [g6, g8]
      rw [ew]
      by_cases e : s3 104 0 u = 0
      · rw [if_pos e, e]; exact (wmC_0 (TeB_I hs u0 (by omega))).1
      · rw [if_neg e]
    refine ⟨0 + sumF (fun u => if s3 104 0 u = 0 then 0 else wC s u (s3 104 0 u)) 0 (s 11 0 1).toNat, s1, s3, ?_, ?_, Inv_Sm S3 hs, S1 110 (nScr 110 (by omega)), S1 111 (nScr 111 (by omega))⟩
    · intro m pc ls st fs Q
      simp only [r86_0, r86_1, r86_4, r86_5, r86_8, r86_9, r86_12, r86_15, r86_16, r86_18, r86_21, r86_22, r86_23, r86_26, r86_27, r86_30, r86_33, r86_36, c1, q, r55_0, r55_1, r55_2, r55_3, zclr_I, zclr_R, zclr_L, zclr_U, reduceIte, Int.reduceEq, Int.reduceLT, Int.reduceLE, Int.reduceNeg, not_true_eq_false, not_false_eq_true, or_true, true_or, or_false, false_or, and_true, true_and, and_false, false_and, z01_or]
      rw [lp55 (by rw [g6]; omega) hB (s 11 0 1).toNat 0 0 (by omega) (by rw [g6, eT]; omega) (by omega) (by omega), eS]
      simp only [r86_0, r86_1, r86_4, r86_5, r86_8, r86_9, r86_12, r86_15, r86_16, r86_18, r86_21, r86_22, r86_23, r86_26, r86_27, r86_30, r86_33, r86_36, zclr_I, zclr_R, zclr_L, zclr_U, reduceIte, Int.reduceEq, Int.reduceLT, Int.reduceLE, Int.reduceNeg, not_true_eq_false, not_false_eq_true, or_true, true_or, or_false, false_or, and_true, true_and, and_false, false_and, z01_or]
    · intro m pc ls st fs Q
      have hR' : (R < 1000000000) = True := eq_true hR
      simp only [r152_0, r152_1, r152_2, r152_5, r152_7, r152_10, r152_11, r152_13, r152_16, r152_17, r152_18, r152_19, r152_20, z0, hR', zclr_I, zclr_R, zclr_L, zclr_U, reduceIte, Int.reduceEq, Int.reduceLT, Int.reduceLE, Int.reduceNeg, not_true_eq_false, not_false_eq_true, or_true, true_or, or_false, false_or, and_true, true_and, and_false, false_and, z01_or]
      rw [lp152 hs (Sm8_S S3) v1.1 (s 11 0 1).toNat 0 0 (by omega) (by omega) (by omega) (by omega)]
  · have q := z01_f hw
    obtain ⟨s3, R, z0, z1, z2, z3⟩ := hb (zup s1 10 0 5 (w32 (s1 10 0 5 + 1))) (Sm8_up _ _ _ (Or.inr (Or.inr rfl)) (Sm8_S S1))
    have hR : ¬ R < 1000000000 := fun h => hw (z2.mpr h)
    refine ⟨-1000004, zup s1 10 0 5 (w32 (s1 10 0 5 + 1)), zup s3 11 0 5 (w32 (s3 11 0 5 + 1)), ?_, ?_, none_I hs S1 z1, ?_, ?_⟩
    · intro m pc ls st fs Q
      simp only [r86_0, r86_1, r86_4, r86_5, r86_8, r86_9, r86_12, r86_15, r86_16, r86_18, r86_21, r86_22, r86_23, r86_26, r86_27, r86_30, r86_33, r86_36, c1, q, k_finding, zclr_I, zclr_R, zclr_L, zclr_U, reduceIte, Int.reduceEq, Int.reduceLT, Int.reduceLE, Int.reduceNeg, not_true_eq_false, not_false_eq_true, or_true, true_or, or_false, false_or, and_true, true_and, and_false, false_and, z01_or]
    · intro m pc ls st fs Q
      have hR' : (R < 1000000000) = False := eq_false hR
      simp only [r152_0, r152_1, r152_2, r152_5, r152_7, r152_10, r152_11, r152_13, r152_16, r152_17, r152_18, r152_19, r152_20, z0, hR', k_finds, zclr_I, zclr_R, zclr_L, zclr_U, reduceIte, Int.reduceEq, Int.reduceLT, Int.reduceLE, Int.reduceNeg, not_true_eq_false, not_false_eq_true, or_true, true_or, or_false, false_or, and_true, true_and, and_false, false_and, z01_or]
    · rw [zup_ng (by omega), S1 110 (nScr 110 (by omega))]
    · rw [zup_ng (by omega), S1 111 (nScr 111 (by omega))]

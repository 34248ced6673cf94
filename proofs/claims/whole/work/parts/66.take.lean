/-! the class's gather and reasonAgainst -/
def tkS (s : zS) (p : Int) : zS := zup (zup (zup (zup (zup (zup (zup s 2 0 2 (nlo (s 2 0 2) (s 5 p 3))) 2 0 3 (nhi (s 2 0 3) (s 5 p 4))) 2 0 4 (nhi (s 2 0 4) (s 5 p 1))) 2 0 5 (nlo (s 2 0 5) (s 5 p 1))) 2 0 6 (frx (s 2 0 6) (s 5 p 5))) 2 0 7 (if s 5 p 0 = 3 then 1 else s 2 0 7)) 2 0 8 (if s 5 p 0 = 2 then 1 else s 2 0 8)
section
variable {m pc : Nat} {ls st : List zV} {fs : List zFr} {s : zS} {Q : List zV → zS → Prop}
theorem k_take (hk : I_k (s 108) (s 109)) (p : Int) (h0 : 0 ≤ s 5 p 0 ∧ s 5 p 0 ≤ 3) (h7 : s 2 0 7 = 0 ∨ s 2 0 7 = 1) (h8 : s 2 0 8 = 0 ∨ s 2 0 8 = 1) : Ev ((16, 0, [zR 2 0, zR 5 p], []) :: (m, pc, ls, st) :: fs) s Q = Ev ((m, pc, ls, st) :: fs) (tkS s p) Q := by
  have kA : ∀ (s' : zS) (w : Int), 0 ≤ w ∧ w ≤ 3 → s' 108 = s 108 → s' 109 = s 109 → s' 5 = s 5 → ∀ (m pc : Nat) (ls st : List zV) (fs : List zFr) (Q : List zV → zS → Prop), Ev ((36, 0, [zR 5 p, zI w], []) :: (m, pc, ls, st) :: fs) s' Q = Ev ((m, pc, ls, zI (z01 (w = 0 ∨ s 5 p 0 = w ∨ (w = 1 ∧ s 5 p 0 = 3))) :: st) :: fs) s' Q := by
    intro s' w hw e1 e2 e3 m pc ls st fs Q
    rw [k_isAP (s := s') (by rw [e1, e2]; exact hk) p w (by rw [e3]; exact h0) hw, e3]
  have two : (0 ≤ (2 : Int) ∧ (2 : Int) ≤ 3) = True := eq_true (by omega)
  have three : (0 ≤ (3 : Int) ∧ (3 : Int) ≤ 3) = True := eq_true (by omega)
  have first : Ev ((16, 0, [zR 2 0, zR 5 p], []) :: (m, pc, ls, st) :: fs) s Q = Ev ((16, 82, [zR 2 0, zR 5 p], []) :: (m, pc, ls, st) :: fs) (zup (zup (zup (zup (zup s 2 0 2 (nlo (s 2 0 2) (s 5 p 3))) 2 0 3 (nhi (s 2 0 3) (s 5 p 4))) 2 0 4 (nhi (s 2 0 4) (s 5 p 1))) 2 0 5 (nlo (s 2 0 5) (s 5 p 1))) 2 0 6 (frx (s 2 0 6) (s 5 p 5))) Q := by
    by_cases hf : s 5 p 5 < 0
    · rw [show frx (s 2 0 6) (s 5 p 5) = s 2 0 6 from if_pos hf, zup_id (k := 6) (by simp only [zup_g, Nat.reduceEqDiff, zclr_I, zclr_R, zclr_L, zclr_U, reduceIte, Int.reduceEq, Int.reduceLT, Int.reduceLE, Int.reduceNeg, not_true_eq_false, not_false_eq_true, or_true, true_or, or_false, false_or, and_true, true_and, and_false, false_and, z01_or])]
      simp only [r16_0, r16_1, r16_2, r16_5, r16_6, r16_9, r16_12, r16_15, r16_16, r16_17, r16_20, r16_21, r16_24, r16_27, r16_30, r16_31, r16_32, r16_35, r16_36, r16_39, r16_42, r16_45, r16_46, r16_47, r16_50, r16_51, r16_54, r16_57, r16_60, r16_61, r16_64, r16_67, r16_68, r16_69, r16_72, r16_73, r16_74, r16_77, r16_78, r16_79, nlo_d, nhi_d, hf, zup_g, Nat.reduceEqDiff, zclr_I, zclr_R, zclr_L, zclr_U, reduceIte, Int.reduceEq, Int.reduceLT, Int.reduceLE, Int.reduceNeg, not_true_eq_false, not_false_eq_true, or_true, true_or, or_false, false_or, and_true, true_and, and_false, false_and, z01_or]
    · rw [show frx (s 2 0 6) (s 5 p 5) = zor (s 2 0 6) (zshl 1 (s 5 p 5)) from if_neg hf]
      simp only [r16_0, r16_1, r16_2, r16_5, r16_6, r16_9, r16_12, r16_15, r16_16, r16_17, r16_20, r16_21, r16_24, r16_27, r16_30, r16_31, r16_32, r16_35, r16_36, r16_39, r16_42, r16_45, r16_46, r16_47, r16_50, r16_51, r16_54, r16_57, r16_60, r16_61, r16_64, r16_67, r16_68, r16_69, r16_72, r16_73, r16_74, r16_77, r16_78, r16_79, nlo_d, nhi_d, hf, zup_g, Nat.reduceEqDiff, zclr_I, zclr_R, zclr_L, zclr_U, reduceIte, Int.reduceEq, Int.reduceLT, Int.reduceLE, Int.reduceNeg, not_true_eq_false, not_false_eq_true, or_true, true_or, or_false, false_or, and_true, true_and, and_false, false_and, z01_or]
  rw [first]
  unfold tkS
  have e0 : ∀ (g : Nat) (i : Int), ¬ g = 2 → zup (zup (zup (zup (zup s 2 0 2 (nlo (s 2 0 2) (s 5 p 3))) 2 0 3 (nhi (s 2 0 3) (s 5 p 4))) 2 0 4 (nhi (s 2 0 4) (s 5 p 1))) 2 0 5 (nlo (s 2 0 5) (s 5 p 1))) 2 0 6 (frx (s 2 0 6) (s 5 p 5)) g = s g := by
    intro g i hg
    rw [zup_ng hg, zup_ng hg, zup_ng hg, zup_ng hg, zup_ng hg]
  have e7 : zup (zup (zup (zup (zup s 2 0 2 (nlo (s 2 0 2) (s 5 p 3))) 2 0 3 (nhi (s 2 0 3) (s 5 p 4))) 2 0 4 (nhi (s 2 0 4) (s 5 p 1))) 2 0 5 (nlo (s 2 0 5) (s 5 p 1))) 2 0 6 (frx (s 2 0 6) (s 5 p 5)) 2 0 7 = s 2 0 7 := by simp only [zup_g, Nat.reduceEqDiff, zclr_I, zclr_R, zclr_L, zclr_U, reduceIte, Int.reduceEq, Int.reduceLT, Int.reduceLE, Int.reduceNeg, not_true_eq_false, not_false_eq_true, or_true, true_or, or_false, false_or, and_true, true_and, and_false, false_and, z01_or]
  have e8 : zup (zup (zup (zup (zup s 2 0 2 (nlo (s 2 0 2) (s 5 p 3))) 2 0 3 (nhi (s 2 0 3) (s 5 p 4))) 2 0 4 (nhi (s 2 0 4) (s 5 p 1))) 2 0 5 (nlo (s 2 0 5) (s 5 p 1))) 2 0 6 (frx (s 2 0 6) (s 5 p 5)) 2 0 8 = s 2 0 8 := by simp only [zup_g, Nat.reduceEqDiff, zclr_I, zclr_R, zclr_L, zclr_U, reduceIte, Int.reduceEq, Int.reduceLT, Int.reduceLE, Int.reduceNeg, not_true_eq_false, not_false_eq_true, or_true, true_or, or_false, false_or, and_true, true_and, and_false, false_and, z01_or]
  generalize zup (zup (zup (zup (zup s 2 0 2 (nlo (s 2 0 2) (s 5 p 3))) 2 0 3 (nhi (s 2 0 3) (s 5 p 4))) 2 0 4 (nhi (s 2 0 4) (s 5 p 1))) 2 0 5 (nlo (s 2 0 5) (s 5 p 1))) 2 0 6 (frx (s 2 0 6) (s 5 p 5)) = X at *
  have second : Ev ((16, 82, [zR 2 0, zR 5 p], []) :: (m, pc, ls, st) :: fs) X Q = Ev ((16, 106, [zR 2 0, zR 5 p], []) :: (m, pc, ls, st) :: fs) (zup X 2 0 7 (if s 5 p 0 = 3 then 1 else s 2 0 7)) Q := by
    rcases h7 with h7 | h7
    · rw [h7]
      rw [h7] at e7
      simp only [r16_82, r16_83, r16_84, r16_87, r16_90, r16_91, e7, zclr_I, zclr_R, zclr_L, zclr_U, reduceIte, Int.reduceEq, Int.reduceLT, Int.reduceLE, Int.reduceNeg, not_true_eq_false, not_false_eq_true, or_true, true_or, or_false, false_or, and_true, true_and, and_false, false_and, z01_or]
      rw [r16_92, kA X 3 (by omega) (e0 108 0 (by omega)) (e0 109 0 (by omega)) (e0 5 0 (by omega))]
      by_cases hk3 : s 5 p 0 = 3
      · rw [if_pos hk3, z01_t (by omega)]
        simp only [r16_95, r16_98, r16_99, r16_102, r16_103, zclr_I, zclr_R, zclr_L, zclr_U, reduceIte, Int.reduceEq, Int.reduceLT, Int.reduceLE, Int.reduceNeg, not_true_eq_false, not_false_eq_true, or_true, true_or, or_false, false_or, and_true, true_and, and_false, false_and, z01_or]
      · rw [if_neg hk3, z01_f (by omega)]
        simp only [r16_95, r16_98, r16_99, r16_102, r16_103, zclr_I, zclr_R, zclr_L, zclr_U, reduceIte, Int.reduceEq, Int.reduceLT, Int.reduceLE, Int.reduceNeg, not_true_eq_false, not_false_eq_true, or_true, true_or, or_false, false_or, and_true, true_and, and_false, false_and, z01_or]
    · have : (if s 5 p 0 = 3 then 1 else s 2 0 7) = 1 := by rw [h7]; by_cases hk3 : s 5 p 0 = 3 <;> simp [hk3]
      rw [this]
      rw [h7] at e7
      simp only [r16_82, r16_83, r16_84, r16_87, r16_90, r16_91, r16_92, r16_95, r16_98, r16_99, r16_102, r16_103, e7, zclr_I, zclr_R, zclr_L, zclr_U, reduceIte, Int.reduceEq, Int.reduceLT, Int.reduceLE, Int.reduceNeg, not_true_eq_false, not_false_eq_true, or_true, true_or, or_false, false_or, and_true, true_and, and_false, false_and, z01_or]
  rw [second]
  have f0 : ∀ (g : Nat), ¬ g = 2 → zup X 2 0 7 (if s 5 p 0 = 3 then 1 else s 2 0 7) g = s g := fun g hg => by rw [zup_ng hg, e0 g 0 hg]
  have f8 : zup X 2 0 7 (if s 5 p 0 = 3 then 1 else s 2 0 7) 2 0 8 = s 2 0 8 := by rw [zup_nk (by omega), e8]
  generalize zup X 2 0 7 (if s 5 p 0 = 3 then 1 else s 2 0 7) = Y at *
  rcases h8 with h8 | h8
  · rw [h8]
    rw [h8] at f8
    simp only [r16_106, r16_107, r16_108, r16_111, r16_114, r16_115, f8, zclr_I, zclr_R, zclr_L, zclr_U, reduceIte, Int.reduceEq, Int.reduceLT, Int.reduceLE, Int.reduceNeg, not_true_eq_false, not_false_eq_true, or_true, true_or, or_false, false_or, and_true, true_and, and_false, false_and, z01_or]
    rw [r16_116, kA Y 2 (by omega) (f0 108 (by omega)) (f0 109 (by omega)) (f0 5 (by omega))]
    by_cases hk3 : s 5 p 0 = 2
    · rw [if_pos hk3, z01_t (by omega)]
      simp only [r16_119, r16_122, r16_123, r16_126, r16_127, r16_130, zclr_I, zclr_R, zclr_L, zclr_U, reduceIte, Int.reduceEq, Int.reduceLT, Int.reduceLE, Int.reduceNeg, not_true_eq_false, not_false_eq_true, or_true, true_or, or_false, false_or, and_true, true_and, and_false, false_and, z01_or]
    · rw [if_neg hk3, z01_f (by omega)]
      simp only [r16_119, r16_122, r16_123, r16_126, r16_127, r16_130, zclr_I, zclr_R, zclr_L, zclr_U, reduceIte, Int.reduceEq, Int.reduceLT, Int.reduceLE, Int.reduceNeg, not_true_eq_false, not_false_eq_true, or_true, true_or, or_false, false_or, and_true, true_and, and_false, false_and, z01_or]
  · have : (if s 5 p 0 = 2 then 1 else s 2 0 8) = 1 := by rw [h8]; by_cases hk3 : s 5 p 0 = 2 <;> simp [hk3]
    rw [this]
    rw [h8] at f8
    simp only [r16_106, r16_107, r16_108, r16_111, r16_114, r16_115, r16_116, r16_119, r16_122, r16_123, r16_126, r16_127, r16_130, f8, zclr_I, zclr_R, zclr_L, zclr_U, reduceIte, Int.reduceEq, Int.reduceLT, Int.reduceLE, Int.reduceNeg, not_true_eq_false, not_false_eq_true, or_true, true_or, or_false, false_or, and_true, true_and, and_false, false_and, z01_or]
end
theorem tk_g {s : zS} {p : Int} {g : Nat} (h : ¬ g = 2) : tkS s p g = s g := by
  unfold tkS
  rw [zup_ng h, zup_ng h, zup_ng h, zup_ng h, zup_ng h, zup_ng h, zup_ng h]
theorem tk_v (s : zS) (p : Int) : tkS s p 2 0 0 = s 2 0 0 ∧ tkS s p 2 0 1 = s 2 0 1 ∧ tkS s p 2 0 2 = nlo (s 2 0 2) (s 5 p 3) ∧ tkS s p 2 0 3 = nhi (s 2 0 3) (s 5 p 4) ∧ tkS s p 2 0 4 = nhi (s 2 0 4) (s 5 p 1) ∧ tkS s p 2 0 5 = nlo (s 2 0 5) (s 5 p 1) ∧ tkS s p 2 0 6 = frx (s 2 0 6) (s 5 p 5) ∧ tkS s p 2 0 7 = (if s 5 p 0 = 3 then 1 else s 2 0 7) ∧ tkS s p 2 0 8 = (if s 5 p 0 = 2 then 1 else s 2 0 8) := by
  unfold tkS
  simp only [zup_g, Nat.reduceEqDiff, zclr_I, zclr_R, zclr_L, zclr_U, reduceIte, Int.reduceEq, Int.reduceLT, Int.reduceLE, Int.reduceNeg, not_true_eq_false, not_false_eq_true, or_true, true_or, or_false, false_or, and_true, true_and, and_false, false_and, z01_or, and_self]
/-- what stands in the one group behind gather(x), from pupil t on -/
def GatF (s s1 : zS) (x t : Int) (k : Nat) : Prop := (∀ g : Nat, ¬ g = 2 → s1 g = s g) ∧ s1 2 0 0 = s 2 0 0 ∧ s1 2 0 1 = s 2 0 1 ∧ s1 2 0 2 = mxF (fun p => s 5 p 3) x (s 2 0 2) t k ∧ s1 2 0 3 = mnF (fun p => s 5 p 4) x (s 2 0 3) t k ∧ s1 2 0 4 = mnF (fun p => s 5 p 1) x (s 2 0 4) t k ∧ s1 2 0 5 = mxF (fun p => s 5 p 1) x (s 2 0 5) t k ∧ s1 2 0 6 = frF (fun p => s 5 p 5) x (s 2 0 6) t k ∧ s1 2 0 7 = kdF 3 (fun p => s 5 p 0) x (s 2 0 7) t k ∧ s1 2 0 8 = kdF 2 (fun p => s 5 p 0) x (s 2 0 8) t k
theorem lp51 (x : Int) (x0 : 0 ≤ x) (x1 : x < 1024) : ∀ (k : Nat) (t : Int) (s : zS), 0 ≤ t → t + k = s 6 0 1 → s 6 0 1 ≤ 10 → I_k (s 108) (s 109) → (∀ p : Int, 0 ≤ p → p < s 6 0 1 → 0 ≤ s 5 p 0 ∧ s 5 p 0 ≤ 3) → (s 2 0 7 = 0 ∨ s 2 0 7 = 1) → (s 2 0 8 = 0 ∨ s 2 0 8 = 1) → ∃ s1 : zS, (∀ (m pc : Nat) (ls st : List zV) (fs : List zFr) (Q : List zV → zS → Prop), Ev ((51, 10, [zR 6 0, zI x, zI t], []) :: (m, pc, ls, st) :: fs) s Q = Ev ((m, pc, ls, zR 2 0 :: st) :: fs) s1 Q) ∧ GatF s s1 x t k := by
  intro k
  induction k with
  | zero =>
    intro t s h0 h1 h2 hk hp h7 h8
    have e1 : (s 6 0 1 ≤ t) = True := eq_true (by omega)
    refine ⟨s, fun m pc ls st fs Q => ?_, fun _ _ => rfl, rfl, rfl, rfl, rfl, rfl, rfl, rfl, rfl, rfl⟩
    rw [r51_10]
    simp only [r51_0, r51_1, r51_4, r51_5, r51_8, r51_9, r51_11, r51_12, r51_15, r51_18, r51_19, r51_20, r51_23, r51_26, r51_27, r51_30, r51_31, r51_34, r51_35, r51_36, r51_39, r51_42, r51_45, r51_46, r51_49, e1, zclr_I, zclr_R, zclr_L, zclr_U, reduceIte, Int.reduceEq, Int.reduceLT, Int.reduceLE, Int.reduceNeg, not_true_eq_false, not_false_eq_true, or_true, true_or, or_false, false_or, and_true, true_and, and_false, false_and, z01_or]
  | succ k ih =>
    intro t s h0 h1 h2 hk hp h7 h8
    have e1 : (s 6 0 1 ≤ t) = False := eq_false (by omega)
    have b1 : (0 ≤ t ∧ t < 10) = True := eq_true (by omega)
    have w1 : w32 (t + 1) = t + 1 := w32_id (by omega) (by omega)
    have c3 := has_c x0 x1 h0 (show t < 10 by omega)
    by_cases hz : tb x t = true
    · have q : hb x t = 1 := if_pos hz
      have g6 : tkS s t 6 = s 6 := tk_g (by omega)
      have g5 : tkS s t 5 = s 5 := tk_g (by omega)
      obtain ⟨v0, v1, v2, v3, v4, v5, v6, v7, v8⟩ := tk_v s t
      have kT := fun (m pc : Nat) (ls st : List zV) (fs : List zFr) (Q : List zV → zS → Prop) => k_take (m := m) (pc := pc) (ls := ls) (st := st) (fs := fs) (Q := Q) (s := s) hk t (hp t h0 (by omega)) h7 h8
      obtain ⟨s1, d0, d1, d2, d3, d4, d5, d6, d7, d8, d9, d10⟩ := ih (t + 1) (tkS s t) (by omega) (by rw [g6]; omega) (by rw [g6]; exact h2) (by rw [tk_g (by omega), tk_g (by omega)]; exact hk) (by rw [g6, g5]; exact hp) (by rw [v7]; by_cases h : s 5 t 0 = 3 <;> simp [h, h7]) (by rw [v8]; by_cases h : s 5 t 0 = 2 <;> simp [h, h8])
      rw [g5, v2] at d4
      rw [g5, v3] at d5
      rw [g5, v4] at d6
      rw [g5, v5] at d7
      rw [g5, v6] at d8
      rw [g5, v7] at d9
      rw [g5, v8] at d10
      refine ⟨s1, fun m pc ls st fs Q => ?_, fun g hg => by rw [d1 g hg, tk_g hg], by rw [d2, v0], by rw [d3, v1], by rw [mxF_s, if_pos hz, d4], by rw [mnF_s, if_pos hz, d5], by rw [mnF_s, if_pos hz, d6], by rw [mxF_s, if_pos hz, d7], by rw [frF_s, if_pos hz, d8], by rw [kdF_s, if_pos hz, d9], by rw [kdF_s, if_pos hz, d10]⟩
      rw [r51_10]
      simp only [r51_0, r51_1, r51_4, r51_5, r51_8, r51_9, r51_11, r51_12, r51_15, r51_18, r51_19, r51_20, r51_23, r51_26, r51_27, r51_30, r51_31, r51_34, r51_35, r51_36, r51_39, r51_42, r51_45, r51_46, r51_49, k_has, kT, e1, b1, c3, q, w1, zak_40, zln_40, zak_41, zln_41, zak_42, zln_42, zak_43, zln_43, zak_44, zln_44, zak_45, zln_45, zak_46, zln_46, zak_47, zln_47, zak_48, zln_48, zak_49, zln_49, zak_50, zln_50, zak_51, zln_51, zak_52, zln_52, zak_53, zln_53, zak_54, zln_54, zak_55, zln_55, zak_73, zln_73, zak_74, zln_74, zak_75, zln_75, zak_76, zln_76, zak_77, zln_77, zak_78, zln_78, zak_79, zln_79, zak_80, zln_80, zak_81, zln_81, zak_82, zln_82, zak_83, zln_83, zak_84, zln_84, zak_85, zln_85, zak_86, zln_86, zak_87, zln_87, zak_88, zln_88, zak_89, zln_89, zak_90, zln_90, zak_91, zln_91, zak_92, zln_92, zak_93, zln_93, zak_94, zln_94, zak_95, zln_95, zak_96, zln_96, zak_97, zln_97, zak_98, zln_98, zak_99, zln_99, zak_100, zln_100, zak_101, zln_101, zak_102, zln_102, zak_103, zln_103, zak_104, zln_104, zak_105, zln_105, zak_108, zln_108, zak_109, zln_109, Nat.reduceLeDiff, zclr_I, zclr_R, zclr_L, zclr_U, reduceIte, Int.reduceEq, Int.reduceLT, Int.reduceLE, Int.reduceNeg, not_true_eq_false, not_false_eq_true, or_true, true_or, or_false, false_or, and_true, true_and, and_false, false_and, z01_or]
      exact d0 m pc ls st fs Q
    · have q : hb x t = 0 := if_neg hz
      obtain ⟨s1, d0, d1, d2, d3, d4, d5, d6, d7, d8, d9, d10⟩ := ih (t + 1) s (by omega) (by omega) h2 hk hp h7 h8
      refine ⟨s1, fun m pc ls st fs Q => ?_, d1, d2, d3, by rw [mxF_s, if_neg hz, d4], by rw [mnF_s, if_neg hz, d5], by rw [mnF_s, if_neg hz, d6], by rw [mxF_s, if_neg hz, d7], by rw [frF_s, if_neg hz, d8], by rw [kdF_s, if_neg hz, d9], by rw [kdF_s, if_neg hz, d10]⟩
      rw [r51_10]
      simp only [r51_0, r51_1, r51_4, r51_5, r51_8, r51_9, r51_11, r51_12, r51_15, r51_18, r51_19, r51_20, r51_23, r51_26, r51_27, r51_30, r51_31, r51_34, r51_35, r51_36, r51_39, r51_42, r51_45, r51_46, r51_49, k_has, e1, c3, q, w1, zak_40, zln_40, zak_41, zln_41, zak_42, zln_42, zak_43, zln_43, zak_44, zln_44, zak_45, zln_45, zak_46, zln_46, zak_47, zln_47, zak_48, zln_48, zak_49, zln_49, zak_50, zln_50, zak_51, zln_51, zak_52, zln_52, zak_53, zln_53, zak_54, zln_54, zak_55, zln_55, zak_73, zln_73, zak_74, zln_74, zak_75, zln_75, zak_76, zln_76, zak_77, zln_77, zak_78, zln_78, zak_79, zln_79, zak_80, zln_80, zak_81, zln_81, zak_82, zln_82, zak_83, zln_83, zak_84, zln_84, zak_85, zln_85, zak_86, zln_86, zak_87, zln_87, zak_88, zln_88, zak_89, zln_89, zak_90, zln_90, zak_91, zln_91, zak_92, zln_92, zak_93, zln_93, zak_94, zln_94, zak_95, zln_95, zak_96, zln_96, zak_97, zln_97, zak_98, zln_98, zak_99, zln_99, zak_100, zln_100, zak_101, zln_101, zak_102, zln_102, zak_103, zln_103, zak_104, zln_104, zak_105, zln_105, zak_108, zln_108, zak_109, zln_109, Nat.reduceLeDiff, zclr_I, zclr_R, zclr_L, zclr_U, reduceIte, Int.reduceEq, Int.reduceLT, Int.reduceLE, Int.reduceNeg, not_true_eq_false, not_false_eq_true, or_true, true_or, or_false, false_or, and_true, true_and, and_false, false_and, z01_or]
      exact d0 m pc ls st fs Q
/-- gather(x) -/
def Gat (s s1 : zS) (x : Int) : Prop := (∀ g : Nat, ¬ g = 2 → s1 g = s g) ∧ s1 2 0 0 = x ∧ s1 2 0 1 = popc x ∧ s1 2 0 2 = mxF (fun p => s 5 p 3) x 0 0 (s 6 0 1).toNat ∧ s1 2 0 3 = mnF (fun p => s 5 p 4) x 9 0 (s 6 0 1).toNat ∧ s1 2 0 4 = mnF (fun p => s 5 p 1) x 90 0 (s 6 0 1).toNat ∧ s1 2 0 5 = mxF (fun p => s 5 p 1) x 0 0 (s 6 0 1).toNat ∧ s1 2 0 6 = frF (fun p => s 5 p 5) x 0 0 (s 6 0 1).toNat ∧ s1 2 0 7 = kdF 3 (fun p => s 5 p 0) x 0 0 (s 6 0 1).toNat ∧ s1 2 0 8 = kdF 2 (fun p => s 5 p 0) x 0 0 (s 6 0 1).toNat
theorem k_gather (x : Int) (x0 : 0 ≤ x) (x1 : x < 1024) (s : zS) (hn : 0 ≤ s 6 0 1) (hP : s 6 0 1 ≤ 10) (hk : I_k (s 108) (s 109)) (hp : ∀ p : Int, 0 ≤ p → p < s 6 0 1 → 0 ≤ s 5 p 0 ∧ s 5 p 0 ≤ 3) : ∃ s1 : zS, (∀ (m pc : Nat) (ls st : List zV) (fs : List zFr) (Q : List zV → zS → Prop), Ev ((51, 0, [zR 6 0, zI x, zU], []) :: (m, pc, ls, st) :: fs) s Q = Ev ((m, pc, ls, zR 2 0 :: st) :: fs) s1 Q) ∧ Gat s s1 x := by
  have bg : ∀ (F : List zFr) (Q : List zV → zS → Prop) (m pc : Nat) (ls st : List zV) , Ev ((15, 0, [zR 2 0, zI x], []) :: (m, pc, ls, st) :: F) s Q = Ev ((m, pc, ls, st) :: F) (zup (zup (zup (zup (zup (zup (zup (zup (zup s 2 0 0 x) 2 0 1 (popc x)) 2 0 2 0) 2 0 3 9) 2 0 4 90) 2 0 5 0) 2 0 6 0) 2 0 7 0) 2 0 8 0) Q := by
    intro F Q m pc ls st
    simp only [r15_0, r15_1, r15_2, r15_5, r15_6, r15_7, r15_10, r15_13, r15_14, r15_15, r15_18, r15_19, r15_21, r15_24, r15_25, r15_27, r15_30, r15_31, r15_32, r15_35, r15_36, r15_37, r15_40, r15_41, r15_42, r15_45, r15_46, r15_47, r15_50, k_bitCount x x0 x1, zclr_I, zclr_R, zclr_L, zclr_U, reduceIte, Int.reduceEq, Int.reduceLT, Int.reduceLE, Int.reduceNeg, not_true_eq_false, not_false_eq_true, or_true, true_or, or_false, false_or, and_true, true_and, and_false, false_and, z01_or]
  have y : ∀ g : Nat, ¬ g = 2 → zup (zup (zup (zup (zup (zup (zup (zup (zup s 2 0 0 x) 2 0 1 (popc x)) 2 0 2 0) 2 0 3 9) 2 0 4 90) 2 0 5 0) 2 0 6 0) 2 0 7 0) 2 0 8 0 g = s g := fun g hg => by
    rw [zup_ng hg, zup_ng hg, zup_ng hg, zup_ng hg, zup_ng hg, zup_ng hg, zup_ng hg, zup_ng hg, zup_ng hg]
  have z : zup (zup (zup (zup (zup (zup (zup (zup (zup s 2 0 0 x) 2 0 1 (popc x)) 2 0 2 0) 2 0 3 9) 2 0 4 90) 2 0 5 0) 2 0 6 0) 2 0 7 0) 2 0 8 0 2 = (fun i k => if i = 0 ∧ k = 8 then 0 else if i = 0 ∧ k = 7 then 0 else if i = 0 ∧ k = 6 then 0 else if i = 0 ∧ k = 5 then 0 else if i = 0 ∧ k = 4 then 90 else if i = 0 ∧ k = 3 then 9 else if i = 0 ∧ k = 2 then 0 else if i = 0 ∧ k = 1 then popc x else if i = 0 ∧ k = 0 then x else s 2 i k) := by
    simp only [zup_g, Nat.reduceEqDiff, zclr_I, zclr_R, zclr_L, zclr_U, reduceIte, Int.reduceEq, Int.reduceLT, Int.reduceLE, Int.reduceNeg, not_true_eq_false, not_false_eq_true, or_true, true_or, or_false, false_or, and_true, true_and, and_false, false_and, z01_or]
  generalize zup (zup (zup (zup (zup (zup (zup (zup (zup s 2 0 0 x) 2 0 1 (popc x)) 2 0 2 0) 2 0 3 9) 2 0 4 90) 2 0 5 0) 2 0 6 0) 2 0 7 0) 2 0 8 0 = X at *
  obtain ⟨s1, d0, d1, d2, d3, d4, d5, d6, d7, d8, d9, d10⟩ := lp51 x x0 x1 (s 6 0 1).toNat 0 X (by omega) (by rw [y 6 (by omega)]; omega) (by rw [y 6 (by omega)]; exact hP) (by rw [y 108 (by omega), y 109 (by omega)]; exact hk) (by rw [y 6 (by omega), y 5 (by omega)]; exact hp) (by rw [z]; simp) (by rw [z]; simp)
  rw [y 5 (by omega), z] at d4 d5 d6 d7 d8 d9 d10
  rw [z] at d2 d3
  simp only [zclr_I, zclr_R, zclr_L, zclr_U, reduceIte, Int.reduceEq, Int.reduceLT, Int.reduceLE, Int.reduceNeg, not_true_eq_false, not_false_eq_true, or_true, true_or, or_false, false_or, and_true, true_and, and_false, false_and, z01_or] at d2 d3 d4 d5 d6 d7 d8 d9 d10
  refine ⟨s1, fun m pc ls st fs Q => ?_, fun g hg => by rw [d1 g hg, y g hg], d2, d3, d4, d5, d6, d7, d8, d9, d10⟩
  simp only [r51_0, r51_1, r51_4, r51_5, r51_8, r51_9, bg, zclr_I, zclr_R, zclr_L, zclr_U, reduceIte, Int.reduceEq, Int.reduceLT, Int.reduceLE, Int.reduceNeg, not_true_eq_false, not_false_eq_true, or_true, true_or, or_false, false_or, and_true, true_and, and_false, false_and, z01_or]
  exact d0 m pc ls st fs Q

section
variable {ok : Int → Int → Prop} {pr : Int → Int → Int} {T H : Int}
theorem k_parts (hO : PrO ok pr T H) (t : Int) (t0 : 0 ≤ t) (t1 : t < T) (s : zS) (hP : PTb ok pr T H s) (hS : LSnd ok pr t (fun D => s 46 0 D)) (hC : LCmp ok pr T H t (fun D => s 46 0 D)) : ∃ s1 : zS, (∀ (m pc : Nat) (ls st : List zV) (fs : List zFr) (Q : List zV → zS → Prop), Ev ((31, 0, [zR 4 0, zI t, zI H, zU], []) :: (m, pc, ls, st) :: fs) s Q = Ev ((m, pc, ls, st) :: fs) s1 Q) ∧ (∀ g : Nat, ¬ g = 46 → s1 g = s g) ∧ LSnd ok pr (t + 1) (fun D => s1 46 0 D) ∧ LCmp ok pr T H (t + 1) (fun D => s1 46 0 D) := by
  obtain ⟨⟨H0, H1⟩, ⟨T0, T1⟩, ok1, pr1⟩ := id hO
  obtain ⟨s1, c1, c2, c3, c4⟩ := lp31 hO t t0 t1 (fun D => s 46 0 D) hS hC (H + 1).toNat H s (by omega) (by omega) hP (fun _ _ _ => rfl) (LSnd_s t0 hS) (fun _ _ _ => Int.le_refl _) (fun A hv hp => by
    obtain ⟨b0, b1, b2⟩ := pre_bi t0 (fun u u0 u1 => VA_r hO hv u u0 (by omega))
    have := SubB_le b0 H0 (VA_pre hv t0 (by omega) (VA_r hO hv)).2
    omega)
  refine ⟨s1, fun m pc ls st fs Q => ?_, c2, c3, c4⟩
  simp only [r31_0, r31_1, zclr_I, zclr_R, zclr_L, zclr_U, reduceIte, Int.reduceEq, Int.reduceLT, Int.reduceLE, Int.reduceNeg, not_true_eq_false, not_false_eq_true, or_true, true_or, or_false, false_or, and_true, true_and, and_false, false_and, z01_or]
  exact c1 m pc ls st fs Q
/-- the least price of all classings -/
def Fin1 (ok : Int → Int → Prop) (pr : Int → Int → Int) (T H w : Int) : Prop := (0 ≤ w ∧ w ≤ 2305843009213693952) ∧ (∀ A : Int → Int, VA ok 0 T H A → w ≤ CA pr 0 T A) ∧ (w < 2305843009213693952 → ∃ A : Int → Int, VA ok 0 T H A ∧ CA pr 0 T A = w)
theorem lp33 (hO : PrO ok pr T H) (t : Int) (t0 : 0 ≤ t) (t1 : t + 1 = T) (L0 : Int → Int) (hS : LSnd ok pr t L0) (hC : LCmp ok pr T H t L0) : ∀ (n : Nat) (d : Int) (s : zS), d + 1 = n → d ≤ H → PTb ok pr T H s → (∀ D : Int, ¬ D = H → s 46 0 D = L0 D) → (0 ≤ s 46 0 H ∧ s 46 0 H ≤ L0 H) → (s 46 0 H < 2305843009213693952 → ∃ A : Int → Int, VA ok 0 T H A ∧ CA pr 0 T A = s 46 0 H) → (∀ A : Int → Int, VA ok 0 T H A → d < pre A t → s 46 0 H ≤ CA pr 0 T A) → ∃ s1 : zS, (∀ (m pc : Nat) (ls st : List zV) (fs : List zFr) (Q : List zV → zS → Prop), Ev ((33, 2, [zR 4 0, zI t, zI H, zI d], []) :: (m, pc, ls, st) :: fs) s Q = Ev ((m, pc, ls, st) :: fs) s1 Q) ∧ (∀ g : Nat, ¬ g = 46 → s1 g = s g) ∧ Fin1 ok pr T H (s1 46 0 H) := by
  obtain ⟨⟨H0, H1⟩, ⟨T0, T1⟩, ok1, pr1⟩ := id hO
  have bL : 0 ≤ L0 H ∧ L0 H ≤ 2305843009213693952 := (hS H H0 H1).1
  intro n
  induction n with
  | zero =>
    intro d s hn hd hP K1 K2 K3 K4
    have e1 : (d < 0) = True := eq_true (by omega)
    refine ⟨s, fun m pc ls st fs Q => ?_, fun _ _ => rfl, ⟨by omega, fun A hv => ?_, K3⟩⟩
    · rw [r33_2]
      simp only [r33_0, r33_1, r33_3, r33_6, r33_7, r33_8, r33_9, r33_12, r33_15, r33_16, r33_19, r33_20, r33_21, r33_24, r33_25, r33_26, r33_27, r33_30, r33_31, r33_32, r33_33, r33_36, r33_37, r33_38, r33_39, r33_40, r33_41, r33_42, r33_43, r33_44, r33_45, r33_48, r33_49, r33_52, r33_55, e1, zclr_I, zclr_R, zclr_L, zclr_U, reduceIte, Int.reduceEq, Int.reduceLT, Int.reduceLE, Int.reduceNeg, not_true_eq_false, not_false_eq_true, or_true, true_or, or_false, false_or, and_true, true_and, and_false, false_and, z01_or]
    · have := (pre_bi t0 (fun u u0 u1 => VA_r hO hv u u0 (by omega))).1
      exact K4 A hv (by omega)
  | succ n ih =>
    intro d s hn hd hP K1 K2 K3 K4
    obtain ⟨p1, p2, p3, p4⟩ := id hP
    have e1 : (d < 0) = False := eq_false (by omega)
    have w1 : w32 (d + -1) = d - 1 := by rw [w32_id (by omega) (by omega)]; omega
    have bd0 : 0 ≤ L0 d ∧ L0 d ≤ 2305843009213693952 := (hS d (by omega) (by omega)).1
    have bd : 0 ≤ s 46 0 d ∧ s 46 0 d ≤ 2305843009213693952 := by
      by_cases e : d = H
      · rw [e]; omega
      · rw [K1 d e]; exact bd0
    have kW := fun (m pc : Nat) (ls st : List zV) (fs : List zFr) (Q : List zV → zS → Prop) => k_worthC (m := m) (pc := pc) (ls := ls) (st := st) (fs := fs) (Q := Q) (s := s) d H ⟨by omega, by omega⟩ ⟨H0, H1⟩ bd ⟨by omega, p3.2⟩
    by_cases hw : s 46 0 d + s 4 0 2 < s 46 0 H
    · have qw := z01_t hw
      have hdH : ¬ d = H := fun e => by rw [e] at hw; omega
      have ed := K1 d hdH
      obtain ⟨A0, a1, a2⟩ := (hS d (by omega) (by omega)).2 (by omega)
      have dH : SubB d H := by
        intro q q0 hq
        obtain ⟨u, u0, u1, hu⟩ := (a1.2.2 q q0).mp hq
        rcases a1.1 u u0 u1 with z | z
        · rw [z] at hu; exact absurd hu (bi_0 q)
        · exact (ok1 u _ z).2 q q0 hu
      obtain ⟨u0, u1, u2⟩ := zandnot_bi H0 H1 (show 0 ≤ d by omega) (show d < 1024 by omega)
      have xp : 0 < zand H (zxor d (-1)) := by
        refine Classical.byContradiction fun hn => hdH ?_
        have hz := (zero_bi u0).mp (by omega)
        refine bi_ext (by omega) H0 (fun q q0 => ⟨dH q q0, fun hq => Classical.byContradiction fun hd2 => hz q q0 ((u2 q q0).mpr ⟨hq, hd2⟩)⟩)
      have xH : SubB (zand H (zxor d (-1))) H := fun q q0 hq => ((u2 q q0).mp hq).1
      have hxb : 0 ≤ s 44 t (zand H (zxor d (-1))) ∧ s 44 t (zand H (zxor d (-1))) ≤ 2305843009213693952 := by
        rcases p1 t _ t0 (by omega) xp xH with ⟨z1, z2⟩ | ⟨z1, z2⟩
        · rw [z2]; have := pr1 t _ t0 (by omega) z1; omega
        · rw [z2]; omega
      have bt : (0 ≤ t ∧ t < 5) = True := eq_true (by omega)
      have bx : (0 ≤ zand H (zxor d (-1)) ∧ zand H (zxor d (-1)) < 1024) = True := eq_true ⟨u0, u1⟩
      have bH : (0 ≤ H ∧ H < 1024) = True := eq_true ⟨H0, H1⟩
      have bdd : (0 ≤ d ∧ d < 1024) = True := eq_true ⟨by omega, by omega⟩
      have w2 : w64 (s 46 0 d + s 44 t (zand H (zxor d (-1)))) = s 46 0 d + s 44 t (zand H (zxor d (-1))) := w64_id (by omega) (by omega)
      have hv0 : ∃ v : Int, v = (if s 46 0 d + s 44 t (zand H (zxor d (-1))) < s 46 0 H then s 46 0 d + s 44 t (zand H (zxor d (-1))) else s 46 0 H) ∧ 0 ≤ v ∧ v ≤ s 46 0 H ∧ v ≤ s 46 0 d + s 44 t (zand H (zxor d (-1))) ∧ (v = s 46 0 H ∨ v = s 46 0 d + s 44 t (zand H (zxor d (-1)))) := by
        refine ⟨_, rfl, ?_⟩
        by_cases c : s 46 0 d + s 44 t (zand H (zxor d (-1))) < s 46 0 H
        · rw [if_pos c]; omega
        · rw [if_neg c]; omega
      obtain ⟨v, hv1, hv2, hv3, hv4, hv5⟩ := hv0
      have hP1 : PTb ok pr T H (zup s 46 0 H v) := by
        unfold PTb
        rw [zup_ng (by omega), zup_ng (by omega), zup_ng (by omega)]
        exact hP
      obtain ⟨s2, d1, d2, d3⟩ := ih (d - 1) (zup s 46 0 H v) (by omega) (by omega) hP1 (fun D hD => by rw [zup_nk hD]; exact K1 D hD) (by rw [zup_eq]; omega) (by
        rw [zup_eq]
        intro hl
        rcases hv5 with e | e
        · rw [e] at hl ⊢; exact K3 hl
        · rcases p1 t _ t0 (by omega) xp xH with ⟨z1, z2⟩ | ⟨z1, z2⟩
          · obtain ⟨b1, b2⟩ := VA_1x (E := H) hO t0 a1 z1 (fun q q0 hq => ((u2 q q0).mp hq).2) (fun q q0 => by
              rw [u2 q q0]
              constructor
              · intro h
                by_cases c : bi d q
                · exact Or.inl c
                · exact Or.inr ⟨h, c⟩
              · rintro (h | h)
                · exact dH q q0 h
                · exact h.1)
            rw [t1] at b1 b2
            exact ⟨_, b1, by rw [b2, a2, e, z2, ed]⟩
          · rw [z2] at e; omega) (fun A hv hp => by
        rw [zup_eq]
        by_cases hq : d < pre A t
        · have := K4 A hv hq; omega
        · have rA := VA_r hO hv
          obtain ⟨f0, f1, f2⟩ := pre_bi t0 (fun u u0 u1 => rA u u0 (by omega))
          have ep : pre A t = d := by omega
          rcases hC A hv with h | h
          · omega
          · rw [ep] at h
            have eA : A t = zand H (zxor d (-1)) := by
              refine bi_ext (rA t t0 (by omega)).1 u0 (fun q q0 => ?_)
              rw [u2 q q0, ← ep, f2 q q0, hv.2.2 q q0]
              constructor
              · intro hq2
                exact ⟨⟨t, t0, by omega, hq2⟩, fun ⟨u, x0, x1, hu⟩ => hv.2.1 u t x0 (by omega) t0 (by omega) (by omega) q q0 hu hq2⟩
              · rintro ⟨⟨u, x0, x1, hu⟩, hn2⟩
                by_cases eu : u = t
                · rw [eu] at hu; exact hu
                · exact absurd ⟨u, x0, by omega, hu⟩ hn2
            have cb := CA_back (c := pr) (A := A) t0
            rw [t1, if_neg (by rw [eA]; omega), eA] at cb
            have hok := (hv.1 t t0 (by omega)).resolve_left (by rw [eA]; omega)
            rw [eA] at hok
            rcases p1 t _ t0 (by omega) xp xH with ⟨z1, z2⟩ | ⟨z1, z2⟩
            · rw [z2] at hv4; omega
            · exact absurd hok z1)
      refine ⟨s2, fun m pc ls st fs Q => ?_, fun g hg => by rw [d2 g hg, zup_ng hg], d3⟩
      rw [r33_2]
      simp only [r33_0, r33_1, r33_3, r33_6, r33_7, r33_8, r33_9, r33_12, r33_15, r33_16, r33_19, r33_20, r33_21, r33_24, r33_25, r33_26, r33_27, r33_30, r33_31, r33_32, r33_33, r33_36, r33_37, r33_38, r33_39, r33_40, r33_41, r33_42, r33_43, r33_44, r33_45, r33_48, r33_49, r33_52, r33_55, kW, qw, e1, bt, bx, bH, bdd, w1, w2, zak_40, zln_40, zak_41, zln_41, zak_42, zln_42, zak_43, zln_43, zak_44, zln_44, zak_45, zln_45, zak_46, zln_46, zak_47, zln_47, zak_48, zln_48, zak_49, zln_49, zak_50, zln_50, zak_51, zln_51, zak_52, zln_52, zak_53, zln_53, zak_54, zln_54, zak_73, zln_73, zak_74, zln_74, zak_75, zln_75, zak_76, zln_76, zak_77, zln_77, zak_78, zln_78, zak_79, zln_79, zak_80, zln_80, zak_81, zln_81, zak_82, zln_82, zak_83, zln_83, zak_84, zln_84, zak_85, zln_85, zak_86, zln_86, zak_87, zln_87, zak_88, zln_88, zak_89, zln_89, zak_90, zln_90, zak_91, zln_91, zak_92, zln_92, zak_93, zln_93, zak_94, zln_94, zak_95, zln_95, zak_96, zln_96, zak_97, zln_97, zak_98, zln_98, zak_99, zln_99, zak_100, zln_100, zak_101, zln_101, zak_102, zln_102, zak_103, zln_103, zak_104, zln_104, zak_105, zln_105, zak_108, zln_108, zak_109, zln_109, Nat.reduceLeDiff, zclr_I, zclr_R, zclr_L, zclr_U, reduceIte, Int.reduceEq, Int.reduceLT, Int.reduceLE, Int.reduceNeg, not_true_eq_false, not_false_eq_true, or_true, true_or, or_false, false_or, and_true, true_and, and_false, false_and, z01_or]
      rw [← hv1]
      exact d1 m pc ls st fs Q
    · have qw := z01_f hw
      obtain ⟨s2, d1, d2, d3⟩ := ih (d - 1) s (by omega) (by omega) hP K1 K2 K3 (fun A hv hp => by
        by_cases hq : d < pre A t
        · exact K4 A hv hq
        · have ep : pre A t = d := by omega
          rcases hC A hv with h | h
          · omega
          · rw [ep] at h
            by_cases e : d = H
            · refine prune hO hv t0 (by omega) p4 h (by rw [← e] at K2 ⊢; omega) (fun _ => by rw [← e] at K2 ⊢; omega)
            · have ed := K1 d e
              refine prune hO hv t0 (by omega) p4 h (by omega) (fun e2 => ?_)
              rw [ep] at e2
              exact absurd e2 e)
      refine ⟨s2, fun m pc ls st fs Q => ?_, d2, d3⟩
      rw [r33_2]
      simp only [r33_0, r33_1, r33_3, r33_6, r33_7, r33_8, r33_9, r33_12, r33_15, r33_16, r33_19, r33_20, r33_21, r33_24, r33_25, r33_26, r33_27, r33_30, r33_31, r33_32, r33_33, r33_36, r33_37, r33_38, r33_39, r33_40, r33_41, r33_42, r33_43, r33_44, r33_45, r33_48, r33_49, r33_52, r33_55, kW, qw, e1, w1, zak_40, zln_40, zak_41, zln_41, zak_42, zln_42, zak_43, zln_43, zak_44, zln_44, zak_45, zln_45, zak_46, zln_46, zak_47, zln_47, zak_48, zln_48, zak_49, zln_49, zak_50, zln_50, zak_51, zln_51, zak_52, zln_52, zak_53, zln_53, zak_54, zln_54, zak_73, zln_73, zak_74, zln_74, zak_75, zln_75, zak_76, zln_76, zak_77, zln_77, zak_78, zln_78, zak_79, zln_79, zak_80, zln_80, zak_81, zln_81, zak_82, zln_82, zak_83, zln_83, zak_84, zln_84, zak_85, zln_85, zak_86, zln_86, zak_87, zln_87, zak_88, zln_88, zak_89, zln_89, zak_90, zln_90, zak_91, zln_91, zak_92, zln_92, zak_93, zln_93, zak_94, zln_94, zak_95, zln_95, zak_96, zln_96, zak_97, zln_97, zak_98, zln_98, zak_99, zln_99, zak_100, zln_100, zak_101, zln_101, zak_102, zln_102, zak_103, zln_103, zak_104, zln_104, zak_105, zln_105, zak_108, zln_108, zak_109, zln_109, Nat.reduceLeDiff, zclr_I, zclr_R, zclr_L, zclr_U, reduceIte, Int.reduceEq, Int.reduceLT, Int.reduceLE, Int.reduceNeg, not_true_eq_false, not_false_eq_true, or_true, true_or, or_false, false_or, and_true, true_and, and_false, false_and, z01_or]
      exact d1 m pc ls st fs Q
theorem k_rest (hO : PrO ok pr T H) (t : Int) (t0 : 0 ≤ t) (t1 : t + 1 = T) (s : zS) (hP : PTb ok pr T H s) (hS : LSnd ok pr t (fun D => s 46 0 D)) (hC : LCmp ok pr T H t (fun D => s 46 0 D)) : ∃ s1 : zS, (∀ (m pc : Nat) (ls st : List zV) (fs : List zFr) (Q : List zV → zS → Prop), Ev ((33, 0, [zR 4 0, zI t, zI H, zU], []) :: (m, pc, ls, st) :: fs) s Q = Ev ((m, pc, ls, st) :: fs) s1 Q) ∧ (∀ g : Nat, ¬ g = 46 → s1 g = s g) ∧ Fin1 ok pr T H (s1 46 0 H) := by
  obtain ⟨⟨H0, H1⟩, ⟨T0, T1⟩, ok1, pr1⟩ := id hO
  have bH : 0 ≤ s 46 0 H ∧ s 46 0 H ≤ 2305843009213693952 := (hS H H0 H1).1
  obtain ⟨s1, c1, c2, c3⟩ := lp33 hO t t0 t1 (fun D => s 46 0 D) hS hC (H + 1).toNat H s (by omega) (by omega) hP (fun _ _ => rfl) ⟨bH.1, Int.le_refl _⟩ (by
    have := (LSnd_s t0 hS H H0 H1).2
    rw [t1] at this
    exact this) (fun A hv hp => by
    obtain ⟨b0, b1, b2⟩ := pre_bi t0 (fun u u0 u1 => VA_r hO hv u u0 (by omega))
    have := SubB_le b0 H0 (VA_pre hv t0 (by omega) (VA_r hO hv)).2
    omega)
  refine ⟨s1, fun m pc ls st fs Q => ?_, c2, c3⟩
  simp only [r33_0, r33_1, zclr_I, zclr_R, zclr_L, zclr_U, reduceIte, Int.reduceEq, Int.reduceLT, Int.reduceLE, Int.reduceNeg, not_true_eq_false, not_false_eq_true, or_true, true_or, or_false, false_or, and_true, true_and, and_false, false_and, z01_or]
  exact c1 m pc ls st fs Q
/-- placeParts for all teachers but the last -/
theorem lp27 (hO : PrO ok pr T H) (v2 : zV) (v6 v7 : zV) : ∀ (k : Nat) (t : Int) (s : zS), 0 ≤ t → t + k = T - 1 → PTb ok pr T H s → LSnd ok pr t (fun D => s 46 0 D) → LCmp ok pr T H t (fun D => s 46 0 D) → ∃ s1 : zS, (∀ (F : List zFr) (Q : List zV → zS → Prop), Ev ((27, 44, [zR 4 0, zR 6 0, v2, zI H, zI (T - 1), zI t, v6, v7], []) :: F) s Q = Ev ((27, 64, [zR 4 0, zR 6 0, v2, zI H, zI (T - 1), zI (T - 1), v6, v7], []) :: F) s1 Q) ∧ (∀ g : Nat, ¬ g = 46 → s1 g = s g) ∧ PTb ok pr T H s1 ∧ LSnd ok pr (T - 1) (fun D => s1 46 0 D) ∧ LCmp ok pr T H (T - 1) (fun D => s1 46 0 D) := by
  obtain ⟨⟨H0, H1⟩, ⟨T0, T1⟩, ok1, pr1⟩ := id hO
  intro k
  induction k with
  | zero =>
    intro t s t0 t1 hP hS hC
    have e1 : (T - 1 ≤ t) = True := eq_true (by omega)
    have e2 : t = T - 1 := by omega
    refine ⟨s, fun F Q => ?_, fun _ _ => rfl, hP, by rw [← e2]; exact hS, by rw [← e2]; exact hC⟩
    rw [r27_44]
    simp only [r27_46, r27_48, r27_51, r27_52, r27_54, r27_55, r27_58, r27_61, e1, zclr_I, zclr_R, zclr_L, zclr_U, reduceIte, Int.reduceEq, Int.reduceLT, Int.reduceLE, Int.reduceNeg, not_true_eq_false, not_false_eq_true, or_true, true_or, or_false, false_or, and_true, true_and, and_false, false_and, z01_or]
    rw [e2]
  | succ k ih =>
    intro t s t0 t1 hP hS hC
    have e1 : (T - 1 ≤ t) = False := eq_false (by omega)
    have w1 : w32 (t + 1) = t + 1 := w32_id (by omega) (by omega)
    obtain ⟨s1, c1, c2, c3, c4⟩ := k_parts hO t t0 (by omega) s hP hS hC
    have hP1 : PTb ok pr T H s1 := by
      unfold PTb
      rw [c2 44 (by omega), c2 45 (by omega), c2 4 (by omega)]
      exact hP
    obtain ⟨s2, d1, d2, d3, d4, d5⟩ := ih (t + 1) s1 (by omega) (by omega) hP1 c3 c4
    refine ⟨s2, fun F Q => ?_, fun g hg => by rw [d2 g hg, c2 g hg], d3, d4, d5⟩
    rw [r27_44]
    simp only [r27_46, r27_48, r27_51, r27_52, r27_54, r27_55, r27_58, r27_61, c1, e1, w1, zclr_I, zclr_R, zclr_L, zclr_U, reduceIte, Int.reduceEq, Int.reduceLT, Int.reduceLE, Int.reduceNeg, not_true_eq_false, not_false_eq_true, or_true, true_or, or_false, false_or, and_true, true_and, and_false, false_and, z01_or]
    exact d1 F Q
end

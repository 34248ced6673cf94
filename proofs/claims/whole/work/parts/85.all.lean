theorem lp28i (T H noon x : Int) (px : Int → Int) (hT : 0 ≤ T ∧ T ≤ 5) (x0 : 0 < x) (x1 : x < 1024) (hpx : ∀ u : Int, 0 ≤ u → u < T → 0 < px u ∧ px u ≤ 2305843009213693952) (sB : zS) (eT : sB 6 0 3 = T) (hB : ∀ s : zS, (∀ g : Nat, ¬ (g = 4 ∨ g = 44 ∨ g = 45) → s g = sB g) → ∀ u : Int, 0 ≤ u → u < T → ∀ (m pc : Nat) (ls st : List zV) (fs : List zFr) (Q : List zV → zS → Prop), Ev ((29, 0, [zR 6 0, zI u, zR 2 0, zI noon, zU, zU, zU], []) :: (m, pc, ls, st) :: fs) s Q = Ev ((m, pc, ls, zL (px u) :: st) :: fs) s Q) : ∀ (k : Nat) (t : Int) (s : zS) (v7 v8 : zV), 0 ≤ t → t + k = T → (∀ g : Nat, ¬ (g = 4 ∨ g = 44 ∨ g = 45) → s g = sB g) → (∀ u : Int, 0 ≤ u → u < T → 0 ≤ s 45 0 u ∧ s 45 0 u < 1024) → ∃ (s1 : zS) (v7' v8' : zV), (∀ (F : List zFr) (Q : List zV → zS → Prop), Ev ((28, 34, [zR 4 0, zR 6 0, zI H, zI noon, zI x, zR 2 0, zI t, v7, v8], []) :: F) s Q = Ev ((28, 106, [zR 4 0, zR 6 0, zI H, zI noon, zI x, zR 2 0, zI T, v7', v8'], []) :: F) s1 Q) ∧ (∀ g : Nat, ¬ (g = 4 ∨ g = 44 ∨ g = 45) → s1 g = sB g) ∧ (∀ u y : Int, ¬ (t ≤ u ∧ u < T ∧ y = x) → s1 44 u y = s 44 u y) ∧ (∀ u : Int, t ≤ u → u < T → s1 44 u x = px u) ∧ (∀ u : Int, 0 ≤ u → u < T → (0 ≤ s1 45 0 u ∧ s1 45 0 u < 1024) ∧ SubB (s 45 0 u) (s1 45 0 u) ∧ (t ≤ u → px u < 2305843009213693952 → SubB x (s1 45 0 u))) ∧ s1 4 0 2 ≤ s 4 0 2 ∧ (0 < s 4 0 2 → 0 < s1 4 0 2) ∧ ∀ u : Int, t ≤ u → u < T → px u < 2305843009213693952 → s1 4 0 2 ≤ px u := by
  intro k
  induction k with
  | zero =>
    intro t s v7 v8 t0 t1 hg hp
    have e1 : (T ≤ t) = True := eq_true (by omega)
    have e2 : t = T := by omega
    have e6 : s 6 = sB 6 := hg 6 (by omega)
    refine ⟨s, v7, v8, fun F Q => ?_, hg, fun _ _ _ => rfl, fun u u0 u1 => by omega, fun u u0 u1 => ⟨hp u u0 u1, fun _ _ h => h, fun h => by omega⟩, Int.le_refl _, id, fun u u0 u1 => by omega⟩
    rw [r28_34]
    simp only [r28_36, r28_37, r28_40, r28_43, r28_44, r28_46, r28_48, r28_49, r28_52, r28_54, r28_55, r28_58, r28_60, r28_61, r28_63, r28_65, r28_66, r28_68, r28_71, r28_72, r28_75, r28_76, r28_79, r28_81, r28_82, r28_83, r28_85, r28_86, r28_87, r28_88, r28_89, r28_92, r28_94, r28_97, r28_100, r28_103, e6, eT, e1, zclr_I, zclr_R, zclr_L, zclr_U, reduceIte, Int.reduceEq, Int.reduceLT, Int.reduceLE, Int.reduceNeg, not_true_eq_false, not_false_eq_true, or_true, true_or, or_false, false_or, and_true, true_and, and_false, false_and, z01_or]
    rw [e2]
  | succ k ih =>
    intro t s v7 v8 t0 t1 hg hp
    have e1 : (T ≤ t) = False := eq_false (by omega)
    have e6 : s 6 = sB 6 := hg 6 (by omega)
    have bt : (0 ≤ t ∧ t < 5) = True := eq_true (by omega)
    have bx : (0 ≤ x ∧ x < 1024) = True := eq_true (by omega)
    have w1 : w32 (t + 1) = t + 1 := w32_id (by omega) (by omega)
    have kB := hB s hg t t0 (by omega)
    obtain ⟨q0, q1⟩ := hpx t t0 (by omega)
    obtain ⟨r0, r1⟩ := hp t t0 (by omega)
    obtain ⟨o0, o1, o2⟩ := zor_bi r0 r1 (show 0 ≤ x by omega) x1
    by_cases c : px t < 2305843009213693952
    · have e : (0 ≤ (if px t < 2305843009213693952 then (-1 : Int) else if px t = 2305843009213693952 then 0 else 1)) = False := by rw [if_pos c]; simp
      have hv0 : ∃ v : Int, v = (if px t < s 4 0 2 then px t else s 4 0 2) ∧ v ≤ s 4 0 2 ∧ v ≤ px t ∧ (0 < s 4 0 2 → 0 < v) := by
        refine ⟨_, rfl, ?_⟩
        by_cases d : px t < s 4 0 2
        · rw [if_pos d]; omega
        · rw [if_neg d]; omega
      obtain ⟨v, hv1, hv2, hv3, hv4⟩ := hv0
      have g45 : ∀ u : Int, zup (zup (zup s 44 t x (px t)) 45 0 t (zor (s 45 0 t) x)) 4 0 2 v 45 0 u = if u = t then zor (s 45 0 t) x else s 45 0 u := by
        intro u
        rw [zup_ng (by omega)]
        by_cases eu : u = t
        · rw [if_pos eu, eu, zup_eq]
        · rw [if_neg eu, zup_nk eu, zup_ng (by omega)]
      have g44 : ∀ u y : Int, zup (zup (zup s 44 t x (px t)) 45 0 t (zor (s 45 0 t) x)) 4 0 2 v 44 u y = if u = t ∧ y = x then px t else s 44 u y := by
        intro u y
        rw [zup_ng (by omega), zup_ng (by omega)]
        by_cases eu : u = t ∧ y = x
        · rw [if_pos eu, eu.1, eu.2, zup_eq]
        · rw [if_neg eu]
          by_cases e3 : u = t
          · rw [zup_nk (fun z => eu ⟨e3, z⟩)]
          · rw [zup_ni e3]
      have g4 : zup (zup (zup s 44 t x (px t)) 45 0 t (zor (s 45 0 t) x)) 4 0 2 v 4 0 2 = v := zup_eq _ _ _ _ _
      have gg : ∀ g : Nat, ¬ (g = 4 ∨ g = 44 ∨ g = 45) → zup (zup (zup s 44 t x (px t)) 45 0 t (zor (s 45 0 t) x)) 4 0 2 v g = sB g := by
        intro g hh
        rw [zup_ng (by omega), zup_ng (by omega), zup_ng (by omega), hg g hh]
      have run : ∀ (F : List zFr) (Q : List zV → zS → Prop), Ev ((28, 34, [zR 4 0, zR 6 0, zI H, zI noon, zI x, zR 2 0, zI t, v7, v8], []) :: F) s Q = Ev ((28, 34, [zR 4 0, zR 6 0, zI H, zI noon, zI x, zR 2 0, zI (t + 1), zL (px t), zU], []) :: F) (zup (zup (zup s 44 t x (px t)) 45 0 t (zor (s 45 0 t) x)) 4 0 2 v) Q := by
        intro F Q
        rw [r28_34]
        simp only [r28_36, r28_37, r28_40, r28_43, r28_44, r28_46, r28_48, r28_49, r28_52, r28_54, r28_55, r28_58, r28_60, r28_61, r28_63, r28_65, r28_66, r28_68, r28_71, r28_72, r28_75, r28_76, r28_79, r28_81, r28_82, r28_83, r28_85, r28_86, r28_87, r28_88, r28_89, r28_92, r28_94, r28_97, r28_100, r28_103, kB, e6, eT, e1, bt, bx, e, w1, zup_g, Nat.reduceEqDiff, zak_40, zln_40, zak_41, zln_41, zak_42, zln_42, zak_43, zln_43, zak_44, zln_44, zak_45, zln_45, zak_46, zln_46, zak_47, zln_47, zak_48, zln_48, zak_49, zln_49, zak_50, zln_50, zak_51, zln_51, zak_52, zln_52, zak_53, zln_53, zak_54, zln_54, zak_73, zln_73, zak_74, zln_74, zak_75, zln_75, zak_76, zln_76, zak_77, zln_77, zak_78, zln_78, zak_79, zln_79, zak_80, zln_80, zak_81, zln_81, zak_82, zln_82, zak_83, zln_83, zak_84, zln_84, zak_85, zln_85, zak_86, zln_86, zak_87, zln_87, zak_88, zln_88, zak_89, zln_89, zak_90, zln_90, zak_91, zln_91, zak_92, zln_92, zak_93, zln_93, zak_94, zln_94, zak_95, zln_95, zak_96, zln_96, zak_97, zln_97, zak_98, zln_98, zak_99, zln_99, zak_100, zln_100, zak_101, zln_101, zak_102, zln_102, zak_103, zln_103, zak_104, zln_104, zak_105, zln_105, zak_108, zln_108, zak_109, zln_109, Nat.reduceLeDiff, zclr_I, zclr_R, zclr_L, zclr_U, reduceIte, Int.reduceEq, Int.reduceLT, Int.reduceLE, Int.reduceNeg, not_true_eq_false, not_false_eq_true, or_true, true_or, or_false, false_or, and_true, true_and, and_false, false_and, z01_or]
        rw [← hv1]
      generalize zup (zup (zup s 44 t x (px t)) 45 0 t (zor (s 45 0 t) x)) 4 0 2 v = X at *
      obtain ⟨s1, x7, x8, c1, c2, c3, c4, c5, c6, c7, c8⟩ := ih (t + 1) X (zL (px t)) zU (by omega) (by omega) gg (fun u u0 u1 => by
        rw [g45 u]
        by_cases eu : u = t
        · rw [if_pos eu]; exact ⟨o0, o1⟩
        · rw [if_neg eu]; exact hp u u0 u1)
      refine ⟨s1, x7, x8, fun F Q => by rw [run, c1], c2, fun u y hn => ?_, fun u u0 u1 => ?_, fun u u0 u1 => ?_, by omega, fun h => by rw [g4] at c7; exact c7 (hv4 h), fun u u0 u1 hu => ?_⟩
      · rw [c3 u y (by omega), g44, if_neg (fun z => hn ⟨by omega, by omega, z.2⟩)]
      · by_cases eu : u = t
        · rw [eu, c3 t x (by omega), g44, if_pos ⟨rfl, rfl⟩]
        · exact c4 u (by omega) u1
      · obtain ⟨y1, y2, y3⟩ := c5 u u0 u1
        rw [g45 u] at y2
        by_cases eu : u = t
        · rw [if_pos eu] at y2
          refine ⟨y1, fun q q0' hq => y2 q q0' ((o2 q q0').mpr (Or.inl (by rw [← eu]; exact hq))), fun _ _ q q0' hq => y2 q q0' ((o2 q q0').mpr (Or.inr hq))⟩
        · rw [if_neg eu] at y2
          exact ⟨y1, y2, fun hu => y3 (by omega)⟩
      · by_cases eu : u = t
        · rw [eu]; omega
        · exact c8 u (by omega) u1 hu
    · have e : (0 ≤ (if px t < 2305843009213693952 then (-1 : Int) else if px t = 2305843009213693952 then 0 else 1)) = True := by
        rw [if_neg c]
        by_cases c3 : px t = 2305843009213693952
        · rw [if_pos c3]; simp
        · rw [if_neg c3]; simp
      have g44 : ∀ u y : Int, zup s 44 t x (px t) 44 u y = if u = t ∧ y = x then px t else s 44 u y := by
        intro u y
        by_cases eu : u = t ∧ y = x
        · rw [if_pos eu, eu.1, eu.2, zup_eq]
        · rw [if_neg eu]
          by_cases e3 : u = t
          · rw [zup_nk (fun z => eu ⟨e3, z⟩)]
          · rw [zup_ni e3]
      have g45 : zup s 44 t x (px t) 45 = s 45 := zup_ng (by omega)
      have g4 : zup s 44 t x (px t) 4 = s 4 := zup_ng (by omega)
      have gg : ∀ g : Nat, ¬ (g = 4 ∨ g = 44 ∨ g = 45) → zup s 44 t x (px t) g = sB g := by
        intro g hh
        rw [zup_ng (by omega), hg g hh]
      have run : ∀ (F : List zFr) (Q : List zV → zS → Prop), Ev ((28, 34, [zR 4 0, zR 6 0, zI H, zI noon, zI x, zR 2 0, zI t, v7, v8], []) :: F) s Q = Ev ((28, 34, [zR 4 0, zR 6 0, zI H, zI noon, zI x, zR 2 0, zI (t + 1), zL (px t), zU], []) :: F) (zup s 44 t x (px t)) Q := by
        intro F Q
        rw [r28_34]
        simp only [r28_36, r28_37, r28_40, r28_43, r28_44, r28_46, r28_48, r28_49, r28_52, r28_54, r28_55, r28_58, r28_60, r28_61, r28_63, r28_65, r28_66, r28_68, r28_71, r28_72, r28_75, r28_76, r28_79, r28_81, r28_82, r28_83, r28_85, r28_86, r28_87, r28_88, r28_89, r28_92, r28_94, r28_97, r28_100, r28_103, kB, e6, eT, e1, bt, bx, e, w1, zak_40, zln_40, zak_41, zln_41, zak_42, zln_42, zak_43, zln_43, zak_44, zln_44, zak_45, zln_45, zak_46, zln_46, zak_47, zln_47, zak_48, zln_48, zak_49, zln_49, zak_50, zln_50, zak_51, zln_51, zak_52, zln_52, zak_53, zln_53, zak_54, zln_54, zak_73, zln_73, zak_74, zln_74, zak_75, zln_75, zak_76, zln_76, zak_77, zln_77, zak_78, zln_78, zak_79, zln_79, zak_80, zln_80, zak_81, zln_81, zak_82, zln_82, zak_83, zln_83, zak_84, zln_84, zak_85, zln_85, zak_86, zln_86, zak_87, zln_87, zak_88, zln_88, zak_89, zln_89, zak_90, zln_90, zak_91, zln_91, zak_92, zln_92, zak_93, zln_93, zak_94, zln_94, zak_95, zln_95, zak_96, zln_96, zak_97, zln_97, zak_98, zln_98, zak_99, zln_99, zak_100, zln_100, zak_101, zln_101, zak_102, zln_102, zak_103, zln_103, zak_104, zln_104, zak_105, zln_105, zak_108, zln_108, zak_109, zln_109, Nat.reduceLeDiff, zclr_I, zclr_R, zclr_L, zclr_U, reduceIte, Int.reduceEq, Int.reduceLT, Int.reduceLE, Int.reduceNeg, not_true_eq_false, not_false_eq_true, or_true, true_or, or_false, false_or, and_true, true_and, and_false, false_and, z01_or]
      generalize zup s 44 t x (px t) = X at *
      obtain ⟨s1, x7, x8, c1, c2, c3, c4, c5, c6, c7, c8⟩ := ih (t + 1) X (zL (px t)) zU (by omega) (by omega) gg (by rw [g45]; exact hp)
      rw [g45] at c5
      rw [g4] at c6 c7
      refine ⟨s1, x7, x8, fun F Q => by rw [run, c1], c2, fun u y hn => ?_, fun u u0 u1 => ?_, fun u u0 u1 => ?_, c6, c7, fun u u0 u1 hu => ?_⟩
      · rw [c3 u y (by omega), g44, if_neg (fun z => hn ⟨by omega, by omega, z.2⟩)]
      · by_cases eu : u = t
        · rw [eu, c3 t x (by omega), g44, if_pos ⟨rfl, rfl⟩]
        · exact c4 u (by omega) u1
      · obtain ⟨y1, y2, y3⟩ := c5 u u0 u1
        refine ⟨y1, y2, fun hu hl => ?_⟩
        by_cases eu : u = t
        · rw [eu] at hl; exact absurd hl c
        · exact y3 (by omega) hl
      · by_cases eu : u = t
        · rw [eu] at hu; exact absurd hu c
        · exact c8 u (by omega) u1 hu
/-- who may be taught by whom -/
def okS (s : zS) (t x : Int) : Prop := (0 < x ∧ x < 1024) ∧ SubB x (s 6 0 4) ∧ mayM s t x = 0
theorem TeB_I {L : Nat} {s : zS} (hs : Inv L s) {t : Int} (t0 : 0 ≤ t) (t1 : t < s 11 0 1) : TeB s t := by
  obtain ⟨h1, h2, h3, h4, h5, h6, h7, h8, h9, h10, h11, h12, h13, h14, h15, h16⟩ := hs
  obtain ⟨k1, k2, k3, k4, k5, k6⟩ := h15 t t0 t1
  obtain ⟨y1, y2, y3, y4⟩ := h9
  have y3a := y3.1
  have y3b := y3.2
  have y4a := y4.1
  have y4b := y4.2
  exact ⟨by omega, ⟨k6.1, k6.2.1⟩, by omega, by omega⟩
theorem hereP {L : Nat} {s : zS} (hs : Inv L s) {x : Int} (hx : SubB x (s 6 0 4)) : ∀ q : Int, 0 ≤ q → bi x q → q < s 11 0 0 := by
  obtain ⟨h1, h2, h3, h4, h5, h6, h7, h8, h9, h10, h11, h12, h13, h14, h15⟩ := hs
  intro q q0 hq
  exact ((h14.2.2 q q0).mp (hx q q0 hq)).1
theorem PrO_I {L : Nat} {s : zS} (hs : Inv L s) (noon : Int) : PrO (okS s) (prC s noon) (s 11 0 1) (s 6 0 4) := by
  obtain ⟨h1, h2, h3, h4, h5, h6, h7, h8, h9, h10, h11, h12, h13, h14, h15, h16⟩ := id hs
  refine ⟨⟨h14.1, h14.2.1⟩, h5.2, fun t x hx => ⟨hx.1, hx.2.1⟩, fun t x t0 t1 hx => prC_b (TeB_I hs t0 t1) (by have := hx.1; omega) hx.1.2⟩
theorem lp28 {L : Nat} {s0 : zS} (hs : Inv L s0) (noon : Int) (hn : noon = 0 ∨ noon = 1) : ∀ (n : Nat) (y : Int) (s : zS) (v5 v6 v7 v8 : zV), y ≤ n → 0 ≤ y → SubB y (s0 6 0 4) → (∀ g : Nat, ¬ (g = 2 ∨ g = 4 ∨ g = 44 ∨ g = 45) → s g = s0 g) → (∀ u : Int, 0 ≤ u → u < s0 11 0 1 → 0 ≤ s 45 0 u ∧ s 45 0 u < 1024) → 0 < s 4 0 2 → s 4 0 2 ≤ 2305843009213693952 → (∀ u x : Int, 0 ≤ u → u < s0 11 0 1 → 0 < x → SubB x (s0 6 0 4) → y < x → s 44 u x = (if mayM s0 u x = 0 then prC s0 noon u x else 2305843009213693952) ∧ (okS s0 u x → SubB x (s 45 0 u) ∧ s 4 0 2 ≤ prC s0 noon u x)) → ∃ s1 : zS, (∀ (m pc : Nat) (ls st : List zV) (fs : List zFr) (Q : List zV → zS → Prop), Ev ((28, 18, [zR 4 0, zR 6 0, zI (s0 6 0 4), zI noon, zI y, v5, v6, v7, v8], []) :: (m, pc, ls, st) :: fs) s Q = Ev ((m, pc, ls, st) :: fs) s1 Q) ∧ (∀ g : Nat, ¬ (g = 2 ∨ g = 4 ∨ g = 44 ∨ g = 45) → s1 g = s0 g) ∧ (∀ u : Int, 0 ≤ u → u < s0 11 0 1 → 0 ≤ s1 45 0 u ∧ s1 45 0 u < 1024) ∧ (0 < s1 4 0 2 ∧ s1 4 0 2 ≤ 2305843009213693952) ∧ (∀ u x : Int, 0 ≤ u → u < s0 11 0 1 → 0 < x → SubB x (s0 6 0 4) → s1 44 u x = (if mayM s0 u x = 0 then prC s0 noon u x else 2305843009213693952) ∧ (okS s0 u x → SubB x (s1 45 0 u) ∧ s1 4 0 2 ≤ prC s0 noon u x)) := by
  obtain ⟨h1, h2, h3, h4, h5, h6, h7, h8, h9, h10, h11, h12, h13, h14, h15, h16⟩ := id hs
  obtain ⟨H0, H1, -⟩ := id h14
  have eT := h5.1
  have h50 := h5.2
  have eP := h4.1
  have h40 := h4.2
  intro n
  induction n with
  | zero =>
    intro y s v5 v6 v7 v8 hn0 y0 hy hg hp hc hc2 hI
    have e1 : (y ≤ 0) = True := eq_true (by omega)
    refine ⟨s, fun m pc ls st fs Q => ?_, hg, hp, ⟨hc, hc2⟩, fun u x u0 u1 x0 hx => hI u x u0 u1 x0 hx (by omega)⟩
    rw [r28_18]
    simp only [r28_20, r28_23, r28_24, r28_26, r28_29, r28_31, r28_32, r28_117, e1, zclr_I, zclr_R, zclr_L, zclr_U, reduceIte, Int.reduceEq, Int.reduceLT, Int.reduceLE, Int.reduceNeg, not_true_eq_false, not_false_eq_true, or_true, true_or, or_false, false_or, and_true, true_and, and_false, false_and, z01_or]
  | succ n ih =>
    intro y s v5 v6 v7 v8 hn0 y0 hy hg hp hc hc2 hI
    by_cases hy0 : y ≤ 0
    · have e1 : (y ≤ 0) = True := eq_true hy0
      refine ⟨s, fun m pc ls st fs Q => ?_, hg, hp, ⟨hc, hc2⟩, fun u x u0 u1 x0 hx => hI u x u0 u1 x0 hx (by omega)⟩
      rw [r28_18]
      simp only [r28_20, r28_23, r28_24, r28_26, r28_29, r28_31, r28_32, r28_117, e1, zclr_I, zclr_R, zclr_L, zclr_U, reduceIte, Int.reduceEq, Int.reduceLT, Int.reduceLE, Int.reduceNeg, not_true_eq_false, not_false_eq_true, or_true, true_or, or_false, false_or, and_true, true_and, and_false, false_and, z01_or]
    · have e1 : (y ≤ 0) = False := eq_false hy0
      have yH := SubB_le y0 H0 hy
      have S0 : Sm s0 s := fun g hh => hg g (by unfold Scr at hh; omega)
      have hsI : Inv L s := Inv_Sm S0 hs
      have g6 : s 6 = s0 6 := hg 6 (by omega)
      have g5 : s 5 = s0 5 := hg 5 (by omega)
      have g8 : s 8 = s0 8 := hg 8 (by omega)
      have g11 : s 11 = s0 11 := hg 11 (by omega)
      have g108 : s 108 = s0 108 := hg 108 (by omega)
      have g109 : s 109 = s0 109 := hg 109 (by omega)
      obtain ⟨sG, k1, k2⟩ := k_gather y (by omega) (by omega) s (by rw [g6]; omega) (by rw [g6]; omega) (by rw [g108, g109]; exact h2) (by rw [g6, g5]; intro p p0 p1; have := (h12 p p0 (by omega)).1; omega)
      have k3 := k2.1
      have eM : ∀ u : Int, mayM s u y = mayM s0 u y := fun u => mayM_c u y (fun g hh => hg g (by omega))
      obtain ⟨ag1, ag2, ag3, ag4, ag5, ag6⟩ := age_b hsI (show 0 < y by omega) (by rw [g11]; exact hereP hs hy)
      have prE : ∀ s' : zS, s' 6 = s0 6 → s' 8 = s0 8 → ∀ u : Int, prC s' noon u y = prC s0 noon u y := by
        intro s' e6 e8 u
        unfold prC cC wC mC
        rw [e6, e8]
      obtain ⟨sN, w7, w8, c1, c2, c3, c4, c5, c6, c7, c8⟩ := lp28i (s0 11 0 1) (s0 6 0 4) noon y (fun u => if mayM s0 u y = 0 then prC s0 noon u y else 2305843009213693952) h50 (by omega) (by omega) (fun u u0 u1 => by
          show 0 < (if mayM s0 u y = 0 then prC s0 noon u y else 2305843009213693952) ∧ (if mayM s0 u y = 0 then prC s0 noon u y else 2305843009213693952) ≤ 2305843009213693952
          by_cases c : mayM s0 u y = 0
          · rw [if_pos c]; have := prC_b (noon := noon) (TeB_I hs u0 u1) y0 (show y < 1024 by omega); omega
          · rw [if_neg c]; omega) sG (by rw [k3 6 (by omega), g6]; exact eT) (fun s' hs' u u0 u1 m pc ls st fs Q => by
          have f6 : s' 6 = s0 6 := by rw [hs' 6 (by omega), k3 6 (by omega), g6]
          have f8 : s' 8 = s0 8 := by rw [hs' 8 (by omega), k3 8 (by omega), g8]
          have f2 : s' 2 = sG 2 := hs' 2 (by omega)
          have er := rs_eq (s' := s') (t := u) hsI k2 (show 0 < y by omega) (show y < 1024 by omega) (by rw [g11]; exact hereP hs hy) u0 (by rw [g11]; exact u1) f2 (by rw [f6, g6]) (by rw [f8, g8])
          rw [eM u] at er
          have tk := (h15 u u0 u1).1
          have tB : TeB s' u := by
            have := TeB_I hs u0 u1
            unfold TeB at this ⊢
            rw [f6, f8]; exact this
          rw [k_priceOf noon u y hn (by rw [hs' 108 (by omega), hs' 109 (by omega), k3 108 (by omega), k3 109 (by omega), g108, g109]; exact h2) u0 (by omega) (by rw [f8]; omega) (by rw [f2, k2.2.2.2.2.2.1, k2.2.2.2.2.2.2.1, ← ag1, ← ag2]; omega) tB (by rw [f2]; exact k2.2.1) y0 (by omega), er, prE s' f6 f8]) (s0 11 0 1).toNat 0 sG v7 v8 (by omega) (by omega) (fun _ _ => rfl) (by rw [k3 45 (by omega)]; exact hp)
      rw [k3 44 (by omega)] at c3
      rw [k3 45 (by omega)] at c5
      rw [k3 4 (by omega)] at c6 c7
      obtain ⟨x0, x1, x2, x3⟩ := sub_next H0 H1 (show 0 < y by omega) hy
      have w2 : w32 (y - 1) = y - 1 := w32_id (by omega) (by omega)
      obtain ⟨s1, d1, d2, d3, d4, d5⟩ := ih (zand (y - 1) (s0 6 0 4)) sN (zR 2 0) (zI (s0 11 0 1)) w7 w8 (by omega) x0 x2 (fun g hh => by rw [c2 g (by omega), k3 g (by omega), hg g hh]) (fun u u0 u1 => (c5 u u0 u1).1) (c7 hc) (by omega) (fun u x u0 u1 xp xH hlt => by
        by_cases ex : x = y
        · rw [ex]
          refine ⟨c4 u u0 u1, fun hok => ?_⟩
          have hm := hok.2.2
          have pb := prC_b (noon := noon) (TeB_I hs u0 u1) y0 (show y < 1024 by omega)
          have e8 := c8 u u0 u1
          have e5 := (c5 u u0 u1).2.2 u0
          simp only [hm, if_true] at e8 e5
          exact ⟨e5 pb.2, e8 pb.2⟩
        · have hyx : y < x := by
            refine Classical.byContradiction fun hn2 => ?_
            have := x3 x (by omega) xH (by omega)
            omega
          obtain ⟨i1, i2⟩ := hI u x u0 u1 xp xH hyx
          refine ⟨by rw [c3 u x (fun z => ex z.2.2)]; exact i1, fun hok => ?_⟩
          obtain ⟨i3, i4⟩ := i2 hok
          exact ⟨fun q q0 hq => (c5 u u0 u1).2.1 q q0 (i3 q q0 hq), by omega⟩)
      refine ⟨s1, fun m pc ls st fs Q => ?_, d2, d3, d4, d5⟩
      rw [r28_18]
      simp only [r28_20, r28_23, r28_24, e1, zclr_I, zclr_R, zclr_L, zclr_U, reduceIte, Int.reduceEq, Int.reduceLT, Int.reduceLE, Int.reduceNeg, not_true_eq_false, not_false_eq_true, or_true, true_or, or_false, false_or, and_true, true_and, and_false, false_and, z01_or]
      rw [r28_26, k1]
      simp only [r28_29, r28_31, r28_32, zclr_I, zclr_R, zclr_L, zclr_U, reduceIte, Int.reduceEq, Int.reduceLT, Int.reduceLE, Int.reduceNeg, not_true_eq_false, not_false_eq_true, or_true, true_or, or_false, false_or, and_true, true_and, and_false, false_and, z01_or]
      rw [c1]
      simp only [r28_106, r28_108, r28_109, r28_110, r28_111, r28_112, r28_114, w2, zclr_I, zclr_R, zclr_L, zclr_U, reduceIte, Int.reduceEq, Int.reduceLT, Int.reduceLE, Int.reduceNeg, not_true_eq_false, not_false_eq_true, or_true, true_or, or_false, false_or, and_true, true_and, and_false, false_and, z01_or]
      exact d1 m pc ls st fs Q
theorem k_price {L : Nat} {s : zS} (hs : Inv L s) (noon : Int) (hn : noon = 0 ∨ noon = 1) : ∃ sP : zS, (∀ (m pc : Nat) (ls st : List zV) (fs : List zFr) (Q : List zV → zS → Prop), Ev ((28, 0, [zR 4 0, zR 6 0, zI (s 6 0 4), zI noon, zU, zU, zU, zU, zU], []) :: (m, pc, ls, st) :: fs) s Q = Ev ((m, pc, ls, st) :: fs) sP Q) ∧ PTb (okS s) (prC s noon) (s 11 0 1) (s 6 0 4) sP ∧ ∀ g : Nat, ¬ (g = 2 ∨ g = 4 ∨ g = 44 ∨ g = 45) → sP g = s g := by
  obtain ⟨h1, h2, h3, h4, h5, h6, h7, h8, h9, h10, h11, h12, h13, h14, h15, h16⟩ := id hs
  obtain ⟨H0, H1, -⟩ := id h14
  have h50 := h5.2
  have e4 : zup (zfl s 45 0 0 5 0) 4 0 2 2305843009213693952 4 0 2 = 2305843009213693952 := zup_eq _ _ _ _ _
  obtain ⟨sP, d1, d2, d3, d4, d5⟩ := lp28 hs noon hn (s 6 0 4).toNat (s 6 0 4) (zup (zfl s 45 0 0 5 0) 4 0 2 2305843009213693952) zU zU zU zU (by omega) H0 (fun _ _ h => h) (fun g hh => by rw [zup_ng (by omega), zfl_ng (by omega)]) (fun u u0 u1 => by rw [zup_ng (by omega), zfl_in u0 (by omega)]; omega) (by rw [e4]; omega) (by rw [e4]; omega) (fun u x u0 u1 x0 xH hlt => by
    have := SubB_le (by omega) H0 xH
    omega)
  refine ⟨sP, fun m pc ls st fs Q => ?_, ⟨fun t x t0 t1 x0 xH => ?_, fun t t0 t1 => ⟨d3 t t0 t1, fun x hx => ((d5 t x t0 t1 hx.1.1 hx.2.1).2 hx).1⟩, d4, fun t x t0 t1 hx => ((d5 t x t0 t1 hx.1.1 hx.2.1).2 hx).2⟩, d2⟩
  · simp only [r28_0, r28_1, r28_4, zclr_I, zclr_R, zclr_L, zclr_U, reduceIte, Int.reduceEq, Int.reduceLT, Int.reduceLE, Int.reduceNeg, not_true_eq_false, not_false_eq_true, or_true, true_or, or_false, false_or, and_true, true_and, and_false, false_and, z01_or]
    rw [r28_5, k_fill 45 0 5 0 zU zU s zak_45 (by omega) zln_45 (by omega) (by omega)]
    simp only [r28_8, r28_9, r28_12, r28_15, r28_16, zclr_I, zclr_R, zclr_L, zclr_U, reduceIte, Int.reduceEq, Int.reduceLT, Int.reduceLE, Int.reduceNeg, not_true_eq_false, not_false_eq_true, or_true, true_or, or_false, false_or, and_true, true_and, and_false, false_and, z01_or]
    exact d1 m pc ls st fs Q
  · have e := (d5 t x t0 t1 x0 xH).1
    by_cases c : mayM s t x = 0
    · rw [if_pos c] at e
      exact Or.inl ⟨⟨⟨x0, by have := SubB_le (by omega) H0 xH; omega⟩, xH, c⟩, e⟩
    · rw [if_neg c] at e
      exact Or.inr ⟨fun z => c z.2.2, e⟩

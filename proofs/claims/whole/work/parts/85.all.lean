/-- who may be taught by whom -/
def okS (s : zS) (t x : Int) : Prop := (0 < x ∧ x < 1024) ∧ SubB x (s 6 0 4) ∧ mayM s t x = 0
theorem TeB_I {L : Nat} {s : zS} (hs : Inv L s) {t : Int} (t0 : 0 ≤ t) (t1 : t < s 11 0 1) : TeB s t := by
  obtain ⟨h1, h2, h3, h4, h5, h6, h7, h8, h9, h10, h11, h12, h13, h14, h15, h16⟩ := hs
  obtain ⟨k1, k2, k3, k4, k5, k6⟩ := h15 t t0 t1
  obtain ⟨y1, y2, y3, y4⟩ := h9
  have y3a := y3.1
  have y3b := y3.2
  have y4a := y4.1
  have y4b := y4.2
  exact ⟨by omega, ⟨k6.1, k6.2.1⟩, by omega, by omega⟩
theorem hereP {L : Nat} {s : zS} (hs : Inv L s) {x : Int} (hx : SubB x (s 6 0 4)) : ∀ q : Int, 0 ≤ q → bi x q → q < s 11 0 0 := by
  obtain ⟨h1, h2, h3, h4, h5, h6, h7, h8, h9, h10, h11, h12, h13, h14, h15⟩ := hs
  intro q q0 hq
  exact ((h14.2.2 q q0).mp (hx q q0 hq)).1
theorem Te5_I {L : Nat} {s : zS} (hs : Inv L s) : (0 ≤ s 6 0 3 ∧ s 6 0 3 ≤ 5) ∧ ∀ u : Int, 0 ≤ u → u < s 6 0 3 → 0 ≤ s 8 u 5 ∧ s 8 u 5 < 1024 := by
  have h5 : I_e (s 6 0 3) (s 11 0 1) 0 5 := by
    obtain ⟨h1, h2, h3, h4, h5, h6⟩ := id hs
    exact h5
  have eT := h5.1
  have h50 := h5.2
  exact ⟨by omega, fun u u0 u1 => (TeB_I hs u0 (by omega)).1⟩
theorem StB_I {L : Nat} {s : zS} (hs : Inv L s) : StB s := by
  obtain ⟨a, b⟩ := Te5_I hs
  obtain ⟨b0, b1, -⟩ := stl_bi a.1 b
  exact ⟨b0, b1⟩
theorem PrO_I {L : Nat} {s : zS} (hs : Inv L s) (noon : Int) : PrO (okS s) (prC s noon) (s 11 0 1) (s 6 0 4) := by
  obtain ⟨h1, h2, h3, h4, h5, h6, h7, h8, h9, h10, h11, h12, h13, h14, h15, h16⟩ := id hs
  refine ⟨⟨h14.1, h14.2.1⟩, h5.2, fun t x hx => ⟨hx.1, hx.2.1⟩, fun t x t0 t1 hx => ?_⟩
  have := prC_b (noon := noon) (TeB_I hs t0 t1) (StB_I hs) (show 0 ≤ x by have := hx.1; omega) hx.1.2
  omega
/-- which prices have been looked at -/
def dn (s0 : zS) (y t u x : Int) : Prop := (0 ≤ u ∧ u < s0 11 0 1) ∧ (0 < x ∧ SubB x (s0 6 0 4)) ∧ (y < x ∨ (x = y ∧ u < t))
theorem dn_s {s0 : zS} {y t u x : Int} (h : dn s0 y (t + 1) u x) (hn : ¬ (u = t ∧ x = y)) : dn s0 y t u x := ⟨h.1, h.2.1, by have := h.2.2; omega⟩
def Tab (s0 : zS) (noon y t : Int) (s : zS) : Prop := (∀ u x : Int, dn s0 y t u x → s 44 u x = (if mayM s0 u x = 0 then prC s0 noon u x else 2305843009213693952)) ∧ (∀ u : Int, 0 ≤ u → u < s0 11 0 1 → (0 ≤ s 45 0 u ∧ s 45 0 u < 1024) ∧ ∀ x : Int, dn s0 y t u x → mayM s0 u x = 0 → SubB x (s 45 0 u)) ∧ (∀ u : Int, 0 ≤ u → u < s0 11 0 1 → (0 < s 55 0 u ∧ s 55 0 u ≤ 2305843009213693952) ∧ (s 55 0 u < 2305843009213693952 → s 55 0 u ≤ 576460752303423488) ∧ ∀ x : Int, dn s0 y t u x → mayM s0 u x = 0 → s 55 0 u ≤ prC s0 noon u x) ∧ (0 ≤ s 4 0 3 ∧ s 4 0 3 ≤ 10) ∧ ∀ u x : Int, dn s0 y t u x → mayM s0 u x = 0 → popc x ≤ s 4 0 3
theorem Tab_c {s0 : zS} {noon y1 t1 y2 t2 : Int} {s : zS} (h : ∀ u x : Int, dn s0 y2 t2 u x → dn s0 y1 t1 u x) (hT : Tab s0 noon y1 t1 s) : Tab s0 noon y2 t2 s := by
  obtain ⟨a, b, c, d, e⟩ := hT
  exact ⟨fun u x hx => a u x (h u x hx), fun u u0 u1 => ⟨(b u u0 u1).1, fun x hx => (b u u0 u1).2 x (h u x hx)⟩, fun u u0 u1 => ⟨(c u u0 u1).1, (c u u0 u1).2.1, fun x hx => (c u u0 u1).2.2 x (h u x hx)⟩, d, fun u x hx => e u x (h u x hx)⟩
theorem Tab_s {s0 : zS} {noon y t : Int} {s s1 : zS} (h44 : s1 44 = s 44) (h45 : s1 45 = s 45) (h55 : s1 55 = s 55) (h4 : s1 4 = s 4) (hT : Tab s0 noon y t s) : Tab s0 noon y t s1 := by
  unfold Tab
  rw [h44, h45, h55, h4]
  exact hT
theorem tab_a {s0 : zS} {noon y t : Int} {s X : zS} (hm : ¬ mayM s0 t y = 0) (x44 : ∀ u x : Int, X 44 u x = if u = t ∧ x = y then 2305843009213693952 else s 44 u x) (x45 : X 45 = s 45) (x55 : X 55 = s 55) (x4 : X 4 = s 4) (hT : Tab s0 noon y t s) : Tab s0 noon y (t + 1) X := by
  obtain ⟨a, b, c, d, e⟩ := hT
  unfold Tab
  rw [x45, x55, x4]
  have ne : ∀ u x : Int, mayM s0 u x = 0 → ¬ (u = t ∧ x = y) := fun u x h z => by rw [z.1, z.2] at h; exact hm h
  refine ⟨fun u x hx => ?_, fun u u0 u1 => ⟨(b u u0 u1).1, fun x hx h => (b u u0 u1).2 x (dn_s hx (ne u x h)) h⟩, fun u u0 u1 => ⟨(c u u0 u1).1, (c u u0 u1).2.1, fun x hx h => (c u u0 u1).2.2 x (dn_s hx (ne u x h)) h⟩, d, fun u x hx h => e u x (dn_s hx (ne u x h)) h⟩
  rw [x44 u x]
  by_cases z : u = t ∧ x = y
  · rw [if_pos z, z.1, z.2, if_neg hm]
  · rw [if_neg z]; exact a u x (dn_s hx z)
theorem tab_b {s0 : zS} {noon y t v l : Int} {s X : zS} (t0 : 0 ≤ t) (t1 : t < s0 11 0 1) (y0 : 0 ≤ y) (y1 : y < 1024) (hm : mayM s0 t y = 0) (pb : 0 < prC s0 noon t y ∧ prC s0 noon t y ≤ 576460752303423488) (hv : v = if prC s0 noon t y < s 55 0 t then prC s0 noon t y else s 55 0 t) (hl : l = if s 4 0 3 < popc y then popc y else s 4 0 3) (x44 : ∀ u x : Int, X 44 u x = if u = t ∧ x = y then prC s0 noon t y else s 44 u x) (x45 : ∀ u : Int, X 45 0 u = if u = t then zor (s 45 0 t) y else s 45 0 u) (x55 : ∀ u : Int, X 55 0 u = if u = t then v else s 55 0 u) (x4 : X 4 0 3 = l) (hT : Tab s0 noon y t s) : Tab s0 noon y (t + 1) X := by
  obtain ⟨a, b, c, d, e⟩ := hT
  have py := popc_b y0 y1
  obtain ⟨b1, b2⟩ := b t t0 t1
  obtain ⟨o0, o1, o2⟩ := zor_bi b1.1 b1.2 y0 y1
  obtain ⟨c1, c2, c3⟩ := c t t0 t1
  have hv2 : v ≤ s 55 0 t ∧ v ≤ prC s0 noon t y ∧ (v = prC s0 noon t y ∨ v = s 55 0 t) := by
    rw [hv]
    by_cases z : prC s0 noon t y < s 55 0 t
    · rw [if_pos z]; omega
    · rw [if_neg z]; omega
  have hl2 : s 4 0 3 ≤ l ∧ popc y ≤ l ∧ l ≤ 10 := by
    rw [hl]
    by_cases z : s 4 0 3 < popc y
    · rw [if_pos z]; omega
    · rw [if_neg z]; omega
  unfold Tab
  rw [x4]
  refine ⟨fun u x hx => ?_, fun u u0 u1 => ?_, fun u u0 u1 => ?_, by omega, fun u x hx h => ?_⟩
  · rw [x44 u x]
    by_cases z : u = t ∧ x = y
    · rw [if_pos z, z.1, z.2, if_pos hm]
    · rw [if_neg z]; exact a u x (dn_s hx z)
  · rw [x45 u]
    by_cases eu : u = t
    · rw [if_pos eu]
      refine ⟨⟨o0, o1⟩, fun x hx h q q0 hq => ?_⟩
      by_cases ex : x = y
      · rw [ex] at hq; exact (o2 q q0).mpr (Or.inr hq)
      · refine (o2 q q0).mpr (Or.inl (b2 x ?_ (by rw [← eu]; exact h) q q0 hq))
        rw [← eu]
        rw [← eu] at hx
        exact dn_s hx (fun z => ex z.2)
    · rw [if_neg eu]
      exact ⟨(b u u0 u1).1, fun x hx h => (b u u0 u1).2 x (dn_s hx (fun z => eu z.1)) h⟩
  · rw [x55 u]
    by_cases eu : u = t
    · rw [if_pos eu]
      refine ⟨by omega, fun hlt => ?_, fun x hx h => ?_⟩
      · rcases hv2.2.2 with z | z
        · omega
        · rw [z] at hlt ⊢; exact c2 hlt
      · by_cases ex : x = y
        · rw [ex, eu]; exact hv2.2.1
        · have := c3 x (by rw [← eu]; rw [← eu] at hx; exact dn_s hx (fun z => ex z.2)) (by rw [← eu]; exact h)
          rw [eu]
          omega
    · rw [if_neg eu]
      exact ⟨(c u u0 u1).1, (c u u0 u1).2.1, fun x hx h => (c u u0 u1).2.2 x (dn_s hx (fun z => eu z.1)) h⟩
  · by_cases z : u = t ∧ x = y
    · rw [z.2]; omega
    · have := e u x (dn_s hx z) h; omega
theorem lp28i {L : Nat} {s0 : zS} (hs : Inv L s0) (T H noon S y : Int) (hn : noon = 0 ∨ noon = 1) (eT0 : T = s0 11 0 1) (hT : 0 ≤ T ∧ T ≤ 5) (y0 : 0 < y) (y1 : y < 1024) (sB : zS) (eT : sB 6 0 3 = T) (e2 : sB 2 0 1 = popc y) (hR : ∀ s : zS, (∀ g : Nat, ¬ (g = 4 ∨ g = 44 ∨ g = 45 ∨ g = 55) → s g = sB g) → ∀ u : Int, 0 ≤ u → u < T → ∀ (m pc : Nat) (ls st : List zV) (fs : List zFr) (Q : List zV → zS → Prop), Ev ((52, 0, [zR 6 0, zR 8 u, zR 2 0], []) :: (m, pc, ls, st) :: fs) s Q = Ev ((m, pc, ls, zI (mayM s0 u y) :: st) :: fs) s Q) (hD : ∀ s : zS, (∀ g : Nat, ¬ (g = 4 ∨ g = 44 ∨ g = 45 ∨ g = 55) → s g = sB g) → ∀ u : Int, 0 ≤ u → u < T → noon = 0 → ∀ (m pc : Nat) (ls st : List zV) (fs : List zFr) (Q : List zV → zS → Prop), Ev ((29, 0, [zR 6 0, zI u, zI y], []) :: (m, pc, ls, st) :: fs) s Q = Ev ((m, pc, ls, zI (cC s0 noon u y) :: st) :: fs) s Q) (hN : ∀ s : zS, (∀ g : Nat, ¬ (g = 4 ∨ g = 44 ∨ g = 45 ∨ g = 55) → s g = sB g) → ∀ u : Int, 0 ≤ u → u < T → noon = 1 → ∀ (m pc : Nat) (ls st : List zV) (fs : List zFr) (Q : List zV → zS → Prop), Ev ((33, 0, [zR 6 0, zI u, zI (zand y S)], []) :: (m, pc, ls, st) :: fs) s Q = Ev ((m, pc, ls, zI (cC s0 noon u y) :: st) :: fs) s Q) : ∀ (k : Nat) (t : Int) (s : zS) (v8 v9 v10 v11 : zV), 0 ≤ t → t + k = T → (∀ g : Nat, ¬ (g = 4 ∨ g = 44 ∨ g = 45 ∨ g = 55) → s g = sB g) → Tab s0 noon y t s → ∃ (s1 : zS) (x8 x9 x10 x11 : zV), (∀ (F : List zFr) (Q : List zV → zS → Prop), Ev ((28, 56, [zR 4 0, zR 6 0, zI H, zI noon, zI S, zI y, zR 2 0, zI t, v8, v9, v10, v11], []) :: F) s Q = Ev ((28, 198, [zR 4 0, zR 6 0, zI H, zI noon, zI S, zI y, zR 2 0, zI T, x8, x9, x10, x11], []) :: F) s1 Q) ∧ (∀ g : Nat, ¬ (g = 4 ∨ g = 44 ∨ g = 45 ∨ g = 55) → s1 g = sB g) ∧ Tab s0 noon y T s1 := by
  intro k
  induction k with
  | zero =>
    intro t s v8 v9 v10 v11 t0 t1 hg hp
    have e1 : (T ≤ t) = True := eq_true (by omega)
    have et : t = T := by omega
    have e6 : s 6 = sB 6 := hg 6 (by omega)
    refine ⟨s, v8, v9, v10, v11, fun F Q => ?_, hg, by rw [← et]; exact hp⟩
    rw [r28_56]
    simp only [r28_58, r28_59, r28_62, e6, eT, e1, zclr_I, zclr_R, zclr_L, zclr_U, reduceIte, Int.reduceEq, Int.reduceLT, Int.reduceLE, Int.reduceNeg, not_true_eq_false, not_false_eq_true, or_true, true_or, or_false, false_or, and_true, true_and, and_false, false_and, z01_or]
    rw [et]
  | succ k ih =>
    intro t s v8 v9 v10 v11 t0 t1 hg hp
    have e1 : (T ≤ t) = False := eq_false (by omega)
    have e6 : s 6 = sB 6 := hg 6 (by omega)
    have e21 : s 2 0 1 = popc y := by rw [hg 2 (by omega)]; exact e2
    have bt : (0 ≤ t ∧ t < 5) = True := eq_true (by omega)
    have bx : (0 ≤ y ∧ y < 1024) = True := eq_true (by omega)
    have w1 : w32 (t + 1) = t + 1 := w32_id (by omega) (by omega)
    have kR := hR s hg t t0 (by omega)
    have tB := TeB_I hs t0 (show t < s0 11 0 1 by omega)
    have pb := prC_b (noon := noon) tB (StB_I hs) (show 0 ≤ y by omega) y1
    by_cases hm : mayM s0 t y = 0
    · have hm' : (mayM s0 t y = 0) = True := eq_true hm
      have w5 := prC_w (noon := noon) tB (StB_I hs) (show 0 ≤ y by omega) y1 t0 (by omega)
      have run : ∃ v l : Int, (v = if prC s0 noon t y < s 55 0 t then prC s0 noon t y else s 55 0 t) ∧ (l = if s 4 0 3 < popc y then popc y else s 4 0 3) ∧ ∀ (F : List zFr) (Q : List zV → zS → Prop), Ev ((28, 56, [zR 4 0, zR 6 0, zI H, zI noon, zI S, zI y, zR 2 0, zI t, v8, v9, v10, v11], []) :: F) s Q = Ev ((28, 56, [zR 4 0, zR 6 0, zI H, zI noon, zI S, zI y, zR 2 0, zI (t + 1), zL (prC s0 noon t y), zU, zL (cC s0 noon t y), zU], []) :: F) (zup (zup (zup (zup s 45 0 t (zor (s 45 0 t) y)) 55 0 t v) 4 0 3 l) 44 t y (prC s0 noon t y)) Q := by
        refine ⟨_, _, rfl, rfl, fun F Q => ?_⟩
        rcases hn with rfl | rfl
        · have kD := hD s hg t t0 (by omega) rfl
          rw [r28_56]
          simp only [r28_58, r28_59, r28_62, r28_65, r28_68, r28_70, r28_71, r28_72, r28_75, r28_77, r28_78, r28_80, r28_83, r28_86, r28_87, r28_90, r28_91, r28_93, r28_95, r28_97, r28_98, r28_101, r28_102, r28_105, r28_106, r28_108, r28_110, r28_113, r28_114, r28_116, r28_118, r28_120, r28_121, r28_123, r28_124, r28_126, r28_129, r28_130, r28_131, r28_133, r28_134, r28_137, r28_139, r28_140, r28_141, r28_143, r28_144, r28_145, r28_146, r28_149, r28_151, r28_152, r28_155, r28_157, r28_158, r28_160, r28_163, r28_164, r28_165, r28_166, r28_169, r28_171, r28_174, r28_177, r28_180, r28_181, r28_184, r28_186, r28_187, r28_189, r28_191, r28_192, r28_195, kR, kD, k_tie t t0 (show t < 5 by omega), e6, eT, e1, e21, bt, bx, hm', w1, w5, zup_g, Nat.reduceEqDiff, zak_40, zln_40, zak_41, zln_41, zak_42, zln_42, zak_43, zln_43, zak_44, zln_44, zak_45, zln_45, zak_46, zln_46, zak_47, zln_47, zak_48, zln_48, zak_49, zln_49, zak_50, zln_50, zak_51, zln_51, zak_52, zln_52, zak_53, zln_53, zak_54, zln_54, zak_55, zln_55, zak_73, zln_73, zak_74, zln_74, zak_75, zln_75, zak_76, zln_76, zak_77, zln_77, zak_78, zln_78, zak_79, zln_79, zak_80, zln_80, zak_81, zln_81, zak_82, zln_82, zak_83, zln_83, zak_84, zln_84, zak_85, zln_85, zak_86, zln_86, zak_87, zln_87, zak_88, zln_88, zak_89, zln_89, zak_90, zln_90, zak_91, zln_91, zak_92, zln_92, zak_93, zln_93, zak_94, zln_94, zak_95, zln_95, zak_96, zln_96, zak_97, zln_97, zak_98, zln_98, zak_99, zln_99, zak_100, zln_100, zak_101, zln_101, zak_102, zln_102, zak_103, zln_103, zak_104, zln_104, zak_105, zln_105, zak_108, zln_108, zak_109, zln_109, Nat.reduceLeDiff, zclr_I, zclr_R, zclr_L, zclr_U, reduceIte, Int.reduceEq, Int.reduceLT, Int.reduceLE, Int.reduceNeg, not_true_eq_false, not_false_eq_true, or_true, true_or, or_false, false_or, and_true, true_and, and_false, false_and, z01_or]
        · have kN := hN s hg t t0 (by omega) rfl
          rw [r28_56]
          simp only [r28_58, r28_59, r28_62, r28_65, r28_68, r28_70, r28_71, r28_72, r28_75, r28_77, r28_78, r28_80, r28_83, r28_86, r28_87, r28_90, r28_91, r28_93, r28_95, r28_97, r28_98, r28_101, r28_102, r28_105, r28_106, r28_108, r28_110, r28_113, r28_114, r28_116, r28_118, r28_120, r28_121, r28_123, r28_124, r28_126, r28_129, r28_130, r28_131, r28_133, r28_134, r28_137, r28_139, r28_140, r28_141, r28_143, r28_144, r28_145, r28_146, r28_149, r28_151, r28_152, r28_155, r28_157, r28_158, r28_160, r28_163, r28_164, r28_165, r28_166, r28_169, r28_171, r28_174, r28_177, r28_180, r28_181, r28_184, r28_186, r28_187, r28_189, r28_191, r28_192, r28_195, kR, kN, k_tie t t0 (show t < 5 by omega), e6, eT, e1, e21, bt, bx, hm', w1, w5, zup_g, Nat.reduceEqDiff, zak_40, zln_40, zak_41, zln_41, zak_42, zln_42, zak_43, zln_43, zak_44, zln_44, zak_45, zln_45, zak_46, zln_46, zak_47, zln_47, zak_48, zln_48, zak_49, zln_49, zak_50, zln_50, zak_51, zln_51, zak_52, zln_52, zak_53, zln_53, zak_54, zln_54, zak_55, zln_55, zak_73, zln_73, zak_74, zln_74, zak_75, zln_75, zak_76, zln_76, zak_77, zln_77, zak_78, zln_78, zak_79, zln_79, zak_80, zln_80, zak_81, zln_81, zak_82, zln_82, zak_83, zln_83, zak_84, zln_84, zak_85, zln_85, zak_86, zln_86, zak_87, zln_87, zak_88, zln_88, zak_89, zln_89, zak_90, zln_90, zak_91, zln_91, zak_92, zln_92, zak_93, zln_93, zak_94, zln_94, zak_95, zln_95, zak_96, zln_96, zak_97, zln_97, zak_98, zln_98, zak_99, zln_99, zak_100, zln_100, zak_101, zln_101, zak_102, zln_102, zak_103, zln_103, zak_104, zln_104, zak_105, zln_105, zak_108, zln_108, zak_109, zln_109, Nat.reduceLeDiff, zclr_I, zclr_R, zclr_L, zclr_U, reduceIte, Int.reduceEq, Int.reduceLT, Int.reduceLE, Int.reduceNeg, not_true_eq_false, not_false_eq_true, or_true, true_or, or_false, false_or, and_true, true_and, and_false, false_and, z01_or]
      obtain ⟨v, l, hv, hl, run⟩ := run
      have g44 : ∀ u x : Int, zup (zup (zup (zup s 45 0 t (zor (s 45 0 t) y)) 55 0 t v) 4 0 3 l) 44 t y (prC s0 noon t y) 44 u x = if u = t ∧ x = y then prC s0 noon t y else s 44 u x := by
        intro u x
        by_cases eu : u = t ∧ x = y
        · rw [if_pos eu, eu.1, eu.2, zup_eq]
        · rw [if_neg eu]
          by_cases e3 : u = t
          · rw [zup_nk (fun z => eu ⟨e3, z⟩), zup_ng (by omega), zup_ng (by omega), zup_ng (by omega)]
          · rw [zup_ni e3, zup_ng (by omega), zup_ng (by omega), zup_ng (by omega)]
      have g45 : ∀ u : Int, zup (zup (zup (zup s 45 0 t (zor (s 45 0 t) y)) 55 0 t v) 4 0 3 l) 44 t y (prC s0 noon t y) 45 0 u = if u = t then zor (s 45 0 t) y else s 45 0 u := by
        intro u
        rw [zup_ng (by omega), zup_ng (by omega), zup_ng (by omega)]
        by_cases eu : u = t
        · rw [if_pos eu, eu, zup_eq]
        · rw [if_neg eu, zup_nk eu]
      have g55 : ∀ u : Int, zup (zup (zup (zup s 45 0 t (zor (s 45 0 t) y)) 55 0 t v) 4 0 3 l) 44 t y (prC s0 noon t y) 55 0 u = if u = t then v else s 55 0 u := by
        intro u
        rw [zup_ng (by omega), zup_ng (by omega)]
        by_cases eu : u = t
        · rw [if_pos eu, eu, zup_eq]
        · rw [if_neg eu, zup_nk eu, zup_ng (by omega)]
      have g4 : zup (zup (zup (zup s 45 0 t (zor (s 45 0 t) y)) 55 0 t v) 4 0 3 l) 44 t y (prC s0 noon t y) 4 0 3 = l := by rw [zup_ng (by omega), zup_eq]
      have gg : ∀ g : Nat, ¬ (g = 4 ∨ g = 44 ∨ g = 45 ∨ g = 55) → zup (zup (zup (zup s 45 0 t (zor (s 45 0 t) y)) 55 0 t v) 4 0 3 l) 44 t y (prC s0 noon t y) g = sB g := by
        intro g hh
        rw [zup_ng (by omega), zup_ng (by omega), zup_ng (by omega), zup_ng (by omega), hg g hh]
      have hp1 := tab_b t0 (show t < s0 11 0 1 by omega) (show 0 ≤ y by omega) y1 hm pb hv hl g44 g45 g55 g4 hp
      generalize zup (zup (zup (zup s 45 0 t (zor (s 45 0 t) y)) 55 0 t v) 4 0 3 l) 44 t y (prC s0 noon t y) = X at *
      obtain ⟨s1, x8, x9, x10, x11, c1, c2, c3⟩ := ih (t + 1) X (zL (prC s0 noon t y)) zU (zL (cC s0 noon t y)) zU (by omega) (by omega) gg hp1
      exact ⟨s1, x8, x9, x10, x11, fun F Q => by rw [run, c1], c2, c3⟩
    · have hm' : (mayM s0 t y = 0) = False := eq_false hm
      have run : ∀ (F : List zFr) (Q : List zV → zS → Prop), Ev ((28, 56, [zR 4 0, zR 6 0, zI H, zI noon, zI S, zI y, zR 2 0, zI t, v8, v9, v10, v11], []) :: F) s Q = Ev ((28, 56, [zR 4 0, zR 6 0, zI H, zI noon, zI S, zI y, zR 2 0, zI (t + 1), zL 2305843009213693952, zU, v10, v11], []) :: F) (zup s 44 t y 2305843009213693952) Q := by
        intro F Q
        rw [r28_56]
        simp only [r28_58, r28_59, r28_62, r28_65, r28_68, r28_70, r28_71, r28_72, r28_75, r28_77, r28_78, r28_80, r28_83, r28_180, r28_181, r28_184, r28_186, r28_187, r28_189, r28_191, r28_192, r28_195, kR, e6, eT, e1, bt, bx, hm', w1, zak_40, zln_40, zak_41, zln_41, zak_42, zln_42, zak_43, zln_43, zak_44, zln_44, zak_45, zln_45, zak_46, zln_46, zak_47, zln_47, zak_48, zln_48, zak_49, zln_49, zak_50, zln_50, zak_51, zln_51, zak_52, zln_52, zak_53, zln_53, zak_54, zln_54, zak_55, zln_55, zak_73, zln_73, zak_74, zln_74, zak_75, zln_75, zak_76, zln_76, zak_77, zln_77, zak_78, zln_78, zak_79, zln_79, zak_80, zln_80, zak_81, zln_81, zak_82, zln_82, zak_83, zln_83, zak_84, zln_84, zak_85, zln_85, zak_86, zln_86, zak_87, zln_87, zak_88, zln_88, zak_89, zln_89, zak_90, zln_90, zak_91, zln_91, zak_92, zln_92, zak_93, zln_93, zak_94, zln_94, zak_95, zln_95, zak_96, zln_96, zak_97, zln_97, zak_98, zln_98, zak_99, zln_99, zak_100, zln_100, zak_101, zln_101, zak_102, zln_102, zak_103, zln_103, zak_104, zln_104, zak_105, zln_105, zak_108, zln_108, zak_109, zln_109, Nat.reduceLeDiff, zclr_I, zclr_R, zclr_L, zclr_U, reduceIte, Int.reduceEq, Int.reduceLT, Int.reduceLE, Int.reduceNeg, not_true_eq_false, not_false_eq_true, or_true, true_or, or_false, false_or, and_true, true_and, and_false, false_and, z01_or]
      have g44 : ∀ u x : Int, zup s 44 t y 2305843009213693952 44 u x = if u = t ∧ x = y then 2305843009213693952 else s 44 u x := by
        intro u x
        by_cases eu : u = t ∧ x = y
        · rw [if_pos eu, eu.1, eu.2, zup_eq]
        · rw [if_neg eu]
          by_cases e3 : u = t
          · rw [zup_nk (fun z => eu ⟨e3, z⟩)]
          · rw [zup_ni e3]
      have gg : ∀ g : Nat, ¬ (g = 4 ∨ g = 44 ∨ g = 45 ∨ g = 55) → zup s 44 t y 2305843009213693952 g = sB g := by
        intro g hh
        rw [zup_ng (by omega), hg g hh]
      have hp1 := tab_a (s := s) (X := zup s 44 t y 2305843009213693952) hm g44 (zup_ng (by omega)) (zup_ng (by omega)) (zup_ng (by omega)) hp
      generalize zup s 44 t y 2305843009213693952 = X at *
      obtain ⟨s1, x8, x9, x10, x11, c1, c2, c3⟩ := ih (t + 1) X (zL 2305843009213693952) zU v10 v11 (by omega) (by omega) gg hp1
      exact ⟨s1, x8, x9, x10, x11, fun F Q => by rw [run, c1], c2, c3⟩
theorem lp28 {L : Nat} {s0 : zS} (hs : Inv L s0) (noon S : Int) (hn : noon = 0 ∨ noon = 1) (hSt : noon = 1 → S = stl s0) : ∀ (n : Nat) (y : Int) (s : zS) (v6 v7 v8 v9 v10 v11 : zV), y ≤ n → 0 ≤ y → SubB y (s0 6 0 4) → (∀ g : Nat, ¬ (g = 2 ∨ g = 4 ∨ g = 44 ∨ g = 45 ∨ g = 55) → s g = s0 g) → Tab s0 noon y 0 s → ∃ (s1 : zS) (x6 x7 x8 x9 x10 x11 : zV), (∀ (F : List zFr) (Q : List zV → zS → Prop), Ev ((28, 40, [zR 4 0, zR 6 0, zI (s0 6 0 4), zI noon, zI S, zI y, v6, v7, v8, v9, v10, v11], []) :: F) s Q = Ev ((28, 209, [zR 4 0, zR 6 0, zI (s0 6 0 4), zI noon, zI S, zI 0, x6, x7, x8, x9, x10, x11], []) :: F) s1 Q) ∧ (∀ g : Nat, ¬ (g = 2 ∨ g = 4 ∨ g = 44 ∨ g = 45 ∨ g = 55) → s1 g = s0 g) ∧ Tab s0 noon 0 0 s1 := by
  obtain ⟨h1, h2, h3, h4, h5, h6, h7, h8, h9, h10, h11, h12, h13, h14, h15, h16⟩ := id hs
  obtain ⟨H0, H1, -⟩ := id h14
  have eT := h5.1
  have h50 := h5.2
  have eP := h4.1
  have h40 := h4.2
  have done : ∀ (y : Int) (s : zS) (v6 v7 v8 v9 v10 v11 : zV), y = 0 → ∀ (F : List zFr) (Q : List zV → zS → Prop), Ev ((28, 40, [zR 4 0, zR 6 0, zI (s0 6 0 4), zI noon, zI S, zI y, v6, v7, v8, v9, v10, v11], []) :: F) s Q = Ev ((28, 209, [zR 4 0, zR 6 0, zI (s0 6 0 4), zI noon, zI S, zI 0, v6, v7, v8, v9, v10, v11], []) :: F) s Q := by
    intro y s v6 v7 v8 v9 v10 v11 hy F Q
    have e1 : ((0 : Int) ≤ 0) = True := eq_true (by omega)
    rw [hy, r28_40]
    simp only [r28_42, e1, zclr_I, zclr_R, zclr_L, zclr_U, reduceIte, Int.reduceEq, Int.reduceLT, Int.reduceLE, Int.reduceNeg, not_true_eq_false, not_false_eq_true, or_true, true_or, or_false, false_or, and_true, true_and, and_false, false_and, z01_or]
  intro n
  induction n with
  | zero =>
    intro y s v6 v7 v8 v9 v10 v11 hn0 y0 hy hg hp
    have ey : y = 0 := by omega
    exact ⟨s, v6, v7, v8, v9, v10, v11, done y s v6 v7 v8 v9 v10 v11 ey, hg, by rw [ey] at hp; exact hp⟩
  | succ n ih =>
    intro y s v6 v7 v8 v9 v10 v11 hn0 y0 hy hg hp
    by_cases hy0 : y ≤ 0
    · have ey : y = 0 := by omega
      exact ⟨s, v6, v7, v8, v9, v10, v11, done y s v6 v7 v8 v9 v10 v11 ey, hg, by rw [ey] at hp; exact hp⟩
    · have e1 : (y ≤ 0) = False := eq_false hy0
      have yH := SubB_le y0 H0 hy
      have S0 : Sm s0 s := fun g hh => hg g (by unfold Scr at hh; omega)
      have hsI : Inv L s := Inv_Sm S0 hs
      have g6 : s 6 = s0 6 := hg 6 (by omega)
      have g5 : s 5 = s0 5 := hg 5 (by omega)
      have g8 : s 8 = s0 8 := hg 8 (by omega)
      have g11 : s 11 = s0 11 := hg 11 (by omega)
      have g108 : s 108 = s0 108 := hg 108 (by omega)
      have g109 : s 109 = s0 109 := hg 109 (by omega)
      obtain ⟨sG, k1, k2⟩ := k_gather y (by omega) (by omega) s (by rw [g6]; omega) (by rw [g6]; omega) (by rw [g108, g109]; exact h2) (by rw [g6, g5]; intro p p0 p1; have := (h12 p p0 (by omega)).1; omega)
      have k3 := k2.1
      have eM : ∀ u : Int, mayM s u y = mayM s0 u y := fun u => mayM_c u y (fun g hh => hg g (by omega))
      obtain ⟨ag1, ag2, ag3, ag4, ag5, ag6⟩ := age_b hsI (show 0 < y by omega) (by rw [g11]; exact hereP hs hy)
      have f6 : ∀ s' : zS, (∀ g : Nat, ¬ (g = 4 ∨ g = 44 ∨ g = 45 ∨ g = 55) → s' g = sG g) → s' 6 = s0 6 := fun s' hs' => by rw [hs' 6 (by omega), k3 6 (by omega), g6]
      have f8 : ∀ s' : zS, (∀ g : Nat, ¬ (g = 4 ∨ g = 44 ∨ g = 45 ∨ g = 55) → s' g = sG g) → s' 8 = s0 8 := fun s' hs' => by rw [hs' 8 (by omega), k3 8 (by omega), g8]
      have tB : ∀ s' : zS, (∀ g : Nat, ¬ (g = 4 ∨ g = 44 ∨ g = 45 ∨ g = 55) → s' g = sG g) → ∀ u : Int, 0 ≤ u → u < s0 11 0 1 → TeB s' u := fun s' hs' u u0 u1 => by
        have := TeB_I hs u0 u1
        unfold TeB at this ⊢
        rw [f6 s' hs', f8 s' hs']; exact this
      have eS : ∀ s' : zS, (∀ g : Nat, ¬ (g = 4 ∨ g = 44 ∨ g = 45 ∨ g = 55) → s' g = sG g) → stl s' = stl s0 := fun s' hs' => by
        unfold stl
        rw [f6 s' hs', f8 s' hs']
      have eC : ∀ s' : zS, (∀ g : Nat, ¬ (g = 4 ∨ g = 44 ∨ g = 45 ∨ g = 55) → s' g = sG g) → ∀ u : Int, cC s' noon u y = cC s0 noon u y := fun s' hs' u => by
        unfold cC wC mC
        rw [eS s' hs', f6 s' hs', f8 s' hs']
      obtain ⟨sN, w8, w9, w10, w11, c1, c2, c3⟩ := lp28i hs (s0 11 0 1) (s0 6 0 4) noon S y hn rfl h50 (by omega) (by omega) sG (by rw [k3 6 (by omega), g6]; exact eT) k2.2.2.1 (fun s' hs' u u0 u1 m pc ls st fs Q => by
          have f2 : s' 2 = sG 2 := hs' 2 (by omega)
          have er := rs_eq (s' := s') (t := u) hsI k2 (show 0 < y by omega) (show y < 1024 by omega) (by rw [g11]; exact hereP hs hy) u0 (by rw [g11]; exact u1) f2 (by rw [f6 s' hs', g6]) (by rw [f8 s' hs', g8])
          rw [eM u] at er
          have tk := (h15 u u0 u1).1
          rw [k_reason (by rw [hs' 108 (by omega), hs' 109 (by omega), k3 108 (by omega), k3 109 (by omega), g108, g109]; exact h2) u (by rw [f8 s' hs']; omega) (by rw [f2, k2.2.2.2.2.2.1, k2.2.2.2.2.2.2.1, ← ag1, ← ag2]; omega), er]) (fun s' hs' u u0 u1 e0 m pc ls st fs Q => by
          have := eC s' hs' u
          subst e0
          rw [k_dayCost u y u0 (by omega) (tB s' hs' u u0 u1) y0 (by omega), this]) (fun s' hs' u u0 u1 e0 m pc ls st fs Q => by
          have := eC s' hs' u
          rw [hSt e0, ← eS s' hs']
          subst e0
          rw [k_noonCost u y u0 (by omega) (tB s' hs' u u0 u1) (by have := StB_I hs; unfold StB at this ⊢; rw [eS s' hs']; exact this) y0 (by omega), this]) (s0 11 0 1).toNat 0 sG v8 v9 v10 v11 (by omega) (by omega) (fun _ _ => rfl) (Tab_s (k3 44 (by omega)) (k3 45 (by omega)) (k3 55 (by omega)) (k3 4 (by omega)) hp)
      obtain ⟨x0, x1, x2, x3⟩ := sub_next H0 H1 (show 0 < y by omega) hy
      have w2 : w32 (y - 1) = y - 1 := w32_id (by omega) (by omega)
      obtain ⟨s1, y6, y7, y8, y9, y10, y11, d1, d2, d3⟩ := ih (zand (y - 1) (s0 6 0 4)) sN (zR 2 0) (zI (s0 11 0 1)) w8 w9 w10 w11 (by omega) x0 x2 (fun g hh => by rw [c2 g (by omega), k3 g (by omega), hg g hh]) (Tab_c (fun u x hx => ⟨hx.1, hx.2.1, by
        have hx1 := hx.1
        have hx2 := hx.2.2
        have hx3 := x3 x (by have := hx.2.1.1; omega) hx.2.1.2
        by_cases e : x < y
        · have := hx3 e; omega
        · omega⟩) c3)
      refine ⟨s1, y6, y7, y8, y9, y10, y11, fun F Q => ?_, d2, d3⟩
      rw [r28_40]
      simp only [r28_42, r28_45, r28_46, e1, zclr_I, zclr_R, zclr_L, zclr_U, reduceIte, Int.reduceEq, Int.reduceLT, Int.reduceLE, Int.reduceNeg, not_true_eq_false, not_false_eq_true, or_true, true_or, or_false, false_or, and_true, true_and, and_false, false_and, z01_or]
      rw [r28_48, k1]
      simp only [r28_51, r28_53, r28_54, zclr_I, zclr_R, zclr_L, zclr_U, reduceIte, Int.reduceEq, Int.reduceLT, Int.reduceLE, Int.reduceNeg, not_true_eq_false, not_false_eq_true, or_true, true_or, or_false, false_or, and_true, true_and, and_false, false_and, z01_or]
      rw [c1]
      simp only [r28_198, r28_200, r28_201, r28_202, r28_203, r28_204, r28_206, w2, zclr_I, zclr_R, zclr_L, zclr_U, reduceIte, Int.reduceEq, Int.reduceLT, Int.reduceLE, Int.reduceNeg, not_true_eq_false, not_false_eq_true, or_true, true_or, or_false, false_or, and_true, true_and, and_false, false_and, z01_or]
      exact d1 F Q
/-- least of those up to t -/
def PM (c : Int → Int) (t v : Int) : Prop := (∀ u : Int, 0 ≤ u → u ≤ t → v ≤ c u) ∧ ∃ u : Int, 0 ≤ u ∧ u ≤ t ∧ v = c u
theorem lp28m (c : Int → Int) (v1 v2 v3 v4 v6 v7 v8 v9 v10 v11 : zV) (w4 : zclr v4 = v4) : ∀ (k : Nat) (t : Int) (s : zS), 1 ≤ t → t + k = 5 → (∀ u : Int, 0 ≤ u → u < t → PM c u (s 55 0 u)) → (∀ u : Int, t ≤ u → s 55 0 u = c u) → ∃ s1 : zS, (∀ (m pc : Nat) (ls st : List zV) (fs : List zFr) (Q : List zV → zS → Prop), Ev ((28, 212, [zR 4 0, v1, v2, v3, v4, zI t, v6, v7, v8, v9, v10, v11], []) :: (m, pc, ls, st) :: fs) s Q = Ev ((m, pc, ls, st) :: fs) s1 Q) ∧ (∀ g : Nat, ¬ g = 55 → s1 g = s g) ∧ ∀ u : Int, 0 ≤ u → u < 5 → PM c u (s1 55 0 u) := by
  intro k
  induction k with
  | zero =>
    intro t s t0 t1 hp hq
    have e1 : ((5 : Int) ≤ t) = True := eq_true (by omega)
    refine ⟨s, fun m pc ls st fs Q => ?_, fun _ _ => rfl, fun u u0 u1 => hp u u0 (by omega)⟩
    rw [r28_212]
    simp only [r28_214, r28_215, r28_250, e1, zclr_I, zclr_R, zclr_L, zclr_U, reduceIte, Int.reduceEq, Int.reduceLT, Int.reduceLE, Int.reduceNeg, not_true_eq_false, not_false_eq_true, or_true, true_or, or_false, false_or, and_true, true_and, and_false, false_and, z01_or]
  | succ k ih =>
    intro t s t0 t1 hp hq
    have e1 : ((5 : Int) ≤ t) = False := eq_false (by omega)
    have bt : (0 ≤ t ∧ t < 5) = True := eq_true (by omega)
    have bt2 : (0 ≤ t - 1 ∧ t - 1 < 5) = True := eq_true (by omega)
    have w1 : w32 (t + 1) = t + 1 := w32_id (by omega) (by omega)
    have w2 : w32 (t - 1) = t - 1 := w32_id (by omega) (by omega)
    have run : ∃ v : Int, (v = if s 55 0 (t - 1) < s 55 0 t then s 55 0 (t - 1) else s 55 0 t) ∧ ∀ (F : List zFr) (Q : List zV → zS → Prop), Ev ((28, 212, [zR 4 0, v1, v2, v3, v4, zI t, v6, v7, v8, v9, v10, v11], []) :: F) s Q = Ev ((28, 212, [zR 4 0, v1, v2, v3, v4, zI (t + 1), v6, v7, v8, v9, v10, v11], []) :: F) (zup s 55 0 t v) Q := by
      refine ⟨_, rfl, fun F Q => ?_⟩
      rw [r28_212]
      simp only [r28_214, r28_215, r28_218, r28_219, r28_222, r28_224, r28_225, r28_228, r28_230, r28_231, r28_232, r28_235, r28_237, r28_238, r28_239, r28_240, r28_243, r28_244, r28_247, e1, bt, bt2, w1, w2, w4, zak_40, zln_40, zak_41, zln_41, zak_42, zln_42, zak_43, zln_43, zak_44, zln_44, zak_45, zln_45, zak_46, zln_46, zak_47, zln_47, zak_48, zln_48, zak_49, zln_49, zak_50, zln_50, zak_51, zln_51, zak_52, zln_52, zak_53, zln_53, zak_54, zln_54, zak_55, zln_55, zak_73, zln_73, zak_74, zln_74, zak_75, zln_75, zak_76, zln_76, zak_77, zln_77, zak_78, zln_78, zak_79, zln_79, zak_80, zln_80, zak_81, zln_81, zak_82, zln_82, zak_83, zln_83, zak_84, zln_84, zak_85, zln_85, zak_86, zln_86, zak_87, zln_87, zak_88, zln_88, zak_89, zln_89, zak_90, zln_90, zak_91, zln_91, zak_92, zln_92, zak_93, zln_93, zak_94, zln_94, zak_95, zln_95, zak_96, zln_96, zak_97, zln_97, zak_98, zln_98, zak_99, zln_99, zak_100, zln_100, zak_101, zln_101, zak_102, zln_102, zak_103, zln_103, zak_104, zln_104, zak_105, zln_105, zak_108, zln_108, zak_109, zln_109, Nat.reduceLeDiff, zclr_I, zclr_R, zclr_L, zclr_U, reduceIte, Int.reduceEq, Int.reduceLT, Int.reduceLE, Int.reduceNeg, not_true_eq_false, not_false_eq_true, or_true, true_or, or_false, false_or, and_true, true_and, and_false, false_and, z01_or]
    obtain ⟨v, hv, run⟩ := run
    have hpv : PM c t v := by
      obtain ⟨a1, u, a2, a3, a4⟩ := hp (t - 1) (by omega) (by omega)
      have b := hq t (Int.le_refl _)
      rw [hv]
      by_cases z : s 55 0 (t - 1) < s 55 0 t
      · rw [if_pos z]
        refine ⟨fun w w0 w1 => ?_, u, a2, by omega, a4⟩
        by_cases e : w = t
        · rw [e, ← b]; omega
        · exact a1 w w0 (by omega)
      · rw [if_neg z]
        refine ⟨fun w w0 w1 => ?_, t, by omega, Int.le_refl _, b⟩
        by_cases e : w = t
        · rw [e, ← b]; exact Int.le_refl _
        · have := a1 w w0 (by omega); omega
    obtain ⟨s1, c1, c2, c3⟩ := ih (t + 1) (zup s 55 0 t v) (by omega) (by omega) (fun u u0 u1 => by
      by_cases e : u = t
      · rw [e, zup_eq]; exact hpv
      · rw [zup_nk e]; exact hp u u0 (by omega)) (fun u u0 => by rw [zup_nk (by omega)]; exact hq u (by omega))
    exact ⟨s1, fun m pc ls st fs Q => by rw [run, c1], fun g hg => by rw [c2 g hg, zup_ng hg], c3⟩
theorem k_price {L : Nat} {s : zS} (hs : Inv L s) (noon : Int) (hn : noon = 0 ∨ noon = 1) : ∃ sP : zS, (∀ (m pc : Nat) (ls st : List zV) (fs : List zFr) (Q : List zV → zS → Prop), Ev ((28, 0, [zR 4 0, zR 6 0, zI (s 6 0 4), zI noon, zU, zU, zU, zU, zU, zU, zU, zU], []) :: (m, pc, ls, st) :: fs) s Q = Ev ((m, pc, ls, st) :: fs) sP Q) ∧ PTb (okS s) (prC s noon) (s 11 0 1) (s 6 0 4) sP ∧ ∀ g : Nat, ¬ (g = 2 ∨ g = 4 ∨ g = 44 ∨ g = 45 ∨ g = 55) → sP g = s g := by
  obtain ⟨h1, h2, h3, h4, h5, h6, h7, h8, h9, h10, h11, h12, h13, h14, h15, h16⟩ := id hs
  obtain ⟨H0, H1, -⟩ := id h14
  have h50 := h5.2
  have x4 : zup (zfl (zfl s 45 0 0 5 0) 55 0 0 5 2305843009213693952) 4 0 3 0 4 0 3 = 0 := zup_eq _ _ _ _ _
  have x45 : ∀ u : Int, 0 ≤ u → u < 5 → zup (zfl (zfl s 45 0 0 5 0) 55 0 0 5 2305843009213693952) 4 0 3 0 45 0 u = 0 := fun u u0 u1 => by rw [zup_ng (by omega), zfl_ng (by omega), zfl_in u0 u1]
  have x55 : ∀ u : Int, 0 ≤ u → u < 5 → zup (zfl (zfl s 45 0 0 5 0) 55 0 0 5 2305843009213693952) 4 0 3 0 55 0 u = 2305843009213693952 := fun u u0 u1 => by rw [zup_ng (by omega), zfl_in u0 u1]
  have xg : ∀ g : Nat, ¬ (g = 2 ∨ g = 4 ∨ g = 44 ∨ g = 45 ∨ g = 55) → zup (zfl (zfl s 45 0 0 5 0) 55 0 0 5 2305843009213693952) 4 0 3 0 g = s g := fun g hg => by rw [zup_ng (by omega), zfl_ng (by omega), zfl_ng (by omega)]
  have first : ∃ S : Int, (noon = 1 → S = stl s) ∧ ∀ (m pc : Nat) (ls st : List zV) (fs : List zFr) (Q : List zV → zS → Prop), Ev ((28, 0, [zR 4 0, zR 6 0, zI (s 6 0 4), zI noon, zU, zU, zU, zU, zU, zU, zU, zU], []) :: (m, pc, ls, st) :: fs) s Q = Ev ((28, 40, [zR 4 0, zR 6 0, zI (s 6 0 4), zI noon, zI S, zI (s 6 0 4), zU, zU, zU, zU, zU, zU], []) :: (m, pc, ls, st) :: fs) (zup (zfl (zfl s 45 0 0 5 0) 55 0 0 5 2305843009213693952) 4 0 3 0) Q := by
    have fill : ∀ (m pc : Nat) (ls st : List zV) (fs : List zFr) (Q : List zV → zS → Prop), Ev ((28, 0, [zR 4 0, zR 6 0, zI (s 6 0 4), zI noon, zU, zU, zU, zU, zU, zU, zU, zU], []) :: (m, pc, ls, st) :: fs) s Q = Ev ((28, 18, [zR 4 0, zR 6 0, zI (s 6 0 4), zI noon, zU, zU, zU, zU, zU, zU, zU, zU], []) :: (m, pc, ls, st) :: fs) (zfl (zfl s 45 0 0 5 0) 55 0 0 5 2305843009213693952) Q := by
      intro m pc ls st fs Q
      simp only [r28_0, r28_1, r28_4, zclr_I, zclr_R, zclr_L, zclr_U, reduceIte, Int.reduceEq, Int.reduceLT, Int.reduceLE, Int.reduceNeg, not_true_eq_false, not_false_eq_true, or_true, true_or, or_false, false_or, and_true, true_and, and_false, false_and, z01_or]
      rw [r28_5, k_fill 45 0 5 0 zU zU s zak_45 (by omega) zln_45 (by omega) (by omega)]
      simp only [r28_8, r28_9, r28_12, zclr_I, zclr_R, zclr_L, zclr_U, reduceIte, Int.reduceEq, Int.reduceLT, Int.reduceLE, Int.reduceNeg, not_true_eq_false, not_false_eq_true, or_true, true_or, or_false, false_or, and_true, true_and, and_false, false_and, z01_or]
      rw [r28_15, k_fillL 55 0 5 _ zU zU _ zak_55 zln_55 (by omega) (by omega)]
    rcases hn with rfl | rfl
    · refine ⟨0, fun z => by omega, fun m pc ls st fs Q => ?_⟩
      rw [fill]
      simp only [r28_18, r28_19, r28_20, r28_23, r28_24, r28_34, r28_35, r28_37, r28_38, zclr_I, zclr_R, zclr_L, zclr_U, reduceIte, Int.reduceEq, Int.reduceLT, Int.reduceLE, Int.reduceNeg, not_true_eq_false, not_false_eq_true, or_true, true_or, or_false, false_or, and_true, true_and, and_false, false_and, z01_or]
    · refine ⟨stl s, fun _ => rfl, fun m pc ls st fs Q => ?_⟩
      obtain ⟨a, b⟩ := Te5_I hs
      have e6 := xg 6 (by omega)
      have e8 := xg 8 (by omega)
      have eS : stl (zup (zfl (zfl s 45 0 0 5 0) 55 0 0 5 2305843009213693952) 4 0 3 0) = stl s := by
        unfold stl
        rw [e6, e8]
      rw [fill]
      simp only [r28_18, r28_19, r28_20, r28_23, r28_24, r28_27, zclr_I, zclr_R, zclr_L, zclr_U, reduceIte, Int.reduceEq, Int.reduceLT, Int.reduceLE, Int.reduceNeg, not_true_eq_false, not_false_eq_true, or_true, true_or, or_false, false_or, and_true, true_and, and_false, false_and, z01_or]
      rw [r28_28, k_settled (by rw [e6]; omega) (by rw [e6]; omega) (by rw [e6, e8]; exact b), eS]
      simp only [r28_31, r28_34, r28_35, r28_37, r28_38, zclr_I, zclr_R, zclr_L, zclr_U, reduceIte, Int.reduceEq, Int.reduceLT, Int.reduceLE, Int.reduceNeg, not_true_eq_false, not_false_eq_true, or_true, true_or, or_false, false_or, and_true, true_and, and_false, false_and, z01_or]
  obtain ⟨S, hSt, first⟩ := first
  generalize zup (zfl (zfl s 45 0 0 5 0) 55 0 0 5 2305843009213693952) 4 0 3 0 = X at *
  have nodn : ∀ u x : Int, ¬ dn s (s 6 0 4) 0 u x := fun u x hx => by
    have := SubB_le (show 0 ≤ x by have := hx.2.1.1; omega) H0 hx.2.1.2
    have h8 := hx.2.2
    have h9 := hx.1
    omega
  have tb0 : Tab s noon (s 6 0 4) 0 X := ⟨fun u x hx => absurd hx (nodn u x), fun u u0 u1 => by rw [x45 u u0 (by omega)]; exact ⟨by omega, fun x hx => absurd hx (nodn u x)⟩, fun u u0 u1 => by rw [x55 u u0 (by omega)]; exact ⟨by omega, fun z => by omega, fun x hx => absurd hx (nodn u x)⟩, by rw [x4]; omega, fun u x hx => absurd hx (nodn u x)⟩
  obtain ⟨sQ, y6, y7, y8, y9, y10, y11, d1, d2, d3⟩ := lp28 hs noon S hn hSt (s 6 0 4).toNat (s 6 0 4) X zU zU zU zU zU zU (by omega) H0 (fun _ _ h => h) xg tb0
  obtain ⟨sP, m1, m2, m3⟩ := lp28m (fun u => sQ 55 0 u) (zR 6 0) (zI (s 6 0 4)) (zI noon) (zI S) y6 y7 y8 y9 y10 y11 rfl 4 1 sQ (by omega) (by omega) (fun u u0 u1 => by
    have e : u = 0 := by omega
    rw [e]
    exact ⟨fun w w0 w1 => by rw [show w = 0 by omega]; exact Int.le_refl _, 0, by omega, by omega, rfl⟩) (fun u u0 => rfl)
  refine ⟨sP, fun m pc ls st fs Q => ?_, ?_, fun g hg => by rw [m2 g (by omega), d2 g hg]⟩
  · rw [first, d1]
    simp only [r28_209, r28_210, zclr_I, zclr_R, zclr_L, zclr_U, reduceIte, Int.reduceEq, Int.reduceLT, Int.reduceLE, Int.reduceNeg, not_true_eq_false, not_false_eq_true, or_true, true_or, or_false, false_or, and_true, true_and, and_false, false_and, z01_or]
    exact m1 m pc ls st fs Q
  · obtain ⟨t1, t2, t3, t4, t5⟩ := d3
    have isdn : ∀ t x : Int, 0 ≤ t → t < s 11 0 1 → 0 < x → SubB x (s 6 0 4) → dn s 0 0 t x := fun t x a b c d => ⟨⟨a, b⟩, ⟨c, d⟩, Or.inl c⟩
    unfold PTb
    rw [m2 44 (by omega), m2 45 (by omega), m2 4 (by omega)]
    refine ⟨fun t x t0 t1' x0 xH => ?_, fun t t0 t1' => ⟨(t2 t t0 t1').1, fun x hx => (t2 t t0 t1').2 x (isdn t x t0 t1' hx.1.1 hx.2.1) hx.2.2⟩, fun t t0 t1' => ?_, t4, fun t x t0 t1' hx => t5 t x (isdn t x t0 t1' hx.1.1 hx.2.1) hx.2.2⟩
    · have e := t1 t x (isdn t x t0 t1' x0 xH)
      by_cases c : mayM s t x = 0
      · rw [if_pos c] at e
        exact Or.inl ⟨⟨⟨x0, by have := SubB_le (by omega) H0 xH; omega⟩, xH, c⟩, e⟩
      · rw [if_neg c] at e
        exact Or.inr ⟨fun z => c z.2.2, e⟩
    · obtain ⟨p1, w, p2, p3, p4⟩ := m3 t t0 (by omega)
      have p4 : sP 55 0 t = sQ 55 0 w := p4
      obtain ⟨q1, q2, q3⟩ := t3 w p2 (by omega)
      refine ⟨by rw [p4]; exact q1, by rw [p4]; exact q2, fun u x u0 u1 hx => ?_⟩
      have a : sP 55 0 t ≤ sQ 55 0 u := p1 u u0 u1
      have b := (t3 u u0 (by omega)).2.2 x (isdn u x u0 (by omega) hx.1.1 hx.2.1) hx.2.2
      omega

def LSnd (ok : Int → Int → Prop) (pr : Int → Int → Int) (t : Int) (L : Int → Int) : Prop := ∀ D : Int, 0 ≤ D → D < 1024 → (0 ≤ L D ∧ L D ≤ 2305843009213693952) ∧ (L D < 2305843009213693952 → ∃ A : Int → Int, VA ok 0 t D A ∧ CA pr 0 t A = L D)
def LCmp (ok : Int → Int → Prop) (pr : Int → Int → Int) (T H t : Int) (L : Int → Int) : Prop := ∀ A : Int → Int, VA ok 0 T H A → L H ≤ CA pr 0 T A ∨ L (pre A t) ≤ CA pr 0 t A
/-- prices, pools, cheapest -/
def PTb (ok : Int → Int → Prop) (pr : Int → Int → Int) (T H : Int) (s : zS) : Prop := (∀ t x : Int, 0 ≤ t → t < T → 0 < x → SubB x H → (ok t x ∧ s 44 t x = pr t x) ∨ (¬ ok t x ∧ s 44 t x = 2305843009213693952)) ∧ (∀ t : Int, 0 ≤ t → t < T → (0 ≤ s 45 0 t ∧ s 45 0 t < 1024) ∧ ∀ x : Int, ok t x → SubB x (s 45 0 t)) ∧ (0 < s 4 0 2 ∧ s 4 0 2 ≤ 2305843009213693952) ∧ ∀ t x : Int, 0 ≤ t → t < T → ok t x → s 4 0 2 ≤ pr t x
/-- what is known of who may teach whom, and of prices -/
def PrO (ok : Int → Int → Prop) (pr : Int → Int → Int) (T H : Int) : Prop := (0 ≤ H ∧ H < 1024) ∧ (0 ≤ T ∧ T ≤ 5) ∧ (∀ t x : Int, ok t x → (0 < x ∧ x < 1024) ∧ SubB x H) ∧ ∀ t x : Int, 0 ≤ t → t < T → ok t x → 0 < pr t x ∧ pr t x < 2305843009213693952
section
variable {ok : Int → Int → Prop} {pr : Int → Int → Int} {T H : Int}
theorem VA_r (hO : PrO ok pr T H) {A : Int → Int} (hv : VA ok 0 T H A) : ∀ u : Int, 0 ≤ u → u < T → 0 ≤ A u ∧ A u < 1024 := by
  intro u u0 u1
  rcases hv.1 u u0 u1 with h | h
  · rw [h]; omega
  · have := (hO.2.2.1 u _ h).1; omega
theorem CA_p (hO : PrO ok pr T H) {A : Int → Int} {D a b : Int} (hv : VA ok 0 T D A) (a0 : 0 ≤ a) (hb : b ≤ T) : 0 ≤ CA pr a b A := by
  by_cases h : a ≤ b
  · refine CA_nn b A (b - a).toNat a (by omega) (fun u u0 u1 => ?_)
    rcases hv.1 u (by omega) (by omega) with h | h
    · exact Or.inl h
    · exact Or.inr (by have := hO.2.2.2 u _ (by omega) (by omega) h; omega)
  · rw [CA_0 (by omega)]; omega
theorem prune (hO : PrO ok pr T H) {A : Int → Int} {t c l M : Int} (hv : VA ok 0 T H A) (t0 : 0 ≤ t) (t1 : t ≤ T) (hc : ∀ u x : Int, 0 ≤ u → u < T → ok u x → c ≤ pr u x) (hl : l ≤ CA pr 0 t A) (hM : M ≤ l + c) (hH : pre A t = H → M ≤ l) : M ≤ CA pr 0 T A := by
  have sp := CA_split (c := pr) T A t.toNat 0 t (by omega) t1
  have p0 := CA_p hO hv t0 (Int.le_refl T)
  by_cases he : ∃ u : Int, t ≤ u ∧ u < T ∧ ¬ A u = 0
  · obtain ⟨u, u0, u1, u2⟩ := he
    have sp2 := CA_split (c := pr) T A (u - t).toNat t u (by omega) (by omega)
    have f := CA_front (c := pr) (A := A) u1
    rw [if_neg u2] at f
    have h1 := CA_p hO hv t0 (show u ≤ T by omega)
    have h2 := CA_p hO hv (show 0 ≤ u + 1 by omega) (Int.le_refl T)
    have h3 := hc u (A u) (by omega) u1 ((hv.1 u (by omega) u1).resolve_left u2)
    omega
  · have eH : pre A t = H := by
      obtain ⟨b0, b1, b2⟩ := pre_bi t0 (fun u u0 u1 => VA_r hO hv u u0 (by omega))
      refine bi_ext b0 hO.1.1 (fun q q0 => ?_)
      rw [b2 q q0, hv.2.2 q q0]
      constructor
      · rintro ⟨u, u0, u1, hu⟩; exact ⟨u, u0, by omega, hu⟩
      · rintro ⟨u, u0, u1, hu⟩
        refine ⟨u, u0, Classical.byContradiction fun hn => ?_, hu⟩
        have : A u = 0 := Classical.byContradiction fun z => he ⟨u, by omega, u1, z⟩
        rw [this] at hu
        exact bi_0 q hu
    have := hH eH
    omega
theorem VA_0x {A : Int → Int} {t D : Int} (t0 : 0 ≤ t) (hv : VA ok 0 t D A) : VA ok 0 (t + 1) D (updA A t 0) ∧ CA pr 0 (t + 1) (updA A t 0) = CA pr 0 t A := by
  refine ⟨VA_back hv t0 (Or.inl rfl) (fun q _ h => absurd h (bi_0 q)) (fun q _ => ⟨Or.inl, fun z => z.elim id (fun y => absurd y (bi_0 q))⟩), ?_⟩
  rw [CA_back t0, updA_e, if_pos rfl, CA_c (B := A) (fun u u0 u1 => updA_n (by omega))]
  omega
theorem VA_1x (hO : PrO ok pr T H) {A : Int → Int} {t D E x : Int} (t0 : 0 ≤ t) (hv : VA ok 0 t D A) (hx : ok t x) (hd : ∀ q : Int, 0 ≤ q → bi x q → ¬ bi D q) (he : ∀ q : Int, 0 ≤ q → (bi E q ↔ bi D q ∨ bi x q)) : VA ok 0 (t + 1) E (updA A t x) ∧ CA pr 0 (t + 1) (updA A t x) = CA pr 0 t A + pr t x := by
  refine ⟨VA_back hv t0 (Or.inr hx) hd he, ?_⟩
  have := (hO.2.2.1 t x hx).1
  rw [CA_back t0, updA_e, if_neg (by omega), CA_c (B := A) (fun u u0 u1 => updA_n (by omega))]
theorem LSnd_s {t : Int} {L : Int → Int} (t0 : 0 ≤ t) (h : LSnd ok pr t L) : LSnd ok pr (t + 1) L := by
  intro D D0 D1
  obtain ⟨h1, h2⟩ := h D D0 D1
  refine ⟨h1, fun hl => ?_⟩
  obtain ⟨A, a1, a2⟩ := h2 hl
  obtain ⟨b1, b2⟩ := VA_0x (pr := pr) t0 a1
  exact ⟨_, b1, b2.trans a2⟩
theorem lp31 (hO : PrO ok pr T H) (t : Int) (t0 : 0 ≤ t) (t1 : t < T) (L0 : Int → Int) (hS : LSnd ok pr t L0) (hC : LCmp ok pr T H t L0) : ∀ (n : Nat) (d : Int) (s : zS), d + 1 = n → d ≤ H → PTb ok pr T H s → (∀ D : Int, 0 ≤ D → D ≤ d → s 46 0 D = L0 D) → LSnd ok pr (t + 1) (fun D => s 46 0 D) → (∀ D : Int, 0 ≤ D → D < 1024 → s 46 0 D ≤ L0 D) → (∀ A : Int → Int, VA ok 0 T H A → d < pre A t → s 46 0 H ≤ CA pr 0 T A ∨ s 46 0 (pre A (t + 1)) ≤ CA pr 0 (t + 1) A) → ∃ s1 : zS, (∀ (m pc : Nat) (ls st : List zV) (fs : List zFr) (Q : List zV → zS → Prop), Ev ((31, 2, [zR 4 0, zI t, zI H, zI d], []) :: (m, pc, ls, st) :: fs) s Q = Ev ((m, pc, ls, st) :: fs) s1 Q) ∧ (∀ g : Nat, ¬ g = 46 → s1 g = s g) ∧ LSnd ok pr (t + 1) (fun D => s1 46 0 D) ∧ LCmp ok pr T H (t + 1) (fun D => s1 46 0 D) := by
  obtain ⟨⟨H0, H1⟩, ⟨T0, T1⟩, ok1, pr1⟩ := id hO
  intro n
  induction n with
  | zero =>
    intro d s hn hd hP I1 I2 I4 I3
    have e1 : (d < 0) = True := eq_true (by omega)
    refine ⟨s, fun m pc ls st fs Q => ?_, fun _ _ => rfl, I2, fun A hv => ?_⟩
    · rw [r31_2]
      simp only [r31_0, r31_1, r31_3, r31_6, r31_7, r31_8, r31_9, r31_12, r31_15, r31_16, r31_17, r31_18, r31_19, r31_20, r31_21, r31_22, r31_25, r31_26, r31_27, r31_28, r31_29, r31_32, r31_33, r31_34, r31_35, r31_38, r31_41, r31_44, e1, zclr_I, zclr_R, zclr_L, zclr_U, reduceIte, Int.reduceEq, Int.reduceLT, Int.reduceLE, Int.reduceNeg, not_true_eq_false, not_false_eq_true, or_true, true_or, or_false, false_or, and_true, true_and, and_false, false_and, z01_or]
    · have := (pre_bi t0 (fun u u0 u1 => VA_r hO hv u u0 (by omega))).1
      exact I3 A hv (by omega)
  | succ n ih =>
    intro d s hn hd hP I1 I2 I4 I3
    obtain ⟨p1, p2, p3, p4⟩ := id hP
    have e1 : (d < 0) = False := eq_false (by omega)
    have w1 : w32 (d + -1) = d - 1 := by rw [w32_id (by omega) (by omega)]; omega
    have bd : 0 ≤ s 46 0 d ∧ s 46 0 d ≤ 2305843009213693952 := (I2 d (by omega) (by omega)).1
    have bH : 0 ≤ s 46 0 H ∧ s 46 0 H ≤ 2305843009213693952 := (I2 H H0 H1).1
    have kW := fun (m pc : Nat) (ls st : List zV) (fs : List zFr) (Q : List zV → zS → Prop) => k_worthC (m := m) (pc := pc) (ls := ls) (st := st) (fs := fs) (Q := Q) (s := s) d H ⟨by omega, by omega⟩ ⟨H0, H1⟩ bd ⟨by omega, p3.2⟩
    have ed : s 46 0 d = L0 d := I1 d (by omega) (by omega)
    by_cases hw : s 46 0 d + s 4 0 2 < s 46 0 H
    · have qw := z01_t hw
      obtain ⟨q1, q2⟩ := p2 t t0 t1
      obtain ⟨u0, u1, u2⟩ := zandnot_bi H0 H1 (show 0 ≤ d by omega) (show d < 1024 by omega)
      obtain ⟨v0, v1, v2⟩ := zand_bi u0 u1 q1.1 q1.2
      have bt : (0 ≤ t ∧ t < 5) = True := eq_true (by omega)
      have sr : ∀ x : Int, 0 < x → SubB x (zand (zand H (zxor d (-1))) (s 45 0 t)) → SubB x H ∧ ∀ q : Int, 0 ≤ q → bi x q → ¬ bi d q := by
        intro x x0 hx
        refine ⟨fun q q0 hq => ?_, fun q q0 hq => ?_⟩
        · have := (v2 q q0).mp (hx q q0 hq)
          exact ((u2 q q0).mp this.1).1
        · have := (v2 q q0).mp (hx q q0 hq)
          exact ((u2 q q0).mp this.1).2
      obtain ⟨s1, c1, c2, c3, c4, c5⟩ := k_placeEach t d (zand (zand H (zxor d (-1))) (s 45 0 t)) (by omega) (by omega) (by omega) v0 v1 s bd (fun x x0 hx => by
        rcases p1 t x t0 t1 x0 (sr x x0 hx).1 with ⟨z1, z2⟩ | ⟨z1, z2⟩
        · rw [z2]; have := pr1 t x t0 t1 z1; omega
        · rw [z2]; omega)
      have dx : ∀ x : Int, 0 < x → SubB x (zand (zand H (zxor d (-1))) (s 45 0 t)) → (0 ≤ zor d x ∧ zor d x < 1024) ∧ d < zor d x ∧ ∀ q : Int, 0 ≤ q → (bi (zor d x) q ↔ bi d q ∨ bi x q) := by
        intro x x0 hx
        have xl := SubB_le (by omega) v0 hx
        obtain ⟨y0, y1, y2⟩ := zor_bi (x := d) (y := x) (by omega) (by omega) (by omega) (by omega)
        refine ⟨⟨y0, y1⟩, ?_, y2⟩
        have l1 := SubB_le (x := d) (y := zor d x) (by omega) y0 (fun q q0 hq => (y2 q q0).mpr (Or.inl hq))
        have hne : ¬ d = zor d x := by
          intro e
          have hz : x = 0 := (zero_bi (by omega)).mpr (fun q q0 hq => by
            have h1 := (sr x x0 hx).2 q q0 hq
            rw [e] at h1
            exact h1 ((y2 q q0).mpr (Or.inr hq)))
          omega
        omega
      have hP1 : PTb ok pr T H s1 := by
        unfold PTb
        rw [c2 44 (by omega), c2 45 (by omega), c2 4 (by omega)]
        exact hP
      obtain ⟨s2, d1, d2, d3, d4⟩ := ih (d - 1) s1 (by omega) (by omega) hP1 (fun D D0 D1 => by
        rcases c5 D with h | ⟨x, x0, x1, x2, x3⟩
        · rw [h]; exact I1 D D0 (by omega)
        · have := (dx x x0 x1).2.1; omega) (fun D D0 D1 => by
        have I2D := I2 D D0 D1
        have m1 := c3 D
        rcases c5 D with h | ⟨x, x0, x1, x2, x3⟩
        · show (0 ≤ s1 46 0 D ∧ s1 46 0 D ≤ _) ∧ (s1 46 0 D < _ → ∃ A : Int → Int, VA ok 0 (t + 1) D A ∧ CA pr 0 (t + 1) A = s1 46 0 D)
          rw [h]; exact I2D
        · show (0 ≤ s1 46 0 D ∧ s1 46 0 D ≤ _) ∧ (s1 46 0 D < _ → ∃ A : Int → Int, VA ok 0 (t + 1) D A ∧ CA pr 0 (t + 1) A = s1 46 0 D)
          have b3 : s 46 0 D ≤ 2305843009213693952 := I2D.1.2
          rcases p1 t x t0 t1 x0 (sr x x0 x1).1 with ⟨z1, z2⟩ | ⟨z1, z2⟩
          · have pb := pr1 t x t0 t1 z1
            rw [z2] at x3
            refine ⟨by omega, fun hl => ?_⟩
            obtain ⟨A, a1, a2⟩ := (hS d (by omega) (by omega)).2 (by omega)
            obtain ⟨b1, b2⟩ := VA_1x (E := D) hO t0 a1 z1 (sr x x0 x1).2 (fun q q0 => by rw [x2]; exact (dx x x0 x1).2.2 q q0)
            exact ⟨_, b1, by rw [b2, a2, x3, ed]⟩
          · rw [z2] at x3
            refine ⟨by omega, fun hl => by omega⟩) (fun D D0 D1 => Int.le_trans (c3 D) (I4 D D0 D1)) (fun A hv hp => by
        have mH := c3 H
        have rA := VA_r hO hv
        obtain ⟨f0, f1, f2⟩ := pre_bi t0 (fun u u0 u1 => rA u u0 (by omega))
        obtain ⟨g0, g1, g2⟩ := pre_bi (show 0 ≤ t + 1 by omega) (fun u u0 u1 => rA u u0 (by omega))
        by_cases hq : d < pre A t
        · rcases I3 A hv hq with h | h
          · left; omega
          · right; have := c3 (pre A (t + 1)); omega
        · have ep : pre A t = d := by omega
          rcases hC A hv with h | h
          · left; have := I4 H H0 H1; omega
          · rw [ep] at h
            right
            have cb := CA_back (c := pr) (A := A) t0
            by_cases hz : A t = 0
            · rw [if_pos hz] at cb
              have e2 : pre A (t + 1) = d := by
                rw [← ep]
                refine bi_ext g0 f0 (fun q q0 => ?_)
                rw [g2 q q0, f2 q q0]
                constructor
                · rintro ⟨u, u0, u1, hu⟩
                  refine ⟨u, u0, Classical.byContradiction fun hn => ?_, hu⟩
                  rw [show u = t by omega, hz] at hu
                  exact bi_0 q hu
                · rintro ⟨u, u0, u1, hu⟩; exact ⟨u, u0, by omega, hu⟩
              rw [e2]
              have := c3 d
              omega
            · rw [if_neg hz] at cb
              have hok := (hv.1 t t0 t1).resolve_left hz
              have xb := ok1 t _ hok
              have dis : ∀ q : Int, 0 ≤ q → bi (A t) q → ¬ bi d q := by
                intro q q0 hq2 hd2
                rw [← ep, f2 q q0] at hd2
                obtain ⟨u, u0, u1, hu⟩ := hd2
                exact hv.2.1 u t u0 (by omega) t0 t1 (by omega) q q0 hu hq2
              have hsr : SubB (A t) (zand (zand H (zxor d (-1))) (s 45 0 t)) := by
                intro q q0 hq2
                rw [v2 q q0, u2 q q0]
                exact ⟨⟨xb.2 q q0 hq2, dis q q0 hq2⟩, q2 _ hok q q0 hq2⟩
              have e2 : pre A (t + 1) = zor d (A t) := by
                have dd := dx (A t) xb.1.1 hsr
                refine bi_ext g0 dd.1.1 (fun q q0 => ?_)
                rw [g2 q q0, dd.2.2 q q0, ← ep, f2 q q0]
                constructor
                · rintro ⟨u, u0, u1, hu⟩
                  by_cases eu : u = t
                  · rw [eu] at hu; exact Or.inr hu
                  · exact Or.inl ⟨u, u0, by omega, hu⟩
                · rintro (⟨u, u0, u1, hu⟩ | hu)
                  · exact ⟨u, u0, by omega, hu⟩
                  · exact ⟨t, t0, by omega, hu⟩
              rw [e2]
              have k4 := c4 (A t) xb.1.1 hsr
              rcases p1 t (A t) t0 t1 xb.1.1 xb.2 with ⟨z1, z2⟩ | ⟨z1, z2⟩
              · rw [z2] at k4; omega
              · exact absurd hok z1)
      refine ⟨s2, fun m pc ls st fs Q => ?_, fun g hg => by rw [d2 g hg, c2 g hg], d3, d4⟩
      rw [r31_2]
      simp only [r31_0, r31_1, r31_3, r31_6, r31_7, r31_8, r31_9, r31_12, r31_15, r31_16, r31_17, r31_18, r31_19, r31_20, r31_21, r31_22, r31_25, r31_26, r31_27, r31_28, r31_29, r31_32, r31_33, r31_34, r31_35, r31_38, r31_41, r31_44, kW, qw, e1, bt, c1, w1, zak_40, zln_40, zak_41, zln_41, zak_42, zln_42, zak_43, zln_43, zak_44, zln_44, zak_45, zln_45, zak_46, zln_46, zak_47, zln_47, zak_48, zln_48, zak_49, zln_49, zak_50, zln_50, zak_51, zln_51, zak_52, zln_52, zak_53, zln_53, zak_54, zln_54, zak_73, zln_73, zak_74, zln_74, zak_75, zln_75, zak_76, zln_76, zak_77, zln_77, zak_78, zln_78, zak_79, zln_79, zak_80, zln_80, zak_81, zln_81, zak_82, zln_82, zak_83, zln_83, zak_84, zln_84, zak_85, zln_85, zak_86, zln_86, zak_87, zln_87, zak_88, zln_88, zak_89, zln_89, zak_90, zln_90, zak_91, zln_91, zak_92, zln_92, zak_93, zln_93, zak_94, zln_94, zak_95, zln_95, zak_96, zln_96, zak_97, zln_97, zak_98, zln_98, zak_99, zln_99, zak_100, zln_100, zak_101, zln_101, zak_102, zln_102, zak_103, zln_103, zak_104, zln_104, zak_105, zln_105, zak_108, zln_108, zak_109, zln_109, Nat.reduceLeDiff, zclr_I, zclr_R, zclr_L, zclr_U, reduceIte, Int.reduceEq, Int.reduceLT, Int.reduceLE, Int.reduceNeg, not_true_eq_false, not_false_eq_true, or_true, true_or, or_false, false_or, and_true, true_and, and_false, false_and, z01_or]
      exact d1 m pc ls st fs Q
    · have qw := z01_f hw
      obtain ⟨s2, d1, d2, d3, d4⟩ := ih (d - 1) s (by omega) (by omega) hP (fun D D0 D1 => I1 D D0 (by omega)) I2 I4 (fun A hv hp => by
        by_cases hq : d < pre A t
        · exact I3 A hv hq
        · have ep : pre A t = d := by omega
          left
          rcases hC A hv with h | h
          · have := I4 H H0 H1; omega
          · rw [ep] at h
            refine prune hO hv t0 (by omega) p4 h (by omega) (fun e => ?_)
            rw [ep] at e
            rw [← e, ed]; exact Int.le_refl _)
      refine ⟨s2, fun m pc ls st fs Q => ?_, d2, d3, d4⟩
      rw [r31_2]
      simp only [r31_0, r31_1, r31_3, r31_6, r31_7, r31_8, r31_9, r31_12, r31_15, r31_16, r31_17, r31_18, r31_19, r31_20, r31_21, r31_22, r31_25, r31_26, r31_27, r31_28, r31_29, r31_32, r31_33, r31_34, r31_35, r31_38, r31_41, r31_44, kW, qw, e1, w1, zak_40, zln_40, zak_41, zln_41, zak_42, zln_42, zak_43, zln_43, zak_44, zln_44, zak_45, zln_45, zak_46, zln_46, zak_47, zln_47, zak_48, zln_48, zak_49, zln_49, zak_50, zln_50, zak_51, zln_51, zak_52, zln_52, zak_53, zln_53, zak_54, zln_54, zak_73, zln_73, zak_74, zln_74, zak_75, zln_75, zak_76, zln_76, zak_77, zln_77, zak_78, zln_78, zak_79, zln_79, zak_80, zln_80, zak_81, zln_81, zak_82, zln_82, zak_83, zln_83, zak_84, zln_84, zak_85, zln_85, zak_86, zln_86, zak_87, zln_87, zak_88, zln_88, zak_89, zln_89, zak_90, zln_90, zak_91, zln_91, zak_92, zln_92, zak_93, zln_93, zak_94, zln_94, zak_95, zln_95, zak_96, zln_96, zak_97, zln_97, zak_98, zln_98, zak_99, zln_99, zak_100, zln_100, zak_101, zln_101, zak_102, zln_102, zak_103, zln_103, zak_104, zln_104, zak_105, zln_105, zak_108, zln_108, zak_109, zln_109, Nat.reduceLeDiff, zclr_I, zclr_R, zclr_L, zclr_U, reduceIte, Int.reduceEq, Int.reduceLT, Int.reduceLE, Int.reduceNeg, not_true_eq_false, not_false_eq_true, or_true, true_or, or_false, false_or, and_true, true_and, and_false, false_and, z01_or]
      exact d1 m pc ls st fs Q
end

def LSnd (ok : Int → Int → Prop) (pr : Int → Int → Int) (T t : Int) (L : Int → Int) : Prop := ∀ D : Int, 0 ≤ D → D < 1024 → (0 ≤ L D ∧ L D ≤ 2305843009213693952) ∧ (L D < 2305843009213693952 → ∃ A : Int → Int, VA ok t T D A ∧ CA pr t T A = L D)
def LCmp (ok : Int → Int → Prop) (pr : Int → Int → Int) (T H t : Int) (L : Int → Int) : Prop := ∀ A : Int → Int, VA ok 0 T H A → L H ≤ CA pr 0 T A ∨ L (suf A T t) ≤ CA pr t T A
/-- prices, pools, cheapest, largest -/
def PTb (ok : Int → Int → Prop) (pr : Int → Int → Int) (T H : Int) (s : zS) : Prop := (∀ t x : Int, 0 ≤ t → t < T → 0 < x → SubB x H → (ok t x ∧ s 44 t x = pr t x) ∨ (¬ ok t x ∧ s 44 t x = 2305843009213693952)) ∧ (∀ t : Int, 0 ≤ t → t < T → (0 ≤ s 45 0 t ∧ s 45 0 t < 1024) ∧ ∀ x : Int, ok t x → SubB x (s 45 0 t)) ∧ (∀ t : Int, 0 ≤ t → t < T → (0 < s 55 0 t ∧ s 55 0 t ≤ 2305843009213693952) ∧ (s 55 0 t < 2305843009213693952 → s 55 0 t ≤ 576460752303423488) ∧ ∀ u x : Int, 0 ≤ u → u ≤ t → ok u x → s 55 0 t ≤ pr u x) ∧ (0 ≤ s 4 0 3 ∧ s 4 0 3 ≤ 10) ∧ ∀ t x : Int, 0 ≤ t → t < T → ok t x → popc x ≤ s 4 0 3
/-- what is known of who may teach whom, and of prices -/
def PrO (ok : Int → Int → Prop) (pr : Int → Int → Int) (T H : Int) : Prop := (0 ≤ H ∧ H < 1024) ∧ (0 ≤ T ∧ T ≤ 5) ∧ (∀ t x : Int, ok t x → (0 < x ∧ x < 1024) ∧ SubB x H) ∧ ∀ t x : Int, 0 ≤ t → t < T → ok t x → 0 < pr t x ∧ pr t x < 2305843009213693952
section
variable {ok : Int → Int → Prop} {pr : Int → Int → Int} {T H : Int}
theorem VA_r (hO : PrO ok pr T H) {A : Int → Int} (hv : VA ok 0 T H A) : ∀ u : Int, 0 ≤ u → u < T → 0 ≤ A u ∧ A u < 1024 := by
  intro u u0 u1
  rcases hv.1 u u0 u1 with h | h
  · rw [h]; omega
  · have := (hO.2.2.1 u _ h).1; omega
theorem CA_p (hO : PrO ok pr T H) {A : Int → Int} {D a b : Int} (hv : VA ok 0 T D A) (a0 : 0 ≤ a) (hb : b ≤ T) : 0 ≤ CA pr a b A := by
  by_cases h : a ≤ b
  · refine CA_nn b A (b - a).toNat a (by omega) (fun u u0 u1 => ?_)
    rcases hv.1 u (by omega) (by omega) with h | h
    · exact Or.inl h
    · exact Or.inr (by have := hO.2.2.2 u _ (by omega) (by omega) h; omega)
  · rw [CA_0 (by omega)]; omega
/-- one class more -/
theorem prune1 (hO : PrO ok pr T H) {A : Int → Int} {t : Int} (hv : VA ok 0 T H A) (t0 : 0 ≤ t) (t1 : t < T) (hz : ¬ A t = 0) : CA pr (t + 1) T A + pr t (A t) ≤ CA pr 0 T A := by
  have sp := CA_split (c := pr) T A t.toNat 0 t (by omega) (by omega)
  have f := CA_front (c := pr) (A := A) t1
  rw [if_neg hz] at f
  have p := CA_p hO hv (Int.le_refl 0) (show t ≤ T by omega)
  omega
/-- several more -/
theorem prune2 (hO : PrO ok pr T H) {A : Int → Int} {t d R g c : Int} (hv : VA ok 0 T H A) (t0 : 0 ≤ t) (t1 : t < T) (hz : ¬ A t = 0) (hn : ¬ A t = R) (R0 : 0 ≤ R) (R1 : R < 1024) (hd : ∀ q : Int, 0 ≤ q → (bi d q ↔ ∃ u : Int, t + 1 ≤ u ∧ u < T ∧ bi (A u) q)) (hR : ∀ q : Int, 0 ≤ q → (bi R q ↔ bi H q ∧ ¬ bi d q)) (hg : ∀ u x : Int, 0 ≤ u → u < T → ok u x → popc x ≤ g) (hc : ∀ u x : Int, 0 ≤ u → u ≤ t → ok u x → c ≤ pr u x) (c0 : 0 ≤ c) : mrF R g ≤ t + 1 ∧ CA pr (t + 1) T A + mrF R g * c ≤ CA pr 0 T A := by
  have hl := VA_low hv (show 0 ≤ t + 1 by omega) (show t + 1 ≤ T by omega) hd hR
  have rA := VA_r hO hv t t0 t1
  have n2 := two_le t0 R0 rA.1 hl hz hn
  have n1 := CA_1 (t + 1) A (t + 1).toNat 0 (by omega)
  have ng : CA (fun _ x => popc x) 0 (t + 1) A ≤ g * CA (fun _ _ => 1) 0 (t + 1) A := CA_atmost (by omega) (fun u u0 u1 hu => hg u _ u0 (by omega) ((hl.1 u u0 u1).resolve_left hu))
  rw [CA_pop (fun u x hx => (hO.2.2.1 u x hx).1) (t + 1) A (t + 1).toNat 0 R (by omega) R0 R1 hl] at ng
  have nc : c * CA (fun _ _ => 1) 0 (t + 1) A ≤ CA pr 0 (t + 1) A := CA_each (by omega) (fun u u0 u1 hu => hc u _ u0 (by omega) ((hl.1 u u0 u1).resolve_left hu))
  have sp := CA_split (c := pr) T A (t + 1).toNat 0 (t + 1) (by omega) (by omega)
  have ml := mrF_le n2 ng
  have mm : mrF R g * c ≤ CA (fun _ _ => 1) 0 (t + 1) A * c := Int.mul_le_mul_of_nonneg_right ml c0
  rw [Int.mul_comm c] at nc
  exact ⟨by omega, by omega⟩
theorem VA_0x {A : Int → Int} {t D : Int} (t1 : t < T) (hv : VA ok (t + 1) T D A) : VA ok t T D (updA A t 0) ∧ CA pr t T (updA A t 0) = CA pr (t + 1) T A := by
  refine ⟨VA_fext hv t1 (Or.inl rfl) (fun q _ h => absurd h (bi_0 q)) (fun q _ => ⟨Or.inl, fun z => z.elim id (fun y => absurd y (bi_0 q))⟩), ?_⟩
  rw [CA_front t1, updA_e, if_pos rfl, CA_c (B := A) (fun u u0 u1 => updA_n (by omega))]
  omega
theorem VA_1x (hO : PrO ok pr T H) {A : Int → Int} {t D E x : Int} (t1 : t < T) (hv : VA ok (t + 1) T D A) (hx : ok t x) (hd : ∀ q : Int, 0 ≤ q → bi x q → ¬ bi D q) (he : ∀ q : Int, 0 ≤ q → (bi E q ↔ bi D q ∨ bi x q)) : VA ok t T E (updA A t x) ∧ CA pr t T (updA A t x) = CA pr (t + 1) T A + pr t x := by
  refine ⟨VA_fext hv t1 (Or.inr hx) hd he, ?_⟩
  have := (hO.2.2.1 t x hx).1
  rw [CA_front t1, updA_e, if_neg (by omega), CA_c (B := A) (fun u u0 u1 => updA_n (by omega))]
  omega
theorem LSnd_s {t : Int} {L : Int → Int} (t1 : t < T) (h : LSnd ok pr T (t + 1) L) : LSnd ok pr T t L := by
  intro D D0 D1
  obtain ⟨h1, h2⟩ := h D D0 D1
  refine ⟨h1, fun hl => ?_⟩
  obtain ⟨A, a1, a2⟩ := h2 hl
  obtain ⟨b1, b2⟩ := VA_0x (pr := pr) t1 a1
  exact ⟨_, b1, b2.trans a2⟩
theorem suf_0 (hO : PrO ok pr T H) {A : Int → Int} {t : Int} (hv : VA ok 0 T H A) (t0 : 0 ≤ t) (t1 : t < T) (hz : A t = 0) : suf A T t = suf A T (t + 1) ∧ CA pr t T A = CA pr (t + 1) T A := by
  have rA := VA_r hO hv
  obtain ⟨f0, f1, f2⟩ := suf_bi (A := A) (T := T) (t := t) (by omega) (fun u u0 u1 => rA u (by omega) u1)
  obtain ⟨g0, g1, g2⟩ := suf_bi (A := A) (T := T) (t := t + 1) (by omega) (fun u u0 u1 => rA u (by omega) u1)
  constructor
  · refine bi_ext f0 g0 (fun q q0 => ?_)
    rw [f2 q q0, g2 q q0]
    constructor
    · rintro ⟨u, u0, u1, hu⟩
      by_cases e : u = t
      · rw [e, hz] at hu; exact absurd hu (bi_0 q)
      · exact ⟨u, by omega, u1, hu⟩
    · rintro ⟨u, u0, u1, hu⟩; exact ⟨u, by omega, u1, hu⟩
  · rw [CA_front t1, if_pos hz]; omega
theorem suf_1 (hO : PrO ok pr T H) {A : Int → Int} {t d E : Int} (hv : VA ok 0 T H A) (t0 : 0 ≤ t) (t1 : t < T) (hd : suf A T (t + 1) = d) (E0 : 0 ≤ E) (hE : ∀ q : Int, 0 ≤ q → (bi E q ↔ bi d q ∨ bi (A t) q)) : suf A T t = E := by
  have rA := VA_r hO hv
  obtain ⟨f0, f1, f2⟩ := suf_bi (A := A) (T := T) (t := t) (by omega) (fun u u0 u1 => rA u (by omega) u1)
  obtain ⟨g0, g1, g2⟩ := suf_bi (A := A) (T := T) (t := t + 1) (by omega) (fun u u0 u1 => rA u (by omega) u1)
  refine bi_ext f0 E0 (fun q q0 => ?_)
  rw [f2 q q0, hE q q0, ← hd, g2 q q0]
  constructor
  · rintro ⟨u, u0, u1, hu⟩
    by_cases e : u = t
    · rw [e] at hu; exact Or.inr hu
    · exact Or.inl ⟨u, by omega, u1, hu⟩
  · rintro (⟨u, u0, u1, hu⟩ | hu)
    · exact ⟨u, by omega, u1, hu⟩
    · exact ⟨t, by omega, t1, hu⟩
theorem PTb_c {s s1 : zS} (h44 : s1 44 = s 44) (h45 : s1 45 = s 45) (h55 : s1 55 = s 55) (h4 : s1 4 = s 4) (hP : PTb ok pr T H s) : PTb ok pr T H s1 := by
  unfold PTb
  rw [h44, h45, h55, h4]
  exact hP
theorem cmpF {a b : Int} (c : a < b) : (0 ≤ (if a < b then (-1 : Int) else if a = b then 0 else 1)) = False := by rw [if_pos c]; simp
theorem cmpT {a b : Int} (c : ¬ a < b) : (0 ≤ (if a < b then (-1 : Int) else if a = b then 0 else 1)) = True := by
  rw [if_neg c]
  by_cases c3 : a = b
  · rw [if_pos c3]; simp
  · rw [if_neg c3]; simp
theorem lp31 (hO : PrO ok pr T H) (t : Int) (t0 : 0 ≤ t) (t1 : t < T) (L0 : Int → Int) (hS : LSnd ok pr T (t + 1) L0) (hC : LCmp ok pr T H (t + 1) L0) : ∀ (n : Nat) (d : Int) (s : zS) (v4 v5 v6 v7 : zV), d + 1 = n → d ≤ H → PTb ok pr T H s → (∀ D : Int, 0 ≤ D → D ≤ d → s 46 0 D = L0 D) → LSnd ok pr T t (fun D => s 46 0 D) → (∀ D : Int, 0 ≤ D → D < 1024 → s 46 0 D ≤ L0 D) → (∀ A : Int → Int, VA ok 0 T H A → d < suf A T (t + 1) → s 46 0 H ≤ CA pr 0 T A ∨ s 46 0 (suf A T t) ≤ CA pr t T A) → ∃ s1 : zS, (∀ (m pc : Nat) (ls st : List zV) (fs : List zFr) (Q : List zV → zS → Prop), Ev ((31, 2, [zR 4 0, zI t, zI H, zI d, v4, v5, v6, v7], []) :: (m, pc, ls, st) :: fs) s Q = Ev ((m, pc, ls, st) :: fs) s1 Q) ∧ (∀ g : Nat, ¬ g = 46 → s1 g = s g) ∧ LSnd ok pr T t (fun D => s1 46 0 D) ∧ LCmp ok pr T H t (fun D => s1 46 0 D) := by
  obtain ⟨⟨H0, H1⟩, ⟨T0, T1⟩, ok1, pr1⟩ := id hO
  intro n
  induction n with
  | zero =>
    intro d s v4 v5 v6 v7 hn hd hP I1 I2 I4 I3
    have e1 : (d < 0) = True := eq_true (by omega)
    refine ⟨s, fun m pc ls st fs Q => ?_, fun _ _ => rfl, I2, fun A hv => ?_⟩
    · rw [r31_2]
      simp only [r31_3, r31_136, e1, zclr_I, zclr_R, zclr_L, zclr_U, reduceIte, Int.reduceEq, Int.reduceLT, Int.reduceLE, Int.reduceNeg, not_true_eq_false, not_false_eq_true, or_true, true_or, or_false, false_or, and_true, true_and, and_false, false_and, z01_or]
    · have := (suf_bi (A := A) (T := T) (t := t + 1) (by omega) (fun u u0 u1 => VA_r hO hv u (by omega) u1)).1
      exact I3 A hv (by omega)
  | succ n ih =>
    intro d s v4 v5 v6 v7 hn hd hP I1 I2 I4 I3
    obtain ⟨p1, p2, p3, p4, p5⟩ := id hP
    obtain ⟨⟨k0, k1⟩, k2, k3⟩ := p3 t t0 t1
    have e1 : (d < 0) = False := eq_false (by omega)
    have w1 : w32 (d + -1) = d - 1 := by rw [w32_id (by omega) (by omega)]; omega
    have bd : 0 ≤ s 46 0 d ∧ s 46 0 d ≤ 2305843009213693952 := (I2 d (by omega) (by omega)).1
    have bM : 0 ≤ s 46 0 H ∧ s 46 0 H ≤ 2305843009213693952 := (I2 H H0 H1).1
    have ed : s 46 0 d = L0 d := I1 d (by omega) (by omega)
    have bt : (0 ≤ t ∧ t < 5) = True := eq_true (by omega)
    have bdd : (0 ≤ d ∧ d < 1024) = True := eq_true ⟨by omega, by omega⟩
    have bH : (0 ≤ H ∧ H < 1024) = True := eq_true ⟨H0, H1⟩
    have wA : w64 (s 46 0 d + s 55 0 t) = s 46 0 d + s 55 0 t := w64_id (by omega) (by omega)
    by_cases hw : s 46 0 d + s 55 0 t < s 46 0 H
    · have qw := cmpF hw
      have hdH : ¬ d = H := fun e => by rw [e] at hw; omega
      have kc := k2 (by omega)
      obtain ⟨A0, a1, a2⟩ := (hS d (by omega) (by omega)).2 (by omega)
      have dH : SubB d H := by
        intro q q0 hq
        obtain ⟨u, u0, u1, hu⟩ := (a1.2.2 q q0).mp hq
        rcases a1.1 u u0 u1 with z | z
        · rw [z] at hu; exact absurd hu (bi_0 q)
        · exact (ok1 u _ z).2 q q0 hu
      obtain ⟨u0, u1, u2⟩ := zandnot_bi H0 H1 (show 0 ≤ d by omega) (show d < 1024 by omega)
      have xp : 0 < zand H (zxor d (-1)) := by
        refine Classical.byContradiction fun hn => hdH ?_
        have hz := (zero_bi u0).mp (by omega)
        refine bi_ext (by omega) H0 (fun q q0 => ⟨dH q q0, fun hq => Classical.byContradiction fun hd2 => hz q q0 ((u2 q q0).mpr ⟨hq, hd2⟩)⟩)
      have xH : SubB (zand H (zxor d (-1))) H := fun q q0 hq => ((u2 q q0).mp hq).1
      generalize hRe : zand H (zxor d (-1)) = R at *
      have hxb : 0 ≤ s 44 t R ∧ s 44 t R ≤ 2305843009213693952 := by
        rcases p1 t _ t0 (by omega) xp xH with ⟨z1, z2⟩ | ⟨z1, z2⟩
        · rw [z2]; have := pr1 t _ t0 (by omega) z1; omega
        · rw [z2]; omega
      have bx : (0 ≤ R ∧ R < 1024) = True := eq_true ⟨u0, u1⟩
      have wB : w64 (s 46 0 d + s 44 t R) = s 46 0 d + s 44 t R := w64_id (by omega) (by omega)
      have hv0 : ∃ v : Int, v = (if s 46 0 d + s 44 t R < s 46 0 H then s 46 0 d + s 44 t R else s 46 0 H) ∧ 0 ≤ v ∧ v ≤ s 46 0 H ∧ v ≤ s 46 0 d + s 44 t R ∧ (v = s 46 0 H ∨ v = s 46 0 d + s 44 t R) := by
        refine ⟨_, rfl, ?_⟩
        by_cases c : s 46 0 d + s 44 t R < s 46 0 H
        · rw [if_pos c]; omega
        · rw [if_neg c]; omega
      obtain ⟨v, hv1, hv2, hv3, hv4, hv5⟩ := hv0
      -- the state behind 'all the rest'
      have X44 : zup s 46 0 H v 44 = s 44 := zup_ng (by omega)
      have X45 : zup s 46 0 H v 45 = s 45 := zup_ng (by omega)
      have X55 : zup s 46 0 H v 55 = s 55 := zup_ng (by omega)
      have X4 : zup s 46 0 H v 4 = s 4 := zup_ng (by omega)
      have Xg : ∀ g : Nat, ¬ g = 46 → zup s 46 0 H v g = s g := fun g hg => zup_ng hg
      have XH : zup s 46 0 H v 46 0 H = v := zup_eq _ _ _ _ _
      have XD : ∀ D : Int, ¬ D = H → zup s 46 0 H v 46 0 D = s 46 0 D := fun D hD => zup_nk hD
      have head : ∀ (m pc : Nat) (ls st : List zV) (fs : List zFr) (Q : List zV → zS → Prop), Ev ((31, 2, [zR 4 0, zI t, zI H, zI d, v4, v5, v6, v7], []) :: (m, pc, ls, st) :: fs) s Q = Ev ((31, 79, [zR 4 0, zI t, zI H, zI d, zL (s 46 0 d), zU, zI R, zI (mrF R (s 4 0 3))], []) :: (m, pc, ls, st) :: fs) (zup s 46 0 H v) Q := by
        intro m pc ls st fs Q
        have kF := k_classesFor (m := 31) (pc := 74) (ls := [zR 4 0, zI t, zI H, zI d, zL (s 46 0 d), zU, zI R, v7]) (st := [zI 2]) (fs := (m, pc, ls, st) :: fs) (s := zup s 46 0 H v) (Q := Q) R u0 u1 (by rw [X4]; exact p4)
        rw [X4] at kF
        rw [r31_2]
        simp only [r31_3, r31_6, r31_7, r31_10, r31_11, r31_12, r31_14, r31_16, r31_17, r31_20, r31_21, r31_22, r31_23, r31_24, r31_27, r31_28, r31_29, r31_30, r31_33, r31_34, r31_35, r31_36, r31_37, r31_38, r31_40, r31_41, r31_44, r31_45, r31_46, r31_49, r31_50, r31_51, r31_53, r31_54, r31_57, r31_58, r31_59, r31_61, r31_62, r31_63, r31_66, hRe, e1, bt, bx, bH, bdd, wA, wB, qw, zak_40, zln_40, zak_41, zln_41, zak_42, zln_42, zak_43, zln_43, zak_44, zln_44, zak_45, zln_45, zak_46, zln_46, zak_47, zln_47, zak_48, zln_48, zak_49, zln_49, zak_50, zln_50, zak_51, zln_51, zak_52, zln_52, zak_53, zln_53, zak_54, zln_54, zak_55, zln_55, zak_73, zln_73, zak_74, zln_74, zak_75, zln_75, zak_76, zln_76, zak_77, zln_77, zak_78, zln_78, zak_79, zln_79, zak_80, zln_80, zak_81, zln_81, zak_82, zln_82, zak_83, zln_83, zak_84, zln_84, zak_85, zln_85, zak_86, zln_86, zak_87, zln_87, zak_88, zln_88, zak_89, zln_89, zak_90, zln_90, zak_91, zln_91, zak_92, zln_92, zak_93, zln_93, zak_94, zln_94, zak_95, zln_95, zak_96, zln_96, zak_97, zln_97, zak_98, zln_98, zak_99, zln_99, zak_100, zln_100, zak_101, zln_101, zak_102, zln_102, zak_103, zln_103, zak_104, zln_104, zak_105, zln_105, zak_108, zln_108, zak_109, zln_109, Nat.reduceLeDiff, zclr_I, zclr_R, zclr_L, zclr_U, reduceIte, Int.reduceEq, Int.reduceLT, Int.reduceLE, Int.reduceNeg, not_true_eq_false, not_false_eq_true, or_true, true_or, or_false, false_or, and_true, true_and, and_false, false_and, z01_or]
        rw [← hv1]
        simp only [r31_67, r31_68, r31_69, zclr_I, zclr_R, zclr_L, zclr_U, reduceIte, Int.reduceEq, Int.reduceLT, Int.reduceLE, Int.reduceNeg, not_true_eq_false, not_false_eq_true, or_true, true_or, or_false, false_or, and_true, true_and, and_false, false_and, z01_or]
        rw [r31_71, kF]
        simp only [r31_74, r31_77, zclr_I, zclr_R, zclr_L, zclr_U, reduceIte, Int.reduceEq, Int.reduceLT, Int.reduceLE, Int.reduceNeg, not_true_eq_false, not_false_eq_true, or_true, true_or, or_false, false_or, and_true, true_and, and_false, false_and, z01_or]
        rfl
      have hP' := PTb_c (ok := ok) (pr := pr) (T := T) (H := H) X44 X45 X55 X4 hP
      have I1' : ∀ D : Int, 0 ≤ D → D ≤ d - 1 → zup s 46 0 H v 46 0 D = L0 D := fun D D0 D1 => by rw [XD D (by omega)]; exact I1 D D0 (by omega)
      have I2' : LSnd ok pr T t (fun D => zup s 46 0 H v 46 0 D) := by
        intro D D0 D1
        show (0 ≤ zup s 46 0 H v 46 0 D ∧ zup s 46 0 H v 46 0 D ≤ _) ∧ (zup s 46 0 H v 46 0 D < _ → ∃ A : Int → Int, VA ok t T D A ∧ CA pr t T A = zup s 46 0 H v 46 0 D)
        by_cases eD : D = H
        · rw [eD, XH]
          refine ⟨by omega, fun hl => ?_⟩
          rcases hv5 with e | e
          · rw [e] at hl ⊢; exact (I2 H H0 H1).2 hl
          · rcases p1 t _ t0 (by omega) xp xH with ⟨z1, z2⟩ | ⟨z1, z2⟩
            · obtain ⟨b1, b2⟩ := VA_1x (E := H) hO t1 a1 z1 (fun q q0 hq => ((u2 q q0).mp hq).2) (fun q q0 => by
                rw [u2 q q0]
                constructor
                · intro h
                  by_cases c : bi d q
                  · exact Or.inl c
                  · exact Or.inr ⟨h, c⟩
                · rintro (h | h)
                  · exact dH q q0 h
                  · exact h.1)
              exact ⟨_, b1, by rw [b2, a2, e, z2, ed]⟩
            · rw [z2] at e; omega
        · rw [XD D eD]; exact I2 D D0 D1
      have mono : ∀ D : Int, zup s 46 0 H v 46 0 D ≤ s 46 0 D := fun D => by
        by_cases eD : D = H
        · rw [eD, XH]; exact hv3
        · rw [XD D eD]; exact Int.le_refl _
      have I4' : ∀ D : Int, 0 ≤ D → D < 1024 → zup s 46 0 H v 46 0 D ≤ L0 D := fun D D0 D1 => Int.le_trans (mono D) (I4 D D0 D1)
      have I3' : ∀ A : Int → Int, VA ok 0 T H A → d < suf A T (t + 1) → zup s 46 0 H v 46 0 H ≤ CA pr 0 T A ∨ zup s 46 0 H v 46 0 (suf A T t) ≤ CA pr t T A := fun A hv hq => by
        rcases I3 A hv hq with h | h
        · left; have := mono H; omega
        · right; have := mono (suf A T t); omega
      have Xd : zup s 46 0 H v 46 0 d = s 46 0 d := XD d hdH
      have base : ∀ A : Int → Int, VA ok 0 T H A → suf A T (t + 1) = d → zup s 46 0 H v 46 0 H ≤ CA pr 0 T A ∨ s 46 0 d ≤ CA pr (t + 1) T A := fun A hv ep => by
        rcases hC A hv with h | h
        · left; have := I4' H H0 H1; omega
        · right; rw [ep] at h; omega
      generalize zup s 46 0 H v = X at *
      -- nothing but the rest was worth a try
      have skip : (t + 1 < mrF R (s 4 0 3) ∨ v ≤ s 46 0 d + mrF R (s 4 0 3) * s 55 0 t) → ∀ A : Int → Int, VA ok 0 T H A → d - 1 < suf A T (t + 1) → X 46 0 H ≤ CA pr 0 T A ∨ X 46 0 (suf A T t) ≤ CA pr t T A := by
        intro hsk A hv hp
        by_cases hq : d < suf A T (t + 1)
        · exact I3' A hv hq
        · have ep : suf A T (t + 1) = d := by omega
          rcases base A hv ep with h | h
          · exact Or.inl h
          · by_cases hz : A t = 0
            · obtain ⟨f1, f2⟩ := suf_0 hO hv t0 t1 hz
              right
              rw [f1, f2, ep, Xd]; exact h
            · left
              rw [XH]
              have hok := (hv.1 t t0 t1).resolve_left hz
              by_cases hr : A t = R
              · have q1 := prune1 hO hv t0 t1 hz
                rcases p1 t _ t0 (by omega) xp xH with ⟨z1, z2⟩ | ⟨z1, z2⟩
                · rw [hr] at q1; rw [z2] at hv4; omega
                · rw [hr] at hok; exact absurd hok z1
              · have rA := VA_r hO hv
                obtain ⟨g0, g1, g2⟩ := suf_bi (A := A) (T := T) (t := t + 1) (by omega) (fun u u0 u1 => rA u (by omega) u1)
                rw [ep] at g2
                obtain ⟨q1, q2⟩ := prune2 hO hv t0 t1 hz hr u0 u1 g2 u2 p5 k3 (by omega)
                rcases hsk with h2 | h2
                · omega
                · omega
      by_cases hm : t + 1 < mrF R (s 4 0 3)
      · obtain ⟨s2, d1, d2, d3, d4⟩ := ih (d - 1) X (zL (s 46 0 d)) zU (zI R) (zI (mrF R (s 4 0 3))) (by omega) (by omega) hP' I1' I2' I4' (skip (Or.inl hm))
        refine ⟨s2, fun m pc ls st fs Q => ?_, fun g hg => by rw [d2 g hg, Xg g hg], d3, d4⟩
        have em : (t + 1 < mrF R (s 4 0 3)) = True := eq_true hm
        have wt : w32 (t + 1) = t + 1 := w32_id (by omega) (by omega)
        rw [head]
        simp only [r31_79, r31_81, r31_82, r31_83, r31_84, r31_130, r31_133, em, wt, w1, zclr_I, zclr_R, zclr_L, zclr_U, reduceIte, Int.reduceEq, Int.reduceLT, Int.reduceLE, Int.reduceNeg, not_true_eq_false, not_false_eq_true, or_true, true_or, or_false, false_or, and_true, true_and, and_false, false_and, z01_or]
        exact d1 m pc ls st fs Q
      · have em : (t + 1 < mrF R (s 4 0 3)) = False := eq_false hm
        have wt : w32 (t + 1) = t + 1 := w32_id (by omega) (by omega)
        have m2 := mrF_2 R (s 4 0 3)
        have mb : 0 ≤ mrF R (s 4 0 3) * s 55 0 t ∧ mrF R (s 4 0 3) * s 55 0 t ≤ 5 * 576460752303423488 := by
          have b1 : mrF R (s 4 0 3) * s 55 0 t ≤ 5 * s 55 0 t := Int.mul_le_mul_of_nonneg_right (by omega) (by omega)
          have b2 : 0 ≤ mrF R (s 4 0 3) * s 55 0 t := Int.mul_nonneg (by omega) (by omega)
          omega
        have wC' : w64 (mrF R (s 4 0 3) * s 55 0 t) = mrF R (s 4 0 3) * s 55 0 t := w64_id (by omega) (by omega)
        have wD : w64 (s 46 0 d + mrF R (s 4 0 3) * s 55 0 t) = s 46 0 d + mrF R (s 4 0 3) * s 55 0 t := w64_id (by omega) (by omega)
        by_cases hp : s 46 0 d + mrF R (s 4 0 3) * s 55 0 t < v
        · have qp := cmpF hp
          obtain ⟨q1, q2⟩ := p2 t t0 t1
          obtain ⟨y0, y1, y2⟩ := zand_bi u0 u1 q1.1 q1.2
          have sr : ∀ x : Int, 0 < x → SubB x (zand R (s 45 0 t)) → SubB x H ∧ ∀ q : Int, 0 ≤ q → bi x q → ¬ bi d q := by
            intro x x0 hx
            refine ⟨fun q q0 hq => ?_, fun q q0 hq => ?_⟩
            · have := (y2 q q0).mp (hx q q0 hq)
              exact ((u2 q q0).mp this.1).1
            · have := (y2 q q0).mp (hx q q0 hq)
              exact ((u2 q q0).mp this.1).2
          obtain ⟨s1, c1, c2, c3, c4, c5⟩ := k_placeEach t d (zand R (s 45 0 t)) (by omega) (by omega) (by omega) y0 y1 X (by rw [Xd]; exact bd) (fun x x0 hx => by
            rw [X44]
            rcases p1 t x t0 t1 x0 (sr x x0 hx).1 with ⟨z1, z2⟩ | ⟨z1, z2⟩
            · rw [z2]; have := pr1 t x t0 t1 z1; omega
            · rw [z2]; omega)
          rw [X44, Xd] at c4 c5
          have dx : ∀ x : Int, 0 < x → SubB x (zand R (s 45 0 t)) → (0 ≤ zor d x ∧ zor d x < 1024) ∧ d < zor d x ∧ ∀ q : Int, 0 ≤ q → (bi (zor d x) q ↔ bi d q ∨ bi x q) := by
            intro x x0 hx
            have xl := SubB_le (by omega) y0 hx
            obtain ⟨o0, o1, o2⟩ := zor_bi (x := d) (y := x) (by omega) (by omega) (by omega) (by omega)
            refine ⟨⟨o0, o1⟩, ?_, o2⟩
            have l1 := SubB_le (x := d) (y := zor d x) (by omega) o0 (fun q q0 hq => (o2 q q0).mpr (Or.inl hq))
            have hne : ¬ d = zor d x := by
              intro e
              have hz : x = 0 := (zero_bi (by omega)).mpr (fun q q0 hq => by
                have h1 := (sr x x0 hx).2 q q0 hq
                rw [e] at h1
                exact h1 ((o2 q q0).mpr (Or.inr hq)))
              omega
            omega
          have hP1 := PTb_c (ok := ok) (pr := pr) (T := T) (H := H) (c2 44 (by omega)) (c2 45 (by omega)) (c2 55 (by omega)) (c2 4 (by omega)) hP'
          obtain ⟨s2, d1, d2, d3, d4⟩ := ih (d - 1) s1 (zL (s 46 0 d)) zU (zI R) (zI (mrF R (s 4 0 3))) (by omega) (by omega) hP1 (fun D D0 D1 => by
            rcases c5 D with h | ⟨x, x0, x1, x2, x3⟩
            · rw [h]; exact I1' D D0 (by omega)
            · have := (dx x x0 x1).2.1; omega) (fun D D0 D1 => by
            have I2D := I2' D D0 D1
            have m1 := c3 D
            rcases c5 D with h | ⟨x, x0, x1, x2, x3⟩
            · show (0 ≤ s1 46 0 D ∧ s1 46 0 D ≤ _) ∧ (s1 46 0 D < _ → ∃ A : Int → Int, VA ok t T D A ∧ CA pr t T A = s1 46 0 D)
              rw [h]; exact I2D
            · show (0 ≤ s1 46 0 D ∧ s1 46 0 D ≤ _) ∧ (s1 46 0 D < _ → ∃ A : Int → Int, VA ok t T D A ∧ CA pr t T A = s1 46 0 D)
              have b3 : X 46 0 D ≤ 2305843009213693952 := I2D.1.2
              rcases p1 t x t0 t1 x0 (sr x x0 x1).1 with ⟨z1, z2⟩ | ⟨z1, z2⟩
              · have pb := pr1 t x t0 t1 z1
                rw [z2] at x3
                refine ⟨by omega, fun hl => ?_⟩
                obtain ⟨b1, b2⟩ := VA_1x (E := D) hO t1 a1 z1 (sr x x0 x1).2 (fun q q0 => by rw [x2]; exact (dx x x0 x1).2.2 q q0)
                exact ⟨_, b1, by rw [b2, a2, x3, ed]⟩
              · rw [z2] at x3
                refine ⟨by omega, fun hl => by omega⟩) (fun D D0 D1 => Int.le_trans (c3 D) (I4' D D0 D1)) (fun A hv hq0 => by
            have mH := c3 H
            by_cases hq : d < suf A T (t + 1)
            · rcases I3' A hv hq with h | h
              · left; omega
              · right; have := c3 (suf A T t); omega
            · have ep : suf A T (t + 1) = d := by omega
              rcases base A hv ep with h | h
              · left; omega
              · right
                by_cases hz : A t = 0
                · obtain ⟨f1, f2⟩ := suf_0 hO hv t0 t1 hz
                  rw [f1, f2, ep]
                  have := c3 d
                  omega
                · have hok := (hv.1 t t0 t1).resolve_left hz
                  have xb := ok1 t _ hok
                  have rA := VA_r hO hv
                  obtain ⟨g0, g1, g2⟩ := suf_bi (A := A) (T := T) (t := t + 1) (by omega) (fun u u0 u1 => rA u (by omega) u1)
                  rw [ep] at g2
                  have dis : ∀ q : Int, 0 ≤ q → bi (A t) q → ¬ bi d q := by
                    intro q q0 hq2 hd2
                    obtain ⟨u, u0, u1, hu⟩ := (g2 q q0).mp hd2
                    exact hv.2.1 u t (by omega) u1 t0 t1 (by omega) q q0 hu hq2
                  have hsr : SubB (A t) (zand R (s 45 0 t)) := by
                    intro q q0 hq2
                    rw [y2 q q0, u2 q q0]
                    exact ⟨⟨xb.2 q q0 hq2, dis q q0 hq2⟩, q2 _ hok q q0 hq2⟩
                  have dd := dx (A t) xb.1.1 hsr
                  rw [suf_1 hO hv t0 t1 ep dd.1.1 dd.2.2, CA_front t1, if_neg hz]
                  have k4 := c4 (A t) xb.1.1 hsr
                  rcases p1 t (A t) t0 t1 xb.1.1 xb.2 with ⟨z1, z2⟩ | ⟨z1, z2⟩
                  · rw [z2] at k4; omega
                  · exact absurd hok z1)
          refine ⟨s2, fun m pc ls st fs Q => ?_, fun g hg => by rw [d2 g hg, c2 g hg, Xg g hg], d3, d4⟩
          rw [head]
          simp only [r31_79, r31_81, r31_82, r31_83, r31_84, r31_87, r31_89, r31_91, r31_92, r31_93, r31_96, r31_97, r31_98, r31_99, r31_100, r31_101, r31_104, r31_105, r31_106, r31_107, r31_110, r31_111, r31_113, r31_114, r31_117, r31_118, r31_119, r31_120, r31_121, r31_124, r31_125, r31_126, r31_127, r31_130, r31_133, em, wt, X55, X45, XH, bt, bH, wC', wD, qp, c1, w1, zak_40, zln_40, zak_41, zln_41, zak_42, zln_42, zak_43, zln_43, zak_44, zln_44, zak_45, zln_45, zak_46, zln_46, zak_47, zln_47, zak_48, zln_48, zak_49, zln_49, zak_50, zln_50, zak_51, zln_51, zak_52, zln_52, zak_53, zln_53, zak_54, zln_54, zak_55, zln_55, zak_73, zln_73, zak_74, zln_74, zak_75, zln_75, zak_76, zln_76, zak_77, zln_77, zak_78, zln_78, zak_79, zln_79, zak_80, zln_80, zak_81, zln_81, zak_82, zln_82, zak_83, zln_83, zak_84, zln_84, zak_85, zln_85, zak_86, zln_86, zak_87, zln_87, zak_88, zln_88, zak_89, zln_89, zak_90, zln_90, zak_91, zln_91, zak_92, zln_92, zak_93, zln_93, zak_94, zln_94, zak_95, zln_95, zak_96, zln_96, zak_97, zln_97, zak_98, zln_98, zak_99, zln_99, zak_100, zln_100, zak_101, zln_101, zak_102, zln_102, zak_103, zln_103, zak_104, zln_104, zak_105, zln_105, zak_108, zln_108, zak_109, zln_109, Nat.reduceLeDiff, zclr_I, zclr_R, zclr_L, zclr_U, reduceIte, Int.reduceEq, Int.reduceLT, Int.reduceLE, Int.reduceNeg, not_true_eq_false, not_false_eq_true, or_true, true_or, or_false, false_or, and_true, true_and, and_false, false_and, z01_or]
          exact d1 m pc ls st fs Q
        · have qp := cmpT hp
          obtain ⟨s2, d1, d2, d3, d4⟩ := ih (d - 1) X (zL (s 46 0 d)) zU (zI R) (zI (mrF R (s 4 0 3))) (by omega) (by omega) hP' I1' I2' I4' (skip (Or.inr (by omega)))
          refine ⟨s2, fun m pc ls st fs Q => ?_, fun g hg => by rw [d2 g hg, Xg g hg], d3, d4⟩
          rw [head]
          simp only [r31_79, r31_81, r31_82, r31_83, r31_84, r31_87, r31_89, r31_91, r31_92, r31_93, r31_96, r31_97, r31_98, r31_99, r31_100, r31_101, r31_104, r31_105, r31_106, r31_107, r31_130, r31_133, em, wt, X55, XH, bt, bH, wC', wD, qp, w1, zak_40, zln_40, zak_41, zln_41, zak_42, zln_42, zak_43, zln_43, zak_44, zln_44, zak_45, zln_45, zak_46, zln_46, zak_47, zln_47, zak_48, zln_48, zak_49, zln_49, zak_50, zln_50, zak_51, zln_51, zak_52, zln_52, zak_53, zln_53, zak_54, zln_54, zak_55, zln_55, zak_73, zln_73, zak_74, zln_74, zak_75, zln_75, zak_76, zln_76, zak_77, zln_77, zak_78, zln_78, zak_79, zln_79, zak_80, zln_80, zak_81, zln_81, zak_82, zln_82, zak_83, zln_83, zak_84, zln_84, zak_85, zln_85, zak_86, zln_86, zak_87, zln_87, zak_88, zln_88, zak_89, zln_89, zak_90, zln_90, zak_91, zln_91, zak_92, zln_92, zak_93, zln_93, zak_94, zln_94, zak_95, zln_95, zak_96, zln_96, zak_97, zln_97, zak_98, zln_98, zak_99, zln_99, zak_100, zln_100, zak_101, zln_101, zak_102, zln_102, zak_103, zln_103, zak_104, zln_104, zak_105, zln_105, zak_108, zln_108, zak_109, zln_109, Nat.reduceLeDiff, zclr_I, zclr_R, zclr_L, zclr_U, reduceIte, Int.reduceEq, Int.reduceLT, Int.reduceLE, Int.reduceNeg, not_true_eq_false, not_false_eq_true, or_true, true_or, or_false, false_or, and_true, true_and, and_false, false_and, z01_or]
          exact d1 m pc ls st fs Q
    · have qw := cmpT hw
      obtain ⟨s2, d1, d2, d3, d4⟩ := ih (d - 1) s (zL (s 46 0 d)) zU v6 v7 (by omega) (by omega) hP (fun D D0 D1 => I1 D D0 (by omega)) I2 I4 (fun A hv hp => by
        by_cases hq : d < suf A T (t + 1)
        · exact I3 A hv hq
        · have ep : suf A T (t + 1) = d := by omega
          rcases hC A hv with h | h
          · left; have := I4 H H0 H1; omega
          · rw [ep] at h
            by_cases hz : A t = 0
            · obtain ⟨f1, f2⟩ := suf_0 hO hv t0 t1 hz
              right
              rw [f1, f2, ep, ed]; exact h
            · left
              have q1 := prune1 hO hv t0 t1 hz
              have q2 := k3 t (A t) t0 (Int.le_refl _) ((hv.1 t t0 t1).resolve_left hz)
              omega)
      refine ⟨s2, fun m pc ls st fs Q => ?_, d2, d3, d4⟩
      rw [r31_2]
      simp only [r31_3, r31_6, r31_7, r31_10, r31_11, r31_12, r31_14, r31_16, r31_17, r31_20, r31_21, r31_22, r31_23, r31_24, r31_27, r31_28, r31_29, r31_30, r31_130, r31_133, e1, bt, bH, bdd, wA, qw, w1, zak_40, zln_40, zak_41, zln_41, zak_42, zln_42, zak_43, zln_43, zak_44, zln_44, zak_45, zln_45, zak_46, zln_46, zak_47, zln_47, zak_48, zln_48, zak_49, zln_49, zak_50, zln_50, zak_51, zln_51, zak_52, zln_52, zak_53, zln_53, zak_54, zln_54, zak_55, zln_55, zak_73, zln_73, zak_74, zln_74, zak_75, zln_75, zak_76, zln_76, zak_77, zln_77, zak_78, zln_78, zak_79, zln_79, zak_80, zln_80, zak_81, zln_81, zak_82, zln_82, zak_83, zln_83, zak_84, zln_84, zak_85, zln_85, zak_86, zln_86, zak_87, zln_87, zak_88, zln_88, zak_89, zln_89, zak_90, zln_90, zak_91, zln_91, zak_92, zln_92, zak_93, zln_93, zak_94, zln_94, zak_95, zln_95, zak_96, zln_96, zak_97, zln_97, zak_98, zln_98, zak_99, zln_99, zak_100, zln_100, zak_101, zln_101, zak_102, zln_102, zak_103, zln_103, zak_104, zln_104, zak_105, zln_105, zak_108, zln_108, zak_109, zln_109, Nat.reduceLeDiff, zclr_I, zclr_R, zclr_L, zclr_U, reduceIte, Int.reduceEq, Int.reduceLT, Int.reduceLE, Int.reduceNeg, not_true_eq_false, not_false_eq_true, or_true, true_or, or_false, false_or, and_true, true_and, and_false, false_and, z01_or]
      exact d1 m pc ls st fs Q
theorem k_placeBy (hO : PrO ok pr T H) (t : Int) (t0 : 0 ≤ t) (t1 : t < T) (s : zS) (hP : PTb ok pr T H s) (hS : LSnd ok pr T (t + 1) (fun D => s 46 0 D)) (hC : LCmp ok pr T H (t + 1) (fun D => s 46 0 D)) : ∃ s1 : zS, (∀ (m pc : Nat) (ls st : List zV) (fs : List zFr) (Q : List zV → zS → Prop), Ev ((31, 0, [zR 4 0, zI t, zI H, zU, zU, zU, zU, zU], []) :: (m, pc, ls, st) :: fs) s Q = Ev ((m, pc, ls, st) :: fs) s1 Q) ∧ (∀ g : Nat, ¬ g = 46 → s1 g = s g) ∧ LSnd ok pr T t (fun D => s1 46 0 D) ∧ LCmp ok pr T H t (fun D => s1 46 0 D) := by
  obtain ⟨⟨H0, H1⟩, ⟨T0, T1⟩, ok1, pr1⟩ := id hO
  obtain ⟨s1, c1, c2, c3, c4⟩ := lp31 hO t t0 t1 (fun D => s 46 0 D) hS hC (H + 1).toNat H s zU zU zU zU (by omega) (by omega) hP (fun _ _ _ => rfl) (LSnd_s t1 hS) (fun _ _ _ => Int.le_refl _) (fun A hv hp => by
    obtain ⟨b0, b1, b2⟩ := suf_bi (A := A) (T := T) (t := t + 1) (by omega) (fun u u0 u1 => VA_r hO hv u (by omega) u1)
    have := SubB_le b0 H0 (fun q q0 hq => by
      obtain ⟨u, x0, x1, hu⟩ := (b2 q q0).mp hq
      exact (hv.2.2 q q0).mpr ⟨u, by omega, x1, hu⟩)
    omega)
  refine ⟨s1, fun m pc ls st fs Q => ?_, c2, c3, c4⟩
  simp only [r31_0, r31_1, zclr_I, zclr_R, zclr_L, zclr_U, reduceIte, Int.reduceEq, Int.reduceLT, Int.reduceLE, Int.reduceNeg, not_true_eq_false, not_false_eq_true, or_true, true_or, or_false, false_or, and_true, true_and, and_false, false_and, z01_or]
  exact c1 m pc ls st fs Q
/-- the least price of all classings -/
def Fin1 (ok : Int → Int → Prop) (pr : Int → Int → Int) (T H w : Int) : Prop := (0 ≤ w ∧ w ≤ 2305843009213693952) ∧ (∀ A : Int → Int, VA ok 0 T H A → w ≤ CA pr 0 T A) ∧ (w < 2305843009213693952 → ∃ A : Int → Int, VA ok 0 T H A ∧ CA pr 0 T A = w)
theorem Fin1_0 (hO : PrO ok pr T H) {L : Int → Int} (hS : LSnd ok pr T 0 L) (hC : LCmp ok pr T H 0 L) : Fin1 ok pr T H (L H) := by
  obtain ⟨⟨H0, H1⟩, ⟨T0, T1⟩, ok1, pr1⟩ := id hO
  obtain ⟨a1, a2⟩ := hS H H0 H1
  refine ⟨a1, fun A hv => ?_, a2⟩
  obtain ⟨b0, b1, b2⟩ := suf_bi (A := A) (T := T) (t := 0) T0 (fun u u0 u1 => VA_r hO hv u u0 u1)
  have e : suf A T 0 = H := bi_ext b0 H0 (fun q q0 => by rw [b2 q q0, hv.2.2 q q0])
  rcases hC A hv with h | h
  · exact h
  · rw [e] at h; exact h
/-- placeBy for all teachers, the last first -/
theorem lp27 (hO : PrO ok pr T H) (v2 v5 v6 : zV) : ∀ (k : Nat) (t : Int) (s : zS), t + 1 = k → t < T → PTb ok pr T H s → LSnd ok pr T (t + 1) (fun D => s 46 0 D) → LCmp ok pr T H (t + 1) (fun D => s 46 0 D) → ∃ s1 : zS, (∀ (F : List zFr) (Q : List zV → zS → Prop), Ev ((27, 41, [zR 4 0, zR 6 0, v2, zI H, zI t, v5, v6], []) :: F) s Q = Ev ((27, 59, [zR 4 0, zR 6 0, v2, zI H, zI (-1), v5, v6], []) :: F) s1 Q) ∧ (∀ g : Nat, ¬ g = 46 → s1 g = s g) ∧ LSnd ok pr T 0 (fun D => s1 46 0 D) ∧ LCmp ok pr T H 0 (fun D => s1 46 0 D) := by
  obtain ⟨⟨H0, H1⟩, ⟨T0, T1⟩, ok1, pr1⟩ := id hO
  intro k
  induction k with
  | zero =>
    intro t s t0 t1 hP hS hC
    have e1 : (t < 0) = True := eq_true (by omega)
    have e2 : t + 1 = 0 := by omega
    rw [e2] at hS hC
    refine ⟨s, fun F Q => ?_, fun _ _ => rfl, hS, hC⟩
    rw [r27_41]
    simp only [r27_43, e1, zclr_I, zclr_R, zclr_L, zclr_U, reduceIte, Int.reduceEq, Int.reduceLT, Int.reduceLE, Int.reduceNeg, not_true_eq_false, not_false_eq_true, or_true, true_or, or_false, false_or, and_true, true_and, and_false, false_and, z01_or]
    rw [show t = -1 by omega]
  | succ k ih =>
    intro t s t0 t1 hP hS hC
    have e1 : (t < 0) = False := eq_false (by omega)
    have w1 : w32 (t + -1) = t - 1 := by rw [w32_id (by omega) (by omega)]; omega
    obtain ⟨s1, c1, c2, c3, c4⟩ := k_placeBy hO t (by omega) t1 s hP hS hC
    have hP1 := PTb_c (ok := ok) (pr := pr) (T := T) (H := H) (c2 44 (by omega)) (c2 45 (by omega)) (c2 55 (by omega)) (c2 4 (by omega)) hP
    have e2 : t - 1 + 1 = t := by omega
    obtain ⟨s2, d1, d2, d3, d4⟩ := ih (t - 1) s1 (by omega) (by omega) hP1 (by rw [e2]; exact c3) (by rw [e2]; exact c4)
    refine ⟨s2, fun F Q => ?_, fun g hg => by rw [d2 g hg, c2 g hg], d3, d4⟩
    rw [r27_41]
    simp only [r27_43, r27_46, r27_47, r27_49, r27_50, r27_53, r27_56, c1, e1, w1, zclr_I, zclr_R, zclr_L, zclr_U, reduceIte, Int.reduceEq, Int.reduceLT, Int.reduceLE, Int.reduceNeg, not_true_eq_false, not_false_eq_true, or_true, true_or, or_false, false_or, and_true, true_and, and_false, false_and, z01_or]
    exact d1 F Q
end

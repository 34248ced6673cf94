/-! classings: how many classes those left need -/
theorem popc_b {x : Int} (h0 : 0 ≤ x) (h1 : x < 1024) : 0 ≤ popc x ∧ popc x ≤ 10 := by
  have := sumF_n (f := fun k => zand (zshr x k) 1) (M := 1) (by omega) 10 0 (fun i i0 i1 => by
    show 0 ≤ zand (zshr x i) 1 ∧ zand (zshr x i) 1 ≤ 1
    rw [has_z h0 h1 i0 (by omega)]
    by_cases c : x.toNat.testBit i.toNat = true
    · rw [if_pos c]; omega
    · rw [if_neg c]; omega)
  have e : popc x = sumF (fun k => zand (zshr x k) 1) 0 10 := rfl
  rw [e]
  omega
theorem popc_hb {x : Int} (h0 : 0 ≤ x) (h1 : x < 1024) : popc x = sumF (fun k => hb x k) 0 10 := by
  refine sumF_c _ _ (fun i i0 i1 => ?_)
  exact has_z h0 h1 i0 (by omega)
theorem dif_bi {x y : Int} (x0 : 0 ≤ x) (x1 : x < 1024) (y0 : 0 ≤ y) (hy : SubB y x) : 0 ≤ zand x (zxor y (-1)) ∧ zand x (zxor y (-1)) < 1024 ∧ SubB (zand x (zxor y (-1))) x ∧ (∀ q : Int, 0 ≤ q → (bi (zand x (zxor y (-1))) q ↔ bi x q ∧ ¬ bi y q)) ∧ (∀ q : Int, 0 ≤ q → (bi x q ↔ bi (zand x (zxor y (-1))) q ∨ bi y q)) := by
  have yl := SubB_le y0 x0 hy
  obtain ⟨b0, b1, b2⟩ := zandnot_bi x0 x1 y0 (show y < 1024 by omega)
  refine ⟨b0, b1, fun q q0 hq => ((b2 q q0).mp hq).1, b2, fun q q0 => ?_⟩
  rw [b2 q q0]
  constructor
  · intro h
    by_cases d : bi y q
    · exact Or.inr d
    · exact Or.inl ⟨h, d⟩
  · rintro (h | h)
    · exact h.1
    · exact hy q q0 h
theorem CA_lin {c c1 c2 : Int → Int → Int} {a b : Int} (hi : Int) (A : Int → Int) : ∀ (k : Nat) (lo : Int), lo + k = hi → (∀ u : Int, lo ≤ u → u < hi → ¬ A u = 0 → c u (A u) = a * c1 u (A u) + b * c2 u (A u)) → CA c lo hi A = a * CA c1 lo hi A + b * CA c2 lo hi A := by
  intro k
  induction k with
  | zero => intro lo h _; rw [CA_0 (by omega), CA_0 (by omega), CA_0 (by omega), Int.mul_zero, Int.mul_zero]; rfl
  | succ k ih =>
    intro lo h hc
    rw [CA_front (c := c) (by omega), CA_front (c := c1) (by omega), CA_front (c := c2) (by omega), ih (lo + 1) (by omega) (fun u u0 u1 => hc u (by omega) u1), Int.mul_add, Int.mul_add]
    by_cases e : A lo = 0
    · rw [if_pos e, if_pos e, if_pos e, Int.mul_zero, Int.mul_zero]; omega
    · rw [if_neg e, if_neg e, if_neg e, hc lo (by omega) (by omega) e]; omega
theorem CA_le {c c1 : Int → Int → Int} (hi : Int) (A : Int → Int) : ∀ (k : Nat) (lo : Int), lo + k = hi → (∀ u : Int, lo ≤ u → u < hi → ¬ A u = 0 → c u (A u) ≤ c1 u (A u)) → CA c lo hi A ≤ CA c1 lo hi A := by
  intro k
  induction k with
  | zero => intro lo h _; rw [CA_0 (by omega), CA_0 (by omega)]; exact Int.le_refl _
  | succ k ih =>
    intro lo h hc
    have a := ih (lo + 1) (by omega) (fun u u0 u1 => hc u (by omega) u1)
    rw [CA_front (c := c) (by omega), CA_front (c := c1) (by omega)]
    by_cases e : A lo = 0
    · rw [if_pos e, if_pos e]; omega
    · rw [if_neg e, if_neg e]; have := hc lo (by omega) (by omega) e; omega
theorem CA_1 (hi : Int) (A : Int → Int) : ∀ (k : Nat) (lo : Int), lo + k = hi → CA (fun _ _ => 1) lo hi A ≤ k := by
  intro k
  induction k with
  | zero => intro lo h; rw [CA_0 (by omega)]; omega
  | succ k ih =>
    intro lo h
    have a := ih (lo + 1) (by omega)
    rw [CA_front (by omega)]
    by_cases e : A lo = 0
    · rw [if_pos e]; omega
    · rw [if_neg e]; omega
theorem sumF_add (f g : Int → Int) : ∀ (k : Nat) (t : Int), sumF (fun i => f i + g i) t k = sumF f t k + sumF g t k := by
  intro k
  induction k with
  | zero => intro t; rfl
  | succ k ih =>
    intro t
    show f t + g t + sumF (fun i => f i + g i) (t + 1) k = f t + sumF f (t + 1) k + (g t + sumF g (t + 1) k)
    rw [ih]; omega
theorem sumF_le {f g : Int → Int} : ∀ (k : Nat) (t : Int), (∀ i, t ≤ i → i < t + k → f i ≤ g i) → sumF f t k ≤ sumF g t k := by
  intro k
  induction k with
  | zero => intro t _; exact Int.le_refl _
  | succ k ih =>
    intro t h
    have a := ih (t + 1) (fun i i0 i1 => h i (by omega) (by omega))
    have b := h t (by omega) (by omega)
    show f t + sumF f (t + 1) k ≤ g t + sumF g (t + 1) k
    omega
theorem popc_and {x y : Int} (x0 : 0 ≤ x) (x1 : x < 1024) (y0 : 0 ≤ y) (y1 : y < 1024) : popc (zand x y) ≤ popc x := by
  obtain ⟨b0, b1, b2⟩ := zand_bi x0 x1 y0 y1
  rw [popc_hb b0 b1, popc_hb x0 x1]
  refine sumF_le _ _ (fun i i0 i1 => ?_)
  unfold hb
  by_cases c : tb (zand x y) i = true
  · rw [if_pos c, if_pos (show tb x i = true from ((b2 i i0).mp c).1)]; omega
  · rw [if_neg c]
    by_cases d : tb x i = true
    · rw [if_pos d]; omega
    · rw [if_neg d]; omega
theorem CA_pop {ok : Int → Int → Prop} (hok : ∀ t x : Int, ok t x → 0 < x ∧ x < 1024) (hi : Int) (A : Int → Int) : ∀ (k : Nat) (lo E : Int), lo + k = hi → 0 ≤ E → E < 1024 → VA ok lo hi E A → CA (fun _ x => popc x) lo hi A = popc E := by
  intro k
  induction k with
  | zero =>
    intro lo E h E0 E1 hv
    rw [CA_0 (by omega), (VA_e (by omega) E0).mp hv]
    rfl
  | succ k ih =>
    intro lo E h E0 E1 hv
    have a0 : 0 ≤ A lo := by
      rcases hv.1 lo (by omega) (by omega) with z | z
      · omega
      · have := hok lo _ z; omega
    have as : SubB (A lo) E := fun q q0 hq => (hv.2.2 q q0).mpr ⟨lo, by omega, by omega, hq⟩
    have al := SubB_le a0 E0 as
    obtain ⟨d0, d1, d2, d3, d4⟩ := dif_bi E0 E1 a0 as
    obtain ⟨f1, -⟩ := VA_front hv (by omega) d3
    rw [CA_front (by omega), ih (lo + 1) _ (by omega) d0 d1 f1]
    have e : popc E = popc (A lo) + popc (zand E (zxor (A lo) (-1))) := by
      rw [popc_hb E0 E1, popc_hb a0 (by omega), popc_hb d0 d1, ← sumF_add]
      refine sumF_c _ _ (fun i i0 i1 => ?_)
      unfold hb
      by_cases c : tb (A lo) i = true
      · rw [if_pos c, if_pos (show tb E i = true from as i i0 c), if_neg (show ¬ tb (zand E (zxor (A lo) (-1))) i = true from fun z => ((d3 i i0).mp z).2 c)]; omega
      · rw [if_neg c]
        by_cases d : tb E i = true
        · rw [if_pos d, if_pos (show tb (zand E (zxor (A lo) (-1))) i = true from (d3 i i0).mpr ⟨d, c⟩)]; omega
        · rw [if_neg d, if_neg (show ¬ tb (zand E (zxor (A lo) (-1))) i = true from fun z => d ((d3 i i0).mp z).1)]; omega
    rw [e]
    by_cases c : A lo = 0
    · rw [if_pos c, c]; rfl
    · rw [if_neg c]
def suf (A : Int → Int) (T t : Int) : Int := orF (fun q => anyF (fun u => tb (A u) q) t (T - t).toNat) 0 0 10
theorem suf_bi {A : Int → Int} {T t : Int} (t1 : t ≤ T) (hA : ∀ u : Int, t ≤ u → u < T → 0 ≤ A u ∧ A u < 1024) : 0 ≤ suf A T t ∧ suf A T t < 1024 ∧ ∀ q : Int, 0 ≤ q → (bi (suf A T t) q ↔ ∃ u : Int, t ≤ u ∧ u < T ∧ bi (A u) q) := by
  obtain ⟨b0, b1, b2⟩ := orF_bi (fun q => anyF (fun u => tb (A u) q) t (T - t).toNat) 10 0 0 (by omega) (by omega) (by omega) (by omega)
  refine ⟨b0, b1, fun q q0 => ?_⟩
  unfold suf
  rw [b2 q q0, anyF_t]
  constructor
  · rintro (z | ⟨z1, z2, u, u0, u1, hu⟩)
    · exact absurd z (bi_0 q)
    · exact ⟨u, u0, by omega, hu⟩
  · rintro ⟨u, u0, u1, hu⟩
    have := bi_10 (hA u u0 u1).1 (hA u u0 u1).2 q0 hu
    exact Or.inr ⟨q0, by omega, u, u0, by omega, hu⟩
/-- those ahead of t have what the others leave -/
theorem VA_low {ok : Int → Int → Prop} {T H t d R : Int} {A : Int → Int} (hv : VA ok 0 T H A) (t0 : 0 ≤ t) (t1 : t ≤ T) (hd : ∀ q : Int, 0 ≤ q → (bi d q ↔ ∃ u : Int, t ≤ u ∧ u < T ∧ bi (A u) q)) (hR : ∀ q : Int, 0 ≤ q → (bi R q ↔ bi H q ∧ ¬ bi d q)) : VA ok 0 t R A := by
  obtain ⟨h1, h2, h3⟩ := hv
  refine ⟨fun u u0 u1 => h1 u u0 (by omega), fun u v u0 u1 v0 v1 => h2 u v u0 (by omega) v0 (by omega), fun q q0 => ?_⟩
  rw [hR q q0, h3 q q0, hd q q0]
  constructor
  · rintro ⟨⟨u, u0, u1, hu⟩, hn⟩
    exact ⟨u, u0, Classical.byContradiction fun c => hn ⟨u, by omega, u1, hu⟩, hu⟩
  · rintro ⟨u, u0, u1, hu⟩
    exact ⟨⟨u, u0, by omega, hu⟩, fun ⟨v, v0, v1, hw⟩ => h2 u v u0 (by omega) (by omega) v1 (by omega) q q0 hu hw⟩
/-- a price or a size for each class -/
theorem CA_each {c : Int → Int → Int} {a hi : Int} {A : Int → Int} (h0 : 0 ≤ hi) (hc : ∀ u : Int, 0 ≤ u → u < hi → ¬ A u = 0 → a ≤ c u (A u)) : a * CA (fun _ _ => 1) 0 hi A ≤ CA c 0 hi A := by
  have e := CA_le (c := fun _ _ => a) (c1 := c) hi A hi.toNat 0 (by omega) hc
  rw [CA_lin (c1 := fun _ _ => 1) (c2 := fun _ _ => 1) (a := a) (b := 0) hi A hi.toNat 0 (by omega) (fun u _ _ _ => by show a = a * 1 + 0 * 1; omega), Int.zero_mul, Int.add_zero] at e
  exact e
theorem CA_atmost {c : Int → Int → Int} {a hi : Int} {A : Int → Int} (h0 : 0 ≤ hi) (hc : ∀ u : Int, 0 ≤ u → u < hi → ¬ A u = 0 → c u (A u) ≤ a) : CA c 0 hi A ≤ a * CA (fun _ _ => 1) 0 hi A := by
  have e := CA_le (c := c) (c1 := fun _ _ => a) hi A hi.toNat 0 (by omega) hc
  rw [CA_lin (c := fun _ _ => a) (c1 := fun _ _ => 1) (c2 := fun _ _ => 1) (a := a) (b := 0) hi A hi.toNat 0 (by omega) (fun u _ _ _ => by show a = a * 1 + 0 * 1; omega), Int.zero_mul, Int.add_zero] at e
  exact e
theorem CA_1n {lo hi : Int} {A : Int → Int} (h : lo ≤ hi) : 0 ≤ CA (fun _ _ => 1) lo hi A := CA_nn hi A (hi - lo).toNat lo (by omega) (fun _ _ _ => Or.inr (by show (0 : Int) ≤ 1; omega))
/-- two classes at least, if the last has not all -/
theorem two_le {ok : Int → Int → Prop} {t R : Int} {A : Int → Int} (t0 : 0 ≤ t) (R0 : 0 ≤ R) (a0 : 0 ≤ A t) (hv : VA ok 0 (t + 1) R A) (hz : ¬ A t = 0) (hn : ¬ A t = R) : 2 ≤ CA (fun _ _ => 1) 0 (t + 1) A := by
  have he : ∃ u : Int, 0 ≤ u ∧ u < t ∧ ¬ A u = 0 := by
    refine Classical.byContradiction fun hh => hn ?_
    refine bi_ext a0 R0 (fun q q0 => ?_)
    rw [hv.2.2 q q0]
    constructor
    · intro h; exact ⟨t, t0, by omega, h⟩
    · rintro ⟨u, u0, u1, hu⟩
      by_cases e : u = t
      · rw [e] at hu; exact hu
      · have : A u = 0 := Classical.byContradiction fun z => hh ⟨u, u0, by omega, z⟩
        rw [this] at hu
        exact absurd hu (bi_0 q)
  obtain ⟨u, u0, u1, u2⟩ := he
  have b := CA_back (c := fun _ _ => 1) (A := A) t0
  have sp := CA_split (c := fun _ _ => 1) t A u.toNat 0 u (by omega) (by omega)
  have f := CA_front (c := fun _ _ => 1) (A := A) u1
  rw [if_neg hz] at b
  rw [if_neg u2] at f
  have n1 := CA_1n (A := A) u0
  have n2 := CA_1n (A := A) (show u + 1 ≤ t by omega)
  omega
/-- classesFor -/
def clF (R g : Int) : Int := if 0 < g then (popc R + g - 1) / g else 0
def mrF (R g : Int) : Int := if 2 < clF R g then clF R g else 2
theorem mrF_le {R g N : Int} (hN : 2 ≤ N) (h : popc R ≤ g * N) : mrF R g ≤ N := by
  have k : clF R g ≤ N := by
    unfold clF
    by_cases c : 0 < g
    · rw [if_pos c]
      have e : (N + 1) * g = g * N + g := by rw [Int.add_mul, Int.one_mul, Int.mul_comm]
      have := Int.ediv_lt_of_lt_mul c (show popc R + g - 1 < (N + 1) * g by omega)
      omega
    · rw [if_neg c]; omega
  unfold mrF
  by_cases c : 2 < clF R g
  · rw [if_pos c]; exact k
  · rw [if_neg c]; exact hN
theorem mrF_2 (R g : Int) : 2 ≤ mrF R g := by
  unfold mrF
  by_cases c : 2 < clF R g
  · rw [if_pos c]; omega
  · rw [if_neg c]; omega
section
variable {m pc : Nat} {ls st : List zV} {fs : List zFr} {s : zS} {Q : List zV → zS → Prop}
theorem k_classesFor (R : Int) (R0 : 0 ≤ R) (R1 : R < 1024) (hg : 0 ≤ s 4 0 3 ∧ s 4 0 3 ≤ 10) : Ev ((34, 0, [zR 4 0, zI R], []) :: (m, pc, ls, st) :: fs) s Q = Ev ((m, pc, ls, zI (clF R (s 4 0 3)) :: st) :: fs) s Q := by
  have pb := popc_b R0 R1
  unfold clF
  by_cases c : 0 < s 4 0 3
  · have e1 : (s 4 0 3 ≤ 0) = False := eq_false (by omega)
    have e2 : (s 4 0 3 = 0) = False := eq_false (by omega)
    have w1 : w32 (popc R + s 4 0 3) = popc R + s 4 0 3 := w32_id (by omega) (by omega)
    have w2 : w32 (popc R + s 4 0 3 - 1) = popc R + s 4 0 3 - 1 := w32_id (by omega) (by omega)
    have zd : zdiv (popc R + s 4 0 3 - 1) (s 4 0 3) = (popc R + s 4 0 3 - 1) / s 4 0 3 := zdiv_p (by omega) (by omega) (by omega) (by omega)
    rw [if_pos c]
    simp only [r34_0, r34_1, r34_4, r34_7, r34_8, r34_11, r34_12, r34_15, r34_16, r34_17, r34_18, r34_19, r34_22, r34_23, r34_26, r34_27, k_bitCount R R0 R1, e1, e2, w1, w2, zd, zclr_I, zclr_R, zclr_L, zclr_U, reduceIte, Int.reduceEq, Int.reduceLT, Int.reduceLE, Int.reduceNeg, not_true_eq_false, not_false_eq_true, or_true, true_or, or_false, false_or, and_true, true_and, and_false, false_and, z01_or]
  · have e1 : (s 4 0 3 ≤ 0) = True := eq_true (by omega)
    rw [if_neg c]
    simp only [r34_0, r34_1, r34_4, r34_7, r34_8, r34_11, r34_12, r34_15, r34_16, r34_17, r34_18, r34_19, r34_22, r34_23, r34_26, r34_27, e1, zclr_I, zclr_R, zclr_L, zclr_U, reduceIte, Int.reduceEq, Int.reduceLT, Int.reduceLE, Int.reduceNeg, not_true_eq_false, not_false_eq_true, or_true, true_or, or_false, false_or, and_true, true_and, and_false, false_and, z01_or]
end

theorem lexd {a0 a1 a2 a3 a4 b0 b1 b2 b3 b4 : Int} (ra : (0 ≤ a0 ∧ a0 < 1024) ∧ (0 ≤ a1 ∧ a1 < 1024) ∧ (0 ≤ a2 ∧ a2 < 1024) ∧ (0 ≤ a3 ∧ a3 < 1024) ∧ 0 ≤ a4 ∧ a4 < 1024) (rb : (0 ≤ b0 ∧ b0 < 1024) ∧ (0 ≤ b1 ∧ b1 < 1024) ∧ (0 ≤ b2 ∧ b2 < 1024) ∧ (0 ≤ b3 ∧ b3 < 1024) ∧ 0 ≤ b4 ∧ b4 < 1024) (ht : a0 * 1099511627776 + a1 * 1073741824 + a2 * 1048576 + a3 * 1024 + a4 ≤ b0 * 1099511627776 + b1 * 1073741824 + b2 * 1048576 + b3 * 1024 + b4) (h0 : b0 ≤ a0) (h1 : a0 = b0 → b1 ≤ a1) (h2 : a0 = b0 → a1 = b1 → b2 ≤ a2) (h3 : a0 = b0 → a1 = b1 → a2 = b2 → b3 ≤ a3) (h4 : a0 = b0 → a1 = b1 → a2 = b2 → a3 = b3 → b4 ≤ a4) : a0 = b0 ∧ a1 = b1 ∧ a2 = b2 ∧ a3 = b3 ∧ a4 = b4 := by
  have e0 : a0 = b0 := by omega
  have g1 := h1 e0
  have e1 : a1 = b1 := by omega
  have g2 := h2 e0 e1
  have e2 : a2 = b2 := by omega
  have g3 := h3 e0 e1 e2
  have e3 : a3 = b3 := by omega
  have g4 := h4 e0 e1 e2 e3
  exact ⟨e0, e1, e2, e3, by omega⟩
theorem popc_0 : popc 0 = 0 := by decide
/-- of those who are not settled, in a classing -/
theorem CA_popS {ok : Int → Int → Prop} {S : Int} (S0 : 0 ≤ S) (S1 : S < 1024) (hok : ∀ t x : Int, ok t x → 0 < x ∧ x < 1024) (hi : Int) (A : Int → Int) : ∀ (k : Nat) (lo E : Int), lo + k = hi → 0 ≤ E → E < 1024 → VA ok lo hi E A → CA (fun _ x => popc (zand x (zxor S (-1)))) lo hi A = popc (zand E (zxor S (-1))) := by
  have z0 : zand 0 (zxor S (-1)) = 0 := by
    obtain ⟨b0, b1, b2⟩ := zandnot_bi (x := 0) (by omega) (by omega) S0 S1
    exact (zero_bi b0).mpr (fun q q0 hq => bi_0 q ((b2 q q0).mp hq).1)
  intro k
  induction k with
  | zero =>
    intro lo E h E0 E1 hv
    rw [CA_0 (by omega), (VA_e (by omega) E0).mp hv, z0, popc_0]
  | succ k ih =>
    intro lo E h E0 E1 hv
    have a0 : 0 ≤ A lo := by
      rcases hv.1 lo (by omega) (by omega) with z | z
      · omega
      · have := hok lo _ z; omega
    have as : SubB (A lo) E := fun q q0 hq => (hv.2.2 q q0).mpr ⟨lo, by omega, by omega, hq⟩
    have al := SubB_le a0 E0 as
    obtain ⟨d0, d1, d2, d3, d4⟩ := dif_bi E0 E1 a0 as
    obtain ⟨f1, -⟩ := VA_front hv (by omega) d3
    rw [CA_front (by omega), ih (lo + 1) _ (by omega) d0 d1 f1]
    obtain ⟨p0, p1, p2⟩ := zandnot_bi E0 E1 S0 S1
    obtain ⟨q0, q1, q2⟩ := zandnot_bi a0 (show A lo < 1024 by omega) S0 S1
    obtain ⟨r0, r1, r2⟩ := zandnot_bi d0 d1 S0 S1
    have e : popc (zand E (zxor S (-1))) = popc (zand (A lo) (zxor S (-1))) + popc (zand (zand E (zxor (A lo) (-1))) (zxor S (-1))) := by
      rw [popc_hb p0 p1, popc_hb q0 q1, popc_hb r0 r1, ← sumF_add]
      refine sumF_c _ _ (fun i i0 i1 => ?_)
      have P : tb (zand E (zxor S (-1))) i = true ↔ (tb E i = true ∧ ¬ tb S i = true) := p2 i i0
      have Q : tb (zand (A lo) (zxor S (-1))) i = true ↔ (tb (A lo) i = true ∧ ¬ tb S i = true) := q2 i i0
      have R : tb (zand (zand E (zxor (A lo) (-1))) (zxor S (-1))) i = true ↔ (tb (zand E (zxor (A lo) (-1))) i = true ∧ ¬ tb S i = true) := r2 i i0
      have D : tb (zand E (zxor (A lo) (-1))) i = true ↔ (tb E i = true ∧ ¬ tb (A lo) i = true) := d3 i i0
      have sb : tb (A lo) i = true → tb E i = true := as i i0
      unfold hb
      by_cases cS : tb S i = true
      · rw [if_neg (fun z => (P.mp z).2 cS), if_neg (fun z => (Q.mp z).2 cS), if_neg (fun z => (R.mp z).2 cS)]; omega
      · by_cases cA : tb (A lo) i = true
        · rw [if_pos (P.mpr ⟨sb cA, cS⟩), if_pos (Q.mpr ⟨cA, cS⟩), if_neg (fun z => (D.mp (R.mp z).1).2 cA)]; omega
        · rw [if_neg (fun z => cA (Q.mp z).1)]
          by_cases cE : tb E i = true
          · rw [if_pos (P.mpr ⟨cE, cS⟩), if_pos (R.mpr ⟨D.mpr ⟨cE, cA⟩, cS⟩)]; omega
          · rw [if_neg (fun z => cE (P.mp z).1), if_neg (fun z => cE (D.mp (R.mp z).1).1)]; omega
    rw [e]
    by_cases c : A lo = 0
    · rw [if_pos c, c, z0, popc_0]
    · rw [if_neg c]
/-- who moves: the settled who do, and all others -/
theorem mC_split {L : Nat} {s : zS} (hs : Inv L s) {t x : Int} (t0 : 0 ≤ t) (t1 : t < s 11 0 1) (hx : okS s t x) : mC s t x = mC s t (zand x (stl s)) + popc (zand x (zxor (stl s) (-1))) := by
  obtain ⟨a, b⟩ := Te5_I hs
  obtain ⟨S0, S1, S2⟩ := stl_bi a.1 b
  obtain ⟨h1, h2, h3, h4, h5, h6, h7, h8, h9, h10, h11, h12, h13, h14, h15, h16⟩ := id hs
  have eT := h5.1
  have hi : s 8 t 2 = 0 := by
    rw [(h15 t t0 t1).2.2.1.1]
    refine Classical.byContradiction fun z => ?_
    have := hx.2.2
    unfold mayM at this
    rw [if_pos z] at this
    omega
  have x0 : 0 ≤ x := by have := hx.1; omega
  have x1 : x < 1024 := hx.1.2
  have tB := (TeB_I hs t0 t1).1
  obtain ⟨p0, p1, p2⟩ := zandnot_bi x0 x1 tB.1 tB.2
  obtain ⟨q0, q1, q2⟩ := zand_bi x0 x1 S0 S1
  obtain ⟨r0, r1, r2⟩ := zandnot_bi q0 q1 tB.1 tB.2
  obtain ⟨u0, u1, u2⟩ := zandnot_bi x0 x1 S0 S1
  unfold mC
  rw [popc_hb p0 p1, popc_hb r0 r1, popc_hb u0 u1, ← sumF_add]
  refine sumF_c _ _ (fun i i0 i1 => ?_)
  have P : tb (zand x (zxor (s 8 t 5) (-1))) i = true ↔ (tb x i = true ∧ ¬ tb (s 8 t 5) i = true) := p2 i i0
  have Q : tb (zand x (stl s)) i = true ↔ (tb x i = true ∧ tb (stl s) i = true) := q2 i i0
  have R : tb (zand (zand x (stl s)) (zxor (s 8 t 5) (-1))) i = true ↔ (tb (zand x (stl s)) i = true ∧ ¬ tb (s 8 t 5) i = true) := r2 i i0
  have U : tb (zand x (zxor (stl s) (-1))) i = true ↔ (tb x i = true ∧ ¬ tb (stl s) i = true) := u2 i i0
  have sb : tb (s 8 t 5) i = true → tb (stl s) i = true := fun z => (S2 i i0).mpr ⟨t, t0, by omega, hi, z⟩
  unfold hb
  by_cases cx : tb x i = true
  · by_cases cS : tb (stl s) i = true
    · rw [if_neg (show ¬ tb (zand x (zxor (stl s) (-1))) i = true from fun z => (U.mp z).2 cS)]
      by_cases cT : tb (s 8 t 5) i = true
      · rw [if_neg (fun z => (P.mp z).2 cT), if_neg (fun z => (R.mp z).2 cT)]; omega
      · rw [if_pos (P.mpr ⟨cx, cT⟩), if_pos (R.mpr ⟨Q.mpr ⟨cx, cS⟩, cT⟩)]; omega
    · rw [if_pos (P.mpr ⟨cx, fun z => cS (sb z)⟩), if_neg (fun z => cS (Q.mp (R.mp z).1).2), if_pos (U.mpr ⟨cx, cS⟩)]; omega
  · rw [if_neg (fun z => cx (P.mp z).1), if_neg (fun z => cx (Q.mp (R.mp z).1).1), if_neg (fun z => cx (U.mp z).1)]; omega
/-- those who move in every classing -/
def pS (s : zS) : Int := popc (zand (s 6 0 4) (zxor (stl s) (-1)))
/-- the sums of a classing -/
theorem VA_sums {L : Nat} {s : zS} (hs : Inv L s) (noon : Int) (hn : noon = 0 ∨ noon = 1) {A : Int → Int} (hv : VA (okS s) 0 (s 11 0 1) (s 6 0 4) A) : ∃ N W K C X : Int, (0 ≤ N ∧ N ≤ 5) ∧ CA (prC s noon) 0 (s 11 0 1) A = 1125899906842624 * K + X ∧ CA (cR s noon) 0 (s 11 0 1) A = C ∧ X = CA (fun t x => x * tw t) 0 (s 11 0 1) A ∧ CA (fun _ _ => 1) 0 (s 11 0 1) A = N ∧ ((noon = 0 ∧ (0 ≤ W ∧ W ≤ 180) ∧ K = 256 * N - W ∧ C = 1000 * N - W ∧ CA (wC s) 0 (s 11 0 1) A = W) ∨ (noon = 1 ∧ (0 ≤ W ∧ W ≤ 50) ∧ (K = 8 * (W - pS s) + N ∧ 0 ≤ pS s) ∧ C = 100 * W + N ∧ CA (mC s) 0 (s 11 0 1) A = W)) := by
  obtain ⟨h1, h2, h3, h4, h5, h6, h7, h8, h9, h10, h11, h12, h13, h14, h15, h16⟩ := id hs
  obtain ⟨H0, H1, -⟩ := id h14
  have h50 := h5.2
  have hk : (0 : Int) + ((s 11 0 1).toNat : Int) = s 11 0 1 := by omega
  have rA : ∀ u : Int, 0 ≤ u → u < s 11 0 1 → ¬ A u = 0 → 0 ≤ A u ∧ A u < 1024 := fun u u0 u1 hne => by
    have := ((hv.1 u u0 u1).resolve_left hne).1; omega
  have n0 : 0 ≤ CA (fun _ _ => 1) 0 (s 11 0 1) A := CA_nn _ A _ 0 hk (fun u _ _ => Or.inr (by show (0 : Int) ≤ 1; omega))
  have n1 := CA_1 (s 11 0 1) A (s 11 0 1).toNat 0 hk
  have pL : CA (prC s noon) 0 (s 11 0 1) A = 1125899906842624 * CA (cC s noon) 0 (s 11 0 1) A + 1 * CA (fun t x => x * tw t) 0 (s 11 0 1) A := CA_lin _ A _ 0 hk (fun u u0 u1 _ => by
    show cC s noon u (A u) * 1125899906842624 + A u * tw u = 1125899906842624 * cC s noon u (A u) + 1 * (A u * tw u)
    omega)
  rw [Int.one_mul] at pL
  have pop := CA_pop (ok := okS s) (fun t x hx => hx.1) (s 11 0 1) A (s 11 0 1).toNat 0 (s 6 0 4) hk H0 H1 hv
  have pH := popc_b H0 H1
  rcases hn with rfl | rfl
  · have w0 : 0 ≤ CA (wC s) 0 (s 11 0 1) A := CA_nn _ A _ 0 hk (fun u u0 u1 => by
      by_cases c : A u = 0
      · exact Or.inl c
      · have r := rA u u0 u1 c
        have b := wC_b (TeB_I hs u0 u1) r.1 r.2
        right
        unfold wC; omega)
    have w1 : CA (wC s) 0 (s 11 0 1) A ≤ CA (fun _ x => 18 * popc x) 0 (s 11 0 1) A := CA_le _ A _ 0 hk (fun u u0 u1 c => by
      have r := rA u u0 u1 c
      obtain ⟨t1, t2, t3, t4⟩ := TeB_I hs u0 u1
      obtain ⟨x0, x1, -⟩ := zand_bi r.1 r.2 t1.1 t1.2
      obtain ⟨y0, y1, -⟩ := zand_bi r.1 r.2 t2.1 t2.2
      have p1 := popc_and r.1 r.2 t1.1 t1.2
      have p2 := popc_and r.1 r.2 t2.1 t2.2
      have q1 := popc_b x0 x1
      have q2 := popc_b y0 y1
      have m1 : s 6 0 7 * popc (zand (A u) (s 8 u 5)) ≤ 9 * popc (zand (A u) (s 8 u 5)) := Int.mul_le_mul_of_nonneg_right t3.2 q1.1
      have m2 : s 6 0 8 * popc (zand (A u) (s 8 u 4)) ≤ 9 * popc (zand (A u) (s 8 u 4)) := Int.mul_le_mul_of_nonneg_right t4.2 q2.1
      show wC s u (A u) ≤ 18 * popc (A u)
      unfold wC
      omega)
    have w2 : CA (fun _ x => 18 * popc x) 0 (s 11 0 1) A = 18 * CA (fun _ x => popc x) 0 (s 11 0 1) A + 0 * CA (fun _ x => popc x) 0 (s 11 0 1) A := CA_lin _ A _ 0 hk (fun u u0 u1 _ => by
      show 18 * popc (A u) = 18 * popc (A u) + 0 * popc (A u)
      omega)
    have cL : CA (cC s 0) 0 (s 11 0 1) A = 256 * CA (fun _ _ => 1) 0 (s 11 0 1) A + (-1) * CA (wC s) 0 (s 11 0 1) A := CA_lin _ A _ 0 hk (fun u u0 u1 _ => by
      show cC s 0 u (A u) = 256 * 1 + (-1) * wC s u (A u)
      unfold cC
      rw [if_pos rfl]; omega)
    have rL : CA (cR s 0) 0 (s 11 0 1) A = 1000 * CA (fun _ _ => 1) 0 (s 11 0 1) A + (-1) * CA (wC s) 0 (s 11 0 1) A := CA_lin _ A _ 0 hk (fun u u0 u1 c => by
      have r := rA u u0 u1 c
      show cR s 0 u (A u) = 1000 * 1 + (-1) * wC s u (A u)
      unfold cR
      rw [if_pos rfl, (wM_C hs u0 u1 r.1 r.2).1]; omega)
    refine ⟨_, CA (wC s) 0 (s 11 0 1) A, CA (cC s 0) 0 (s 11 0 1) A, _, _, ⟨n0, by omega⟩, pL, rfl, rfl, rfl, Or.inl ⟨rfl, ⟨w0, by omega⟩, by omega, by omega, rfl⟩⟩
  · have w0 : 0 ≤ CA (mC s) 0 (s 11 0 1) A := CA_nn _ A _ 0 hk (fun u u0 u1 => by
      by_cases c : A u = 0
      · exact Or.inl c
      · have r := rA u u0 u1 c
        exact Or.inr (mC_b (TeB_I hs u0 u1) r.1 r.2).1)
    have w1 : CA (mC s) 0 (s 11 0 1) A ≤ CA (fun _ _ => 10) 0 (s 11 0 1) A := CA_le _ A _ 0 hk (fun u u0 u1 c => by
      have r := rA u u0 u1 c
      exact (mC_b (TeB_I hs u0 u1) r.1 r.2).2)
    have w2 : CA (fun _ _ => 10) 0 (s 11 0 1) A = 10 * CA (fun _ _ => 1) 0 (s 11 0 1) A + 0 * CA (fun _ _ => 1) 0 (s 11 0 1) A := CA_lin _ A _ 0 hk (fun u u0 u1 _ => by
      show (10 : Int) = 10 * 1 + 0 * 1
      omega)
    have Sb := StB_I hs
    have pz := popc_b (zandnot_bi H0 H1 Sb.1 Sb.2).1 (zandnot_bi H0 H1 Sb.1 Sb.2).2.1
    have ps0 : 0 ≤ pS s := pz.1
    have sL : CA (fun _ x => popc (zand x (zxor (stl s) (-1)))) 0 (s 11 0 1) A = pS s := CA_popS (ok := okS s) Sb.1 Sb.2 (fun t x hx => hx.1) (s 11 0 1) A (s 11 0 1).toNat 0 (s 6 0 4) hk H0 H1 hv
    have mL : CA (mC s) 0 (s 11 0 1) A = 1 * CA (fun u x => mC s u (zand x (stl s))) 0 (s 11 0 1) A + 1 * CA (fun _ x => popc (zand x (zxor (stl s) (-1)))) 0 (s 11 0 1) A := CA_lin _ A _ 0 hk (fun u u0 u1 c => by
      have := mC_split hs u0 u1 ((hv.1 u u0 u1).resolve_left c)
      show mC s u (A u) = 1 * mC s u (zand (A u) (stl s)) + 1 * popc (zand (A u) (zxor (stl s) (-1)))
      omega)
    have cL : CA (cC s 1) 0 (s 11 0 1) A = 8 * CA (fun u x => mC s u (zand x (stl s))) 0 (s 11 0 1) A + 1 * CA (fun _ _ => 1) 0 (s 11 0 1) A := CA_lin _ A _ 0 hk (fun u u0 u1 _ => by
      show cC s 1 u (A u) = 8 * mC s u (zand (A u) (stl s)) + 1 * 1
      unfold cC
      rw [if_neg (by omega)]; omega)
    have rL : CA (cR s 1) 0 (s 11 0 1) A = 100 * CA (mC s) 0 (s 11 0 1) A + 1 * CA (fun _ _ => 1) 0 (s 11 0 1) A := CA_lin _ A _ 0 hk (fun u u0 u1 c => by
      have r := rA u u0 u1 c
      show cR s 1 u (A u) = 100 * mC s u (A u) + 1 * 1
      unfold cR
      rw [if_neg (by omega), (wM_C hs u0 u1 r.1 r.2).2]; omega)
    refine ⟨_, CA (mC s) 0 (s 11 0 1) A, CA (cC s 1) 0 (s 11 0 1) A, _, _, ⟨n0, by omega⟩, pL, rfl, rfl, rfl, Or.inr ⟨rfl, ⟨w0, by omega⟩, ⟨by omega, ps0⟩, by omega, rfl⟩⟩
theorem join {L : Nat} {s : zS} (hs : Inv L s) (noon : Int) (hn : noon = 0 ∨ noon = 1) {w R : Int} {B : Int → Int} (hC : Fin1 (okS s) (prC s noon) (s 11 0 1) (s 6 0 4) w) (hRl : ∀ A : Int → Int, VA (okS s) 0 (s 11 0 1) (s 6 0 4) A → R ≤ CA (cR s noon) 0 (s 11 0 1) A) (hRf : R < 1000000000 → FinR (okS s) (cR s noon) (s 11 0 1) (s 6 0 4) R B) : (w < 2305843009213693952 ↔ R < 1000000000) ∧ (R < 1000000000 → (∀ t : Int, 0 ≤ t → t < s 11 0 1 → dg w t = B t)) := by
  obtain ⟨h1, h2, h3, h4, h5, h6, h7, h8, h9, h10, h11, h12, h13, h14, h15, h16⟩ := id hs
  have h50 := h5.2
  obtain ⟨w0, w1, w2⟩ := hC
  have T0 := h50.1
  have T1 := h50.2
  have rA : ∀ A : Int → Int, VA (okS s) 0 (s 11 0 1) (s 6 0 4) A → ∀ u : Int, 0 ≤ u → u < s 11 0 1 → 0 ≤ A u ∧ A u < 1024 := fun A hv u u0 u1 => by
    rcases hv.1 u u0 u1 with z | z
    · rw [z]; omega
    · have := z.1; omega
  have pad : ∀ A : Int → Int, VA (okS s) 0 (s 11 0 1) (s 6 0 4) A → ∀ i : Int, 0 ≤ i → 0 ≤ (if i < s 11 0 1 then A i else 0) ∧ (if i < s 11 0 1 then A i else 0) < 1024 := fun A hv i i0 => by
    by_cases c : i < s 11 0 1
    · rw [if_pos c]; exact rA A hv i i0 c
    · rw [if_neg c]; omega
  have iff1 : w < 2305843009213693952 ↔ R < 1000000000 := by
    constructor
    · intro h
      obtain ⟨A, a1, a2⟩ := w2 h
      obtain ⟨N, W, K, C, X, s1, s2, s3, s4, s5, s6⟩ := VA_sums hs noon hn a1
      have := hRl A a1
      omega
    · intro h
      obtain ⟨b1, b2, b3⟩ := hRf h
      obtain ⟨N, W, K, C, X, s1, s2, s3, s4, s5, s6⟩ := VA_sums hs noon hn b1
      have x := w1 B b1
      rw [tie5 T0 T1] at s4
      have p0 := pad B b1 0 (by omega)
      have p1 := pad B b1 1 (by omega)
      have p2 := pad B b1 2 (by omega)
      have p3 := pad B b1 3 (by omega)
      have p4 := pad B b1 4 (by omega)
      omega
  refine ⟨iff1, fun hR => ?_⟩
  obtain ⟨b1, b2, b3⟩ := hRf hR
  obtain ⟨A, a1, a2⟩ := w2 (iff1.mpr hR)
  obtain ⟨N, W, K, C, X, s1, s2, s3, s4, s5, s6⟩ := VA_sums hs noon hn a1
  obtain ⟨N', W', K', C', X', r1, r2, r3, r4, r5, r6⟩ := VA_sums hs noon hn b1
  have x := w1 B b1
  have y := hRl A a1
  rw [tie5 T0 T1] at s4 r4
  have p0 := pad A a1 0 (by omega)
  have p1 := pad A a1 1 (by omega)
  have p2 := pad A a1 2 (by omega)
  have p3 := pad A a1 3 (by omega)
  have p4 := pad A a1 4 (by omega)
  have q0 := pad B b1 0 (by omega)
  have q1 := pad B b1 1 (by omega)
  have q2 := pad B b1 2 (by omega)
  have q3 := pad B b1 3 (by omega)
  have q4 := pad B b1 4 (by omega)
  have eK : K = K' ∧ C = R := by omega
  have lx := b3 A a1 (by omega)
  have lz : ∀ i : Int, 0 ≤ i → (∀ j : Int, 0 ≤ j → j < i → (if j < s 11 0 1 then A j else 0) = (if j < s 11 0 1 then B j else 0)) → (if i < s 11 0 1 then B i else 0) ≤ (if i < s 11 0 1 then A i else 0) := by
    intro i i0 hj
    by_cases c : i < s 11 0 1
    · rw [if_pos c, if_pos c]
      refine lx i i0 c (fun v v0 v1 => ?_)
      have := hj v v0 v1
      rw [if_pos (by omega), if_pos (by omega)] at this
      exact this
    · rw [if_neg c, if_neg c]; exact Int.le_refl _
  have e := lexd ⟨p0, p1, p2, p3, p4⟩ ⟨q0, q1, q2, q3, q4⟩ (by omega) (lz 0 (by omega) (fun j j0 j1 => by omega)) (fun e0 => lz 1 (by omega) (fun j j0 j1 => by rw [show j = 0 by omega]; exact e0)) (fun e0 e1 => lz 2 (by omega) (fun j j0 j1 => by
    rcases (show j = 0 ∨ j = 1 by omega) with rfl | rfl
    · exact e0
    · exact e1)) (fun e0 e1 e2 => lz 3 (by omega) (fun j j0 j1 => by
    rcases (show j = 0 ∨ j = 1 ∨ j = 2 by omega) with rfl | rfl | rfl
    · exact e0
    · exact e1
    · exact e2)) (fun e0 e1 e2 e3 => lz 4 (by omega) (fun j j0 j1 => by
    rcases (show j = 0 ∨ j = 1 ∨ j = 2 ∨ j = 3 by omega) with rfl | rfl | rfl | rfl
    · exact e0
    · exact e1
    · exact e2
    · exact e3))
  obtain ⟨g0, g1, g2, g3, g4⟩ := dg_e (w := w) w0.1 (by omega)
  intro t t0 t1
  rcases (show t = 0 ∨ t = 1 ∨ t = 2 ∨ t = 3 ∨ t = 4 by omega) with rfl | rfl | rfl | rfl | rfl
  · have e' := e.1
    rw [if_pos t1, if_pos t1] at e'
    rw [if_pos t1] at s4
    rw [g0]; omega
  · have e' := e.2.1
    rw [if_pos t1, if_pos t1] at e'
    rw [if_pos t1] at s4
    rw [g1]; omega
  · have e' := e.2.2.1
    rw [if_pos t1, if_pos t1] at e'
    rw [if_pos t1] at s4
    rw [g2]; omega
  · have e' := e.2.2.2.1
    rw [if_pos t1, if_pos t1] at e'
    rw [if_pos t1] at s4
    rw [g3]; omega
  · have e' := e.2.2.2.2
    rw [if_pos t1, if_pos t1] at e'
    rw [if_pos t1] at s4
    rw [g4]; omega

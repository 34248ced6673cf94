theorem lexd {a0 a1 a2 a3 a4 b0 b1 b2 b3 b4 : Int} (ra : (0 ≤ a0 ∧ a0 < 1024) ∧ (0 ≤ a1 ∧ a1 < 1024) ∧ (0 ≤ a2 ∧ a2 < 1024) ∧ (0 ≤ a3 ∧ a3 < 1024) ∧ 0 ≤ a4 ∧ a4 < 1024) (rb : (0 ≤ b0 ∧ b0 < 1024) ∧ (0 ≤ b1 ∧ b1 < 1024) ∧ (0 ≤ b2 ∧ b2 < 1024) ∧ (0 ≤ b3 ∧ b3 < 1024) ∧ 0 ≤ b4 ∧ b4 < 1024) (ht : a0 * 1099511627776 + a1 * 1073741824 + a2 * 1048576 + a3 * 1024 + a4 ≤ b0 * 1099511627776 + b1 * 1073741824 + b2 * 1048576 + b3 * 1024 + b4) (h0 : b0 ≤ a0) (h1 : a0 = b0 → b1 ≤ a1) (h2 : a0 = b0 → a1 = b1 → b2 ≤ a2) (h3 : a0 = b0 → a1 = b1 → a2 = b2 → b3 ≤ a3) (h4 : a0 = b0 → a1 = b1 → a2 = b2 → a3 = b3 → b4 ≤ a4) : a0 = b0 ∧ a1 = b1 ∧ a2 = b2 ∧ a3 = b3 ∧ a4 = b4 := by
  have e0 : a0 = b0 := by omega
  have g1 := h1 e0
  have e1 : a1 = b1 := by omega
  have g2 := h2 e0 e1
  have e2 : a2 = b2 := by omega
  have g3 := h3 e0 e1 e2
  have e3 : a3 = b3 := by omega
  have g4 := h4 e0 e1 e2 e3
  exact ⟨e0, e1, e2, e3, by omega⟩
/-- the sums of a classing -/
theorem VA_sums {L : Nat} {s : zS} (hs : Inv L s) (noon : Int) (hn : noon = 0 ∨ noon = 1) {A : Int → Int} (hv : VA (okS s) 0 (s 11 0 1) (s 6 0 4) A) : ∃ N W K C X : Int, (0 ≤ N ∧ N ≤ 5) ∧ CA (prC s noon) 0 (s 11 0 1) A = 1125899906842624 * K + X ∧ CA (cR s noon) 0 (s 11 0 1) A = C ∧ X = CA (fun t x => x * tw t) 0 (s 11 0 1) A ∧ CA (fun _ _ => 1) 0 (s 11 0 1) A = N ∧ ((noon = 0 ∧ (0 ≤ W ∧ W ≤ 180) ∧ K = 256 * N - W ∧ C = 1000 * N - W ∧ CA (wC s) 0 (s 11 0 1) A = W) ∨ (noon = 1 ∧ (0 ≤ W ∧ W ≤ 50) ∧ K = 8 * W + N ∧ C = 100 * W + N ∧ CA (mC s) 0 (s 11 0 1) A = W)) := by
  obtain ⟨h1, h2, h3, h4, h5, h6, h7, h8, h9, h10, h11, h12, h13, h14, h15, h16⟩ := id hs
  obtain ⟨H0, H1, -⟩ := id h14
  have h50 := h5.2
  have hk : (0 : Int) + ((s 11 0 1).toNat : Int) = s 11 0 1 := by omega
  have rA : ∀ u : Int, 0 ≤ u → u < s 11 0 1 → ¬ A u = 0 → 0 ≤ A u ∧ A u < 1024 := fun u u0 u1 hne => by
    have := ((hv.1 u u0 u1).resolve_left hne).1; omega
  have n0 : 0 ≤ CA (fun _ _ => 1) 0 (s 11 0 1) A := CA_nn _ A _ 0 hk (fun u _ _ => Or.inr (by show (0 : Int) ≤ 1; omega))
  have n1 := CA_1 (s 11 0 1) A (s 11 0 1).toNat 0 hk
  have pL : CA (prC s noon) 0 (s 11 0 1) A = 1125899906842624 * CA (cC s noon) 0 (s 11 0 1) A + 1 * CA (fun t x => x * tw t) 0 (s 11 0 1) A := CA_lin _ A _ 0 hk (fun u u0 u1 _ => by
    show cC s noon u (A u) * 1125899906842624 + A u * tw u = 1125899906842624 * cC s noon u (A u) + 1 * (A u * tw u)
    omega)
  rw [Int.one_mul] at pL
  have pop := CA_pop (ok := okS s) (fun t x hx => hx.1) (s 11 0 1) A (s 11 0 1).toNat 0 (s 6 0 4) hk H0 H1 hv
  have pH := popc_b H0 H1
  rcases hn with rfl | rfl
  · have w0 : 0 ≤ CA (wC s) 0 (s 11 0 1) A := CA_nn _ A _ 0 hk (fun u u0 u1 => by
      by_cases c : A u = 0
      · exact Or.inl c
      · have r := rA u u0 u1 c
        have b := wC_b (TeB_I hs u0 u1) r.1 r.2
        right
        unfold wC; omega)
    have w1 : CA (wC s) 0 (s 11 0 1) A ≤ CA (fun _ x => 18 * popc x) 0 (s 11 0 1) A := CA_le _ A _ 0 hk (fun u u0 u1 c => by
      have r := rA u u0 u1 c
      obtain ⟨t1, t2, t3, t4⟩ := TeB_I hs u0 u1
      obtain ⟨x0, x1, -⟩ := zand_bi r.1 r.2 t1.1 t1.2
      obtain ⟨y0, y1, -⟩ := zand_bi r.1 r.2 t2.1 t2.2
      have p1 := popc_and r.1 r.2 t1.1 t1.2
      have p2 := popc_and r.1 r.2 t2.1 t2.2
      have q1 := popc_b x0 x1
      have q2 := popc_b y0 y1
      have m1 : s 6 0 7 * popc (zand (A u) (s 8 u 5)) ≤ 9 * popc (zand (A u) (s 8 u 5)) := Int.mul_le_mul_of_nonneg_right t3.2 q1.1
      have m2 : s 6 0 8 * popc (zand (A u) (s 8 u 4)) ≤ 9 * popc (zand (A u) (s 8 u 4)) := Int.mul_le_mul_of_nonneg_right t4.2 q2.1
      show wC s u (A u) ≤ 18 * popc (A u)
      unfold wC
      omega)
    have w2 : CA (fun _ x => 18 * popc x) 0 (s 11 0 1) A = 18 * CA (fun _ x => popc x) 0 (s 11 0 1) A + 0 * CA (fun _ x => popc x) 0 (s 11 0 1) A := CA_lin _ A _ 0 hk (fun u u0 u1 _ => by
      show 18 * popc (A u) = 18 * popc (A u) + 0 * popc (A u)
      omega)
    have cL : CA (cC s 0) 0 (s 11 0 1) A = 256 * CA (fun _ _ => 1) 0 (s 11 0 1) A + (-1) * CA (wC s) 0 (s 11 0 1) A := CA_lin _ A _ 0 hk (fun u u0 u1 _ => by
      show cC s 0 u (A u) = 256 * 1 + (-1) * wC s u (A u)
      unfold cC
      rw [if_pos rfl]; omega)
    have rL : CA (cR s 0) 0 (s 11 0 1) A = 1000 * CA (fun _ _ => 1) 0 (s 11 0 1) A + (-1) * CA (wC s) 0 (s 11 0 1) A := CA_lin _ A _ 0 hk (fun u u0 u1 c => by
      have r := rA u u0 u1 c
      show cR s 0 u (A u) = 1000 * 1 + (-1) * wC s u (A u)
      unfold cR
      rw [if_pos rfl, (wM_C hs u0 u1 r.1 r.2).1]; omega)
    refine ⟨_, CA (wC s) 0 (s 11 0 1) A, CA (cC s 0) 0 (s 11 0 1) A, _, _, ⟨n0, by omega⟩, pL, rfl, rfl, rfl, Or.inl ⟨rfl, ⟨w0, by omega⟩, by omega, by omega, rfl⟩⟩
  · have w0 : 0 ≤ CA (mC s) 0 (s 11 0 1) A := CA_nn _ A _ 0 hk (fun u u0 u1 => by
      by_cases c : A u = 0
      · exact Or.inl c
      · have r := rA u u0 u1 c
        exact Or.inr (mC_b (TeB_I hs u0 u1) r.1 r.2).1)
    have w1 : CA (mC s) 0 (s 11 0 1) A ≤ CA (fun _ _ => 10) 0 (s 11 0 1) A := CA_le _ A _ 0 hk (fun u u0 u1 c => by
      have r := rA u u0 u1 c
      exact (mC_b (TeB_I hs u0 u1) r.1 r.2).2)
    have w2 : CA (fun _ _ => 10) 0 (s 11 0 1) A = 10 * CA (fun _ _ => 1) 0 (s 11 0 1) A + 0 * CA (fun _ _ => 1) 0 (s 11 0 1) A := CA_lin _ A _ 0 hk (fun u u0 u1 _ => by
      show (10 : Int) = 10 * 1 + 0 * 1
      omega)
    have cL : CA (cC s 1) 0 (s 11 0 1) A = 8 * CA (mC s) 0 (s 11 0 1) A + 1 * CA (fun _ _ => 1) 0 (s 11 0 1) A := CA_lin _ A _ 0 hk (fun u u0 u1 _ => by
      show cC s 1 u (A u) = 8 * mC s u (A u) + 1 * 1
      unfold cC
      rw [if_neg (by omega)]; omega)
    have rL : CA (cR s 1) 0 (s 11 0 1) A = 100 * CA (mC s) 0 (s 11 0 1) A + 1 * CA (fun _ _ => 1) 0 (s 11 0 1) A := CA_lin _ A _ 0 hk (fun u u0 u1 c => by
      have r := rA u u0 u1 c
      show cR s 1 u (A u) = 100 * mC s u (A u) + 1 * 1
      unfold cR
      rw [if_neg (by omega), (wM_C hs u0 u1 r.1 r.2).2]; omega)
    refine ⟨_, CA (mC s) 0 (s 11 0 1) A, CA (cC s 1) 0 (s 11 0 1) A, _, _, ⟨n0, by omega⟩, pL, rfl, rfl, rfl, Or.inr ⟨rfl, ⟨w0, by omega⟩, by omega, by omega, rfl⟩⟩
theorem join {L : Nat} {s : zS} (hs : Inv L s) (noon : Int) (hn : noon = 0 ∨ noon = 1) {w R : Int} {B : Int → Int} (hC : Fin1 (okS s) (prC s noon) (s 11 0 1) (s 6 0 4) w) (hRl : ∀ A : Int → Int, VA (okS s) 0 (s 11 0 1) (s 6 0 4) A → R ≤ CA (cR s noon) 0 (s 11 0 1) A) (hRf : R < 1000000000 → FinR (okS s) (cR s noon) (s 11 0 1) (s 6 0 4) R B) : (w < 2305843009213693952 ↔ R < 1000000000) ∧ (R < 1000000000 → (∀ t : Int, 0 ≤ t → t < s 11 0 1 → dg w t = B t)) := by
  obtain ⟨h1, h2, h3, h4, h5, h6, h7, h8, h9, h10, h11, h12, h13, h14, h15, h16⟩ := id hs
  have h50 := h5.2
  obtain ⟨w0, w1, w2⟩ := hC
  have T0 := h50.1
  have T1 := h50.2
  have rA : ∀ A : Int → Int, VA (okS s) 0 (s 11 0 1) (s 6 0 4) A → ∀ u : Int, 0 ≤ u → u < s 11 0 1 → 0 ≤ A u ∧ A u < 1024 := fun A hv u u0 u1 => by
    rcases hv.1 u u0 u1 with z | z
    · rw [z]; omega
    · have := z.1; omega
  have pad : ∀ A : Int → Int, VA (okS s) 0 (s 11 0 1) (s 6 0 4) A → ∀ i : Int, 0 ≤ i → 0 ≤ (if i < s 11 0 1 then A i else 0) ∧ (if i < s 11 0 1 then A i else 0) < 1024 := fun A hv i i0 => by
    by_cases c : i < s 11 0 1
    · rw [if_pos c]; exact rA A hv i i0 c
    · rw [if_neg c]; omega
  have iff1 : w < 2305843009213693952 ↔ R < 1000000000 := by
    constructor
    · intro h
      obtain ⟨A, a1, a2⟩ := w2 h
      obtain ⟨N, W, K, C, X, s1, s2, s3, s4, s5, s6⟩ := VA_sums hs noon hn a1
      have := hRl A a1
      omega
    · intro h
      obtain ⟨b1, b2, b3⟩ := hRf h
      obtain ⟨N, W, K, C, X, s1, s2, s3, s4, s5, s6⟩ := VA_sums hs noon hn b1
      have x := w1 B b1
      rw [tie5 T0 T1] at s4
      have p0 := pad B b1 0 (by omega)
      have p1 := pad B b1 1 (by omega)
      have p2 := pad B b1 2 (by omega)
      have p3 := pad B b1 3 (by omega)
      have p4 := pad B b1 4 (by omega)
      omega
  refine ⟨iff1, fun hR => ?_⟩
  obtain ⟨b1, b2, b3⟩ := hRf hR
  obtain ⟨A, a1, a2⟩ := w2 (iff1.mpr hR)
  obtain ⟨N, W, K, C, X, s1, s2, s3, s4, s5, s6⟩ := VA_sums hs noon hn a1
  obtain ⟨N', W', K', C', X', r1, r2, r3, r4, r5, r6⟩ := VA_sums hs noon hn b1
  have x := w1 B b1
  have y := hRl A a1
  rw [tie5 T0 T1] at s4 r4
  have p0 := pad A a1 0 (by omega)
  have p1 := pad A a1 1 (by omega)
  have p2 := pad A a1 2 (by omega)
  have p3 := pad A a1 3 (by omega)
  have p4 := pad A a1 4 (by omega)
  have q0 := pad B b1 0 (by omega)
  have q1 := pad B b1 1 (by omega)
  have q2 := pad B b1 2 (by omega)
  have q3 := pad B b1 3 (by omega)
  have q4 := pad B b1 4 (by omega)
  have eK : K = K' ∧ C = R := by omega
  have lx := b3 A a1 (by omega)
  have lz : ∀ i : Int, 0 ≤ i → (∀ j : Int, 0 ≤ j → j < i → (if j < s 11 0 1 then A j else 0) = (if j < s 11 0 1 then B j else 0)) → (if i < s 11 0 1 then B i else 0) ≤ (if i < s 11 0 1 then A i else 0) := by
    intro i i0 hj
    by_cases c : i < s 11 0 1
    · rw [if_pos c, if_pos c]
      refine lx i i0 c (fun v v0 v1 => ?_)
      have := hj v v0 v1
      rw [if_pos (by omega), if_pos (by omega)] at this
      exact this
    · rw [if_neg c, if_neg c]; exact Int.le_refl _
  have e := lexd ⟨p0, p1, p2, p3, p4⟩ ⟨q0, q1, q2, q3, q4⟩ (by omega) (lz 0 (by omega) (fun j j0 j1 => by omega)) (fun e0 => lz 1 (by omega) (fun j j0 j1 => by rw [show j = 0 by omega]; exact e0)) (fun e0 e1 => lz 2 (by omega) (fun j j0 j1 => by
    rcases (show j = 0 ∨ j = 1 by omega) with rfl | rfl
    · exact e0
    · exact e1)) (fun e0 e1 e2 => lz 3 (by omega) (fun j j0 j1 => by
    rcases (show j = 0 ∨ j = 1 ∨ j = 2 by omega) with rfl | rfl | rfl
    · exact e0
    · exact e1
    · exact e2)) (fun e0 e1 e2 e3 => lz 4 (by omega) (fun j j0 j1 => by
    rcases (show j = 0 ∨ j = 1 ∨ j = 2 ∨ j = 3 by omega) with rfl | rfl | rfl | rfl
    · exact e0
    · exact e1
    · exact e2
    · exact e3))
  obtain ⟨g0, g1, g2, g3, g4⟩ := dg_e (w := w) w0.1 (by omega)
  intro t t0 t1
  rcases (show t = 0 ∨ t = 1 ∨ t = 2 ∨ t = 3 ∨ t = 4 by omega) with rfl | rfl | rfl | rfl | rfl
  · have e' := e.1
    rw [if_pos t1, if_pos t1] at e'
    rw [if_pos t1] at s4
    rw [g0]; omega
  · have e' := e.2.1
    rw [if_pos t1, if_pos t1] at e'
    rw [if_pos t1] at s4
    rw [g1]; omega
  · have e' := e.2.2.1
    rw [if_pos t1, if_pos t1] at e'
    rw [if_pos t1] at s4
    rw [g2]; omega
  · have e' := e.2.2.2.1
    rw [if_pos t1, if_pos t1] at e'
    rw [if_pos t1] at s4
    rw [g3]; omega
  · have e' := e.2.2.2.2
    rw [if_pos t1, if_pos t1] at e'
    rw [if_pos t1] at s4
    rw [g4]; omega

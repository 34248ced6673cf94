/-! the reference's search: mathematics -/
def Wsp (ok : Int → Int → Prop) (c : Int → Int → Int) (T t D w : Int) : Prop := (0 ≤ w ∧ w ≤ 1000000000) ∧ (∀ A : Int → Int, VA ok t T D A → w ≤ CA c t T A) ∧ (w < 1000000000 → ∃ A : Int → Int, VA ok t T D A ∧ CA c t T A = w)
/-- what is known of the reference's costs -/
def CsO (ok : Int → Int → Prop) (c : Int → Int → Int) (T H : Int) : Prop := (0 ≤ H ∧ H < 1024) ∧ (0 ≤ T ∧ T ≤ 5) ∧ (∀ t x : Int, ok t x → (0 < x ∧ x < 1024) ∧ SubB x H) ∧ ∀ t x : Int, 0 ≤ t → t < T → ok t x → 0 ≤ c t x ∧ c t x < 1000000000
/-- the price row: P y for parts of H -/
def PrR (ok : Int → Int → Prop) (c : Int → Int → Int) (H t : Int) (P : Int → Int) : Prop := ∀ y : Int, 0 ≤ y → SubB y H → (y = 0 ∧ P y = 0) ∨ (0 < y ∧ ok t y ∧ P y = c t y) ∨ (0 < y ∧ ¬ ok t y ∧ P y = 1000000000)
section
variable {ok : Int → Int → Prop} {c : Int → Int → Int} {T H : Int}
/-- a first part and the best of what is left -/
theorem W_lo (hO : CsO ok c T H) {t x y b : Int} {P C : Int → Int} (t0 : 0 ≤ t) (t1 : t < T) (x0 : 0 ≤ x) (xH : SubB x H) (hP : PrR ok c H t P) (hC : ∀ z : Int, 0 ≤ z → SubB z H → Wsp ok c T (t + 1) z (C z)) (y0 : 0 ≤ y) (hy : SubB y x) (hF : P y < 1000000000) (hb : ∀ A : Int → Int, VA ok t T x A → b ≤ CA c t T A) (hbF : b ≤ 1000000000) : b ≤ P y + C (zand x (zxor y (-1))) := by
  obtain ⟨⟨H0, H1⟩, ⟨T0, T1⟩, ok1, c1⟩ := id hO
  have xl := SubB_le x0 H0 xH
  obtain ⟨d0, d1, d2, d3, d4⟩ := dif_bi x0 (by omega) y0 hy
  obtain ⟨w1, w2, w3⟩ := hC _ d0 (fun q q0 hq => xH q q0 (d2 q q0 hq))
  have p0 : 0 ≤ P y ∧ (y = 0 ∨ ok t y) ∧ (if y = 0 then 0 else c t y) = P y := by
    rcases hP y y0 (fun q q0 hq => xH q q0 (hy q q0 hq)) with ⟨z1, z2⟩ | ⟨z0, z1, z2⟩ | ⟨z0, z1, z2⟩
    · rw [if_pos z1]; exact ⟨by omega, Or.inl z1, z2.symm⟩
    · rw [if_neg (by omega)]; exact ⟨by have := c1 t y t0 t1 z1; omega, Or.inr z1, z2.symm⟩
    · omega
  by_cases h : C (zand x (zxor y (-1))) < 1000000000
  · obtain ⟨A, a1, a2⟩ := w3 h
    have v := hb _ (VA_fext a1 t1 p0.2.1 (fun q q0 hq hd => ((d3 q q0).mp hd).2 hq) d4)
    rw [CA_front t1, updA_e, p0.2.2, CA_c (B := A) (fun u u0 u1 => updA_n (by omega)), a2] at v
    exact v
  · omega
theorem W_A (hO : CsO ok c T H) {t x : Int} {P C : Int → Int} {A : Int → Int} (t0 : 0 ≤ t) (t1 : t < T) (x0 : 0 ≤ x) (xH : SubB x H) (hP : PrR ok c H t P) (hC : ∀ z : Int, 0 ≤ z → SubB z H → Wsp ok c T (t + 1) z (C z)) (hv : VA ok t T x A) : (0 ≤ A t ∧ SubB (A t) x) ∧ P (A t) < 1000000000 ∧ P (A t) + C (zand x (zxor (A t) (-1))) ≤ CA c t T A := by
  obtain ⟨⟨H0, H1⟩, ⟨T0, T1⟩, ok1, c1⟩ := id hO
  have xl := SubB_le x0 H0 xH
  have a0 : 0 ≤ A t := by
    rcases hv.1 t (by omega) t1 with z | z
    · omega
    · have := (ok1 t _ z).1; omega
  have hs : SubB (A t) x := fun q q0 hq => (hv.2.2 q q0).mpr ⟨t, by omega, t1, hq⟩
  obtain ⟨d0, d1, d2, d3, d4⟩ := dif_bi x0 (by omega) a0 hs
  obtain ⟨f1, -⟩ := VA_front hv t1 d3
  have w2 := (hC _ d0 (fun q q0 hq => xH q q0 (d2 q q0 hq))).2.1 A f1
  have e := CA_front (c := c) (A := A) t1
  rcases hP (A t) a0 (fun q q0 hq => xH q q0 (hs q q0 hq)) with ⟨z1, z2⟩ | ⟨z0, z1, z2⟩ | ⟨z0, z1, z2⟩
  · rw [if_pos z1] at e
    exact ⟨⟨a0, hs⟩, by omega, by omega⟩
  · rw [if_neg (by omega)] at e
    have := c1 t _ t0 t1 z1
    exact ⟨⟨a0, hs⟩, by omega, by omega⟩
  · exact absurd ((hv.1 t (by omega) t1).resolve_left (by omega)) z1
theorem Wsp_step (hO : CsO ok c T H) {t x b : Int} {P C : Int → Int} (t0 : 0 ≤ t) (t1 : t < T) (x0 : 0 ≤ x) (xH : SubB x H) (hP : PrR ok c H t P) (hC : ∀ z : Int, 0 ≤ z → SubB z H → Wsp ok c T (t + 1) z (C z)) (b0 : b ≤ 1000000000) (b1 : ∀ y : Int, 0 ≤ y → SubB y x → P y < 1000000000 → b ≤ P y + C (zand x (zxor y (-1)))) (b2 : b = 1000000000 ∨ ∃ y : Int, 0 ≤ y ∧ SubB y x ∧ P y < 1000000000 ∧ b = P y + C (zand x (zxor y (-1)))) : Wsp ok c T t x b := by
  obtain ⟨⟨H0, H1⟩, ⟨T0, T1⟩, ok1, c1⟩ := id hO
  have xl := SubB_le x0 H0 xH
  have pn : ∀ y : Int, 0 ≤ y → SubB y x → 0 ≤ P y := by
    intro y y0 hy
    rcases hP y y0 (fun q q0 hq => xH q q0 (hy q q0 hq)) with ⟨z1, z2⟩ | ⟨z0, z1, z2⟩ | ⟨z0, z1, z2⟩
    · omega
    · have := c1 t y t0 t1 z1; omega
    · omega
  refine ⟨⟨?_, b0⟩, fun A hv => ?_, fun hl => ?_⟩
  · rcases b2 with h | ⟨y, y0, hy, yF, h⟩
    · omega
    · obtain ⟨d0, d1, d2, d3, d4⟩ := dif_bi x0 (by omega) y0 hy
      have := (hC _ d0 (fun q q0 hq => xH q q0 (d2 q q0 hq))).1
      have := pn y y0 hy
      omega
  · obtain ⟨⟨a0, as⟩, aF, al⟩ := W_A hO t0 t1 x0 xH hP hC hv
    have := b1 _ a0 as aF
    omega
  · rcases b2 with h | ⟨y, y0, hy, yF, h⟩
    · omega
    · obtain ⟨d0, d1, d2, d3, d4⟩ := dif_bi x0 (by omega) y0 hy
      obtain ⟨w1, w2, w3⟩ := hC _ d0 (fun q q0 hq => xH q q0 (d2 q q0 hq))
      have := pn y y0 hy
      obtain ⟨A, a1, a2⟩ := w3 (by omega)
      rcases hP y y0 (fun q q0 hq => xH q q0 (hy q q0 hq)) with ⟨z1, z2⟩ | ⟨z0, z1, z2⟩ | ⟨z0, z1, z2⟩
      · refine ⟨updA A t y, VA_fext a1 t1 (Or.inl z1) (fun q q0 hq hd => ((d3 q q0).mp hd).2 hq) d4, ?_⟩
        rw [CA_front t1, updA_e, if_pos z1, CA_c (B := A) (fun u u0 u1 => updA_n (by omega)), a2]
        omega
      · refine ⟨updA A t y, VA_fext a1 t1 (Or.inr z1) (fun q q0 hq hd => ((d3 q q0).mp hd).2 hq) d4, ?_⟩
        rw [CA_front t1, updA_e, if_neg (by omega), CA_c (B := A) (fun u u0 u1 => updA_n (by omega)), a2]
        omega
      · omega
theorem Wsp_T (hO : CsO ok c T H) {x : Int} (x0 : 0 ≤ x) : Wsp ok c T T x (if x = 0 then 0 else 1000000000) := by
  by_cases e : x = 0
  · rw [if_pos e]
    exact ⟨by omega, fun A _ => by rw [CA_0 (by omega)]; omega, fun _ => ⟨fun _ => 0, (VA_e (by omega) x0).mpr e, CA_0 (by omega)⟩⟩
  · rw [if_neg e]
    exact ⟨by omega, fun A hv => absurd ((VA_e (by omega) x0).mp hv) e, fun h => by omega⟩
theorem VA_suf {t D : Int} {B : Int → Int} (hv : VA ok 0 T H B) (t0 : 0 ≤ t) (hD : ∀ q : Int, 0 ≤ q → (bi D q ↔ bi H q ∧ ¬ ∃ u : Int, 0 ≤ u ∧ u < t ∧ bi (B u) q)) : VA ok t T D B := by
  obtain ⟨h1, h2, h3⟩ := hv
  refine ⟨fun u u0 u1 => h1 u (by omega) u1, fun u v u0 u1 v0 v1 => h2 u v (by omega) u1 (by omega) v1, fun q q0 => ?_⟩
  rw [hD q q0, h3 q q0]
  constructor
  · rintro ⟨⟨u, u0, u1, hu⟩, hn⟩
    exact ⟨u, Classical.byContradiction fun z => hn ⟨u, u0, by omega, hu⟩, u1, hu⟩
  · rintro ⟨u, u0, u1, hu⟩
    exact ⟨⟨u, by omega, u1, hu⟩, fun ⟨v, v0, v1, hv2⟩ => h2 v u v0 (by omega) (by omega) u1 (by omega) q q0 hv2 hu⟩
end

/-! classings: mathematics -/
theorem sub_land : ∀ (n h s x : Nat), h < 2 ^ n → s &&& h = s → x &&& h = x → x < s → x ≤ (s - 1) &&& h := by
  intro n
  induction n with
  | zero => intro h s x hh hs hx hlt; have : h = 0 := by omega
            subst this; rw [Nat.and_zero] at hs; omega
  | succ n ih =>
    intro h s x hh hs hx hlt
    have hs2 : s / 2 &&& h / 2 = s / 2 := by rw [← Nat.and_div_two, hs]
    have hx2 : x / 2 &&& h / 2 = x / 2 := by rw [← Nat.and_div_two, hx]
    have ps : s % 2 = 1 → h % 2 = 1 := fun e => (Nat.and_mod_two_eq_one.mp (by rw [hs]; exact e)).2
    have px : x % 2 = 1 → h % 2 = 1 := fun e => (Nat.and_mod_two_eq_one.mp (by rw [hx]; exact e)).2
    have dv : ((s - 1) &&& h) / 2 = (s - 1) / 2 &&& h / 2 := Nat.and_div_two
    by_cases b : s % 2 = 1
    · have e1 : (s - 1) / 2 = s / 2 := by omega
      rw [e1, hs2] at dv
      omega
    · have e1 : (s - 1) / 2 = s / 2 - 1 := by omega
      rw [e1] at dv
      have := ih (h / 2) (s / 2) (x / 2) (by omega) hs2 hx2 (by omega)
      rw [← dv] at this
      have m1 : (s - 1) % 2 = 1 := by omega
      by_cases c : h % 2 = 1
      · have := Nat.and_mod_two_eq_one.mpr ⟨m1, c⟩
        omega
      · have : ¬ x % 2 = 1 := fun e => c (px e)
        omega
def SubB (x y : Int) : Prop := ∀ q : Int, 0 ≤ q → bi x q → bi y q
theorem SubB_land {x y : Int} (h : SubB x y) : x.toNat &&& y.toNat = x.toNat := by
  apply Nat.eq_of_testBit_eq
  intro i
  rw [Nat.testBit_and]
  by_cases c : x.toNat.testBit i = true
  · have := h (i : Int) (by omega) c
    unfold bi at this
    rw [Int.toNat_natCast] at this
    rw [c, this]; rfl
  · rw [Bool.eq_false_iff.mpr c]; rfl
theorem SubB_le {x y : Int} (x0 : 0 ≤ x) (y0 : 0 ≤ y) (h : SubB x y) : x ≤ y := by
  have := SubB_land h
  have l : x.toNat &&& y.toNat ≤ y.toNat := Nat.and_le_right
  omega
/-- the next part of h below s -/
theorem sub_next {h s : Int} (h0 : 0 ≤ h) (h1 : h < 1024) (s0 : 0 < s) (s1 : SubB s h) : 0 ≤ zand (s - 1) h ∧ zand (s - 1) h < s ∧ SubB (zand (s - 1) h) h ∧ ∀ x : Int, 0 ≤ x → SubB x h → x < s → x ≤ zand (s - 1) h := by
  have sl := SubB_le (by omega) h0 s1
  obtain ⟨b0, b1, b2⟩ := zand_bi (x := s - 1) (y := h) (by omega) (by omega) h0 h1
  have e : zand (s - 1) h = (((s.toNat - 1) &&& h.toNat : Nat) : Int) := by
    have := zand_n (x := s.toNat - 1) (y := h.toNat) (by omega) (by omega)
    rw [← this]
    congr 1 <;> omega
  have l : (s.toNat - 1) &&& h.toNat ≤ s.toNat - 1 := Nat.and_le_left
  refine ⟨b0, by omega, fun q q0 hq => ((b2 q q0).mp hq).2, fun x x0 xs xl => ?_⟩
  have := sub_land 10 h.toNat s.toNat x.toNat (by omega) (SubB_land s1) (SubB_land xs) (by omega)
  rw [e]
  omega
theorem sumF_back (f : Int → Int) : ∀ (k : Nat) (t : Int), sumF f t (k + 1) = sumF f t k + f (t + k) := by
  intro k
  induction k with
  | zero => intro t; show f t + 0 = 0 + f (t + 0); rw [Int.add_zero, Int.zero_add, Int.add_zero]
  | succ k ih =>
    intro t
    have e : sumF f t (k + 1 + 1) = f t + sumF f (t + 1) (k + 1) := rfl
    have e2 : sumF f t (k + 1) = f t + sumF f (t + 1) k := rfl
    rw [e, ih (t + 1), e2, show t + 1 + (k : Int) = t + ((k + 1 : Nat) : Int) by omega]
    omega
def updA (A : Int → Int) (t x : Int) : Int → Int := fun u => if u = t then x else A u
theorem updA_e (A : Int → Int) (t x : Int) : updA A t x t = x := if_pos rfl
theorem updA_n {A : Int → Int} {t x u : Int} (h : ¬ u = t) : updA A t x u = A u := if_neg h
def CA (c : Int → Int → Int) (lo hi : Int) (A : Int → Int) : Int := sumF (fun u => if A u = 0 then 0 else c u (A u)) lo (hi - lo).toNat
theorem CA_0 {c : Int → Int → Int} {lo hi : Int} {A : Int → Int} (h : hi ≤ lo) : CA c lo hi A = 0 := by
  unfold CA
  rw [show (hi - lo).toNat = 0 by omega]
  rfl
theorem CA_front {c : Int → Int → Int} {lo hi : Int} {A : Int → Int} (h : lo < hi) : CA c lo hi A = (if A lo = 0 then 0 else c lo (A lo)) + CA c (lo + 1) hi A := by
  unfold CA
  rw [show (hi - lo).toNat = (hi - (lo + 1)).toNat + 1 by omega]
  rfl
theorem CA_back {c : Int → Int → Int} {lo hi : Int} {A : Int → Int} (h : lo ≤ hi) : CA c lo (hi + 1) A = CA c lo hi A + (if A hi = 0 then 0 else c hi (A hi)) := by
  unfold CA
  rw [show (hi + 1 - lo).toNat = (hi - lo).toNat + 1 by omega, sumF_back, show lo + ((hi - lo).toNat : Int) = hi by omega]
theorem CA_c {c : Int → Int → Int} {lo hi : Int} {A B : Int → Int} (h : ∀ u : Int, lo ≤ u → u < hi → A u = B u) : CA c lo hi A = CA c lo hi B := by
  unfold CA
  by_cases e : lo ≤ hi
  · exact sumF_c _ _ (fun i i0 i1 => by rw [h i i0 (by omega)])
  · rw [show (hi - lo).toNat = 0 by omega]; rfl
theorem CA_nn {c : Int → Int → Int} (hi : Int) (A : Int → Int) : ∀ (k : Nat) (lo : Int), lo + k = hi → (∀ u : Int, lo ≤ u → u < hi → A u = 0 ∨ 0 ≤ c u (A u)) → 0 ≤ CA c lo hi A := by
  intro k
  induction k with
  | zero => intro lo h _; rw [CA_0 (by omega)]; omega
  | succ k ih =>
    intro lo h hc
    rw [CA_front (by omega)]
    have a := ih (lo + 1) (by omega) (fun u u0 u1 => hc u (by omega) u1)
    have b := hc lo (by omega) (by omega)
    by_cases e : A lo = 0
    · rw [if_pos e]; omega
    · rw [if_neg e]
      have := b.resolve_left e
      omega
theorem CA_split {c : Int → Int → Int} (hi : Int) (A : Int → Int) : ∀ (k : Nat) (lo mid : Int), lo + k = mid → mid ≤ hi → CA c lo hi A = CA c lo mid A + CA c mid hi A := by
  intro k
  induction k with
  | zero => intro lo mid h h2; rw [CA_0 (c := c) (lo := lo) (hi := mid) (by omega), show lo = mid by omega]; omega
  | succ k ih =>
    intro lo mid h h2
    rw [CA_front (lo := lo) (hi := hi) (by omega), CA_front (lo := lo) (hi := mid) (by omega), ih (lo + 1) mid (by omega) h2]
    omega
/-- the teachers from lo to hi - 1 have sets that make up D -/
def VA (ok : Int → Int → Prop) (lo hi D : Int) (A : Int → Int) : Prop := (∀ u : Int, lo ≤ u → u < hi → A u = 0 ∨ ok u (A u)) ∧ (∀ u v : Int, lo ≤ u → u < hi → lo ≤ v → v < hi → ¬ u = v → ∀ q : Int, 0 ≤ q → bi (A u) q → ¬ bi (A v) q) ∧ ∀ q : Int, 0 ≤ q → (bi D q ↔ ∃ u : Int, lo ≤ u ∧ u < hi ∧ bi (A u) q)
theorem VA_e {ok : Int → Int → Prop} {lo hi D : Int} {A : Int → Int} (h : hi ≤ lo) (hD : 0 ≤ D) : VA ok lo hi D A ↔ D = 0 := by
  constructor
  · rintro ⟨-, -, h3⟩
    exact (zero_bi hD).mpr (fun q q0 hq => by obtain ⟨u, u0, u1, _⟩ := (h3 q q0).mp hq; omega)
  · intro e
    subst e
    exact ⟨fun u u0 u1 => by omega, fun u v u0 u1 => by omega, fun q q0 => ⟨fun z => absurd z (bi_0 q), fun ⟨u, u0, u1, _⟩ => by omega⟩⟩
theorem VA_c {ok : Int → Int → Prop} {lo hi D : Int} {A B : Int → Int} (h : ∀ u : Int, lo ≤ u → u < hi → A u = B u) (hv : VA ok lo hi D A) : VA ok lo hi D B := by
  obtain ⟨h1, h2, h3⟩ := hv
  refine ⟨fun u u0 u1 => by rw [← h u u0 u1]; exact h1 u u0 u1, fun u v u0 u1 v0 v1 hne q q0 => by rw [← h u u0 u1, ← h v v0 v1]; exact h2 u v u0 u1 v0 v1 hne q q0, fun q q0 => ?_⟩
  rw [h3 q q0]
  exact ⟨fun ⟨u, u0, u1, hu⟩ => ⟨u, u0, u1, by rw [← h u u0 u1]; exact hu⟩, fun ⟨u, u0, u1, hu⟩ => ⟨u, u0, u1, by rw [h u u0 u1]; exact hu⟩⟩
theorem VA_back {ok : Int → Int → Prop} {lo hi D E x : Int} {A : Int → Int} (hv : VA ok lo hi D A) (hl : lo ≤ hi) (hx : x = 0 ∨ ok hi x) (hd : ∀ q : Int, 0 ≤ q → bi x q → ¬ bi D q) (he : ∀ q : Int, 0 ≤ q → (bi E q ↔ bi D q ∨ bi x q)) : VA ok lo (hi + 1) E (updA A hi x) := by
  obtain ⟨h1, h2, h3⟩ := hv
  refine ⟨fun u u0 u1 => ?_, fun u v u0 u1 v0 v1 hne q q0 => ?_, fun q q0 => ?_⟩
  · by_cases e : u = hi
    · rw [e, updA_e]; exact hx
    · rw [updA_n e]; exact h1 u u0 (by omega)
  · by_cases e : u = hi
    · by_cases e2 : v = hi
      · omega
      · rw [e, updA_e, updA_n e2]
        intro hq hv2
        exact hd q q0 hq ((h3 q q0).mpr ⟨v, v0, by omega, hv2⟩)
    · by_cases e2 : v = hi
      · rw [e2, updA_e, updA_n e]
        intro hq hv2
        exact hd q q0 hv2 ((h3 q q0).mpr ⟨u, u0, by omega, hq⟩)
      · rw [updA_n e, updA_n e2]
        exact h2 u v u0 (by omega) v0 (by omega) hne q q0
  · rw [he q q0, h3 q q0]
    constructor
    · rintro (⟨u, u0, u1, hu⟩ | hx2)
      · exact ⟨u, u0, by omega, by rw [updA_n (by omega)]; exact hu⟩
      · exact ⟨hi, hl, by omega, by rw [updA_e]; exact hx2⟩
    · rintro ⟨u, u0, u1, hu⟩
      by_cases e : u = hi
      · rw [e, updA_e] at hu; exact Or.inr hu
      · rw [updA_n e] at hu; exact Or.inl ⟨u, u0, by omega, hu⟩
theorem VA_fext {ok : Int → Int → Prop} {lo hi D E x : Int} {A : Int → Int} (hv : VA ok (lo + 1) hi D A) (hl : lo < hi) (hx : x = 0 ∨ ok lo x) (hd : ∀ q : Int, 0 ≤ q → bi x q → ¬ bi D q) (he : ∀ q : Int, 0 ≤ q → (bi E q ↔ bi D q ∨ bi x q)) : VA ok lo hi E (updA A lo x) := by
  obtain ⟨h1, h2, h3⟩ := hv
  refine ⟨fun u u0 u1 => ?_, fun u v u0 u1 v0 v1 hne q q0 => ?_, fun q q0 => ?_⟩
  · by_cases e : u = lo
    · rw [e, updA_e]; exact hx
    · rw [updA_n e]; exact h1 u (by omega) u1
  · by_cases e : u = lo
    · by_cases e2 : v = lo
      · omega
      · rw [e, updA_e, updA_n e2]
        intro hq hv2
        exact hd q q0 hq ((h3 q q0).mpr ⟨v, by omega, v1, hv2⟩)
    · by_cases e2 : v = lo
      · rw [e2, updA_e, updA_n e]
        intro hq hv2
        exact hd q q0 hv2 ((h3 q q0).mpr ⟨u, by omega, u1, hq⟩)
      · rw [updA_n e, updA_n e2]
        exact h2 u v (by omega) u1 (by omega) v1 hne q q0
  · rw [he q q0, h3 q q0]
    constructor
    · rintro (⟨u, u0, u1, hu⟩ | hx2)
      · exact ⟨u, by omega, u1, by rw [updA_n (by omega)]; exact hu⟩
      · exact ⟨lo, by omega, hl, by rw [updA_e]; exact hx2⟩
    · rintro ⟨u, u0, u1, hu⟩
      by_cases e : u = lo
      · rw [e, updA_e] at hu; exact Or.inr hu
      · rw [updA_n e] at hu; exact Or.inl ⟨u, by omega, u1, hu⟩
theorem VA_front {ok : Int → Int → Prop} {lo hi D E : Int} {A : Int → Int} (hv : VA ok lo hi E A) (hl : lo < hi) (he : ∀ q : Int, 0 ≤ q → (bi D q ↔ bi E q ∧ ¬ bi (A lo) q)) : VA ok (lo + 1) hi D A ∧ SubB (A lo) E := by
  obtain ⟨h1, h2, h3⟩ := hv
  refine ⟨⟨fun u u0 u1 => h1 u (by omega) u1, fun u v u0 u1 v0 v1 hne => h2 u v (by omega) u1 (by omega) v1 hne, fun q q0 => ?_⟩, fun q q0 hq => (h3 q q0).mpr ⟨lo, by omega, hl, hq⟩⟩
  rw [he q q0, h3 q q0]
  constructor
  · rintro ⟨⟨u, u0, u1, hu⟩, hn⟩
    by_cases e : u = lo
    · rw [e] at hu; exact absurd hu hn
    · exact ⟨u, by omega, u1, hu⟩
  · rintro ⟨u, u0, u1, hu⟩
    exact ⟨⟨u, by omega, u1, hu⟩, h2 u lo (by omega) u1 (by omega) hl (by omega) q q0 hu⟩
/-- the pupils of the teachers ahead of t -/
def pre (A : Int → Int) (t : Int) : Int := orF (fun q => anyF (fun u => tb (A u) q) 0 t.toNat) 0 0 10
theorem pre_bi {A : Int → Int} {t : Int} (t0 : 0 ≤ t) (hA : ∀ u : Int, 0 ≤ u → u < t → 0 ≤ A u ∧ A u < 1024) : 0 ≤ pre A t ∧ pre A t < 1024 ∧ ∀ q : Int, 0 ≤ q → (bi (pre A t) q ↔ ∃ u : Int, 0 ≤ u ∧ u < t ∧ bi (A u) q) := by
  obtain ⟨b0, b1, b2⟩ := orF_bi (fun q => anyF (fun u => tb (A u) q) 0 t.toNat) 10 0 0 (by omega) (by omega) (by omega) (by omega)
  refine ⟨b0, b1, fun q q0 => ?_⟩
  unfold pre
  rw [b2 q q0, anyF_t]
  constructor
  · rintro (z | ⟨z1, z2, u, u0, u1, hu⟩)
    · exact absurd z (bi_0 q)
    · exact ⟨u, u0, by omega, hu⟩
  · rintro ⟨u, u0, u1, hu⟩
    have := bi_10 (hA u u0 u1).1 (hA u u0 u1).2 q0 hu
    exact Or.inr ⟨q0, by omega, u, u0, by omega, hu⟩
theorem VA_pre {ok : Int → Int → Prop} {T H t : Int} {A : Int → Int} (hv : VA ok 0 T H A) (t0 : 0 ≤ t) (t1 : t ≤ T) (hA : ∀ u : Int, 0 ≤ u → u < T → 0 ≤ A u ∧ A u < 1024) : VA ok 0 t (pre A t) A ∧ SubB (pre A t) H := by
  obtain ⟨h1, h2, h3⟩ := hv
  obtain ⟨b0, b1, b2⟩ := pre_bi t0 (fun u u0 u1 => hA u u0 (by omega))
  refine ⟨⟨fun u u0 u1 => h1 u u0 (by omega), fun u v u0 u1 v0 v1 => h2 u v u0 (by omega) v0 (by omega), b2⟩, fun q q0 hq => ?_⟩
  obtain ⟨u, u0, u1, hu⟩ := (b2 q q0).mp hq
  exact (h3 q q0).mpr ⟨u, u0, by omega, hu⟩

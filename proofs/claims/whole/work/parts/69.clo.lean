/-! what can be come to: the least closed set -/
def pc6 (x : Nat) : Nat := x % 2 + x / 2 % 2 + x / 4 % 2 + x / 8 % 2 + x / 16 % 2 + x / 32 % 2
theorem pc6_lt : ∀ x y : Fin 64, x.val &&& y.val = x.val → ¬ x.val = y.val → pc6 x.val < pc6 y.val := by decide +kernel
theorem pc6_63 : ∀ x : Fin 64, 6 ≤ pc6 x.val → x.val = 63 := by decide +kernel
def In6 (x : Int) : Prop := 0 ≤ x ∧ x < 64
def Sub6 (x y : Int) : Prop := ∀ p : Int, 0 ≤ p → bi x p → bi y p
def Cl6 (E : Int → Int → Prop) (x : Int) : Prop := ∀ p q : Int, 0 ≤ p → bi x p → E p q → bi x q
theorem In6_bi {x p : Int} (h : In6 x) (p0 : 0 ≤ p) (hb : bi x p) : p < 6 := by
  refine Classical.byContradiction fun hn => ?_
  obtain ⟨h0, h1⟩ := h
  unfold bi at hb
  have h2 : 2 ^ 6 ≤ 2 ^ p.toNat := Nat.pow_le_pow_right (by omega) (by omega)
  rw [Nat.testBit_lt_two_pow (Nat.lt_of_lt_of_le (show x.toNat < 2 ^ 6 by omega) h2)] at hb
  cases hb
theorem Sub6_eq {x y : Int} (hx : In6 x) (hy : In6 y) (h1 : Sub6 x y) (h2 : Sub6 y x) : x = y := bi_ext hx.1 hy.1 (fun p p0 => ⟨h1 p p0, h2 p p0⟩)
theorem Sub6_pc {x y : Int} (hx : In6 x) (hy : In6 y) (h1 : Sub6 x y) (hn : ¬ x = y) : pc6 x.toNat < pc6 y.toNat := by
  obtain ⟨x0, x1⟩ := hx
  obtain ⟨y0, y1⟩ := hy
  refine pc6_lt ⟨x.toNat, by omega⟩ ⟨y.toNat, by omega⟩ ?_ (by show ¬ x.toNat = y.toNat; omega)
  show x.toNat &&& y.toNat = x.toNat
  apply Nat.eq_of_testBit_eq
  intro i
  rw [Nat.testBit_and]
  by_cases h : x.toNat.testBit i = true
  · have := h1 (i : Int) (by omega) h
    unfold bi at this
    rw [Int.toNat_natCast] at this
    rw [h, this]; rfl
  · rw [Bool.eq_false_iff.mpr h]; rfl
theorem bi_63 {p : Int} (p0 : 0 ≤ p) (p1 : p < 6) : bi 63 p := by
  unfold bi
  rw [show (63 : Int).toNat = 2 ^ 6 - 1 from rfl, Nat.testBit_two_pow_sub_one]
  exact decide_eq_true (by omega)
def iterI (R : Int → Int) : Nat → Int → Int
  | 0, x => x
  | n + 1, x => iterI R n (R x)
/-- a round -/
def Rnd (E : Int → Int → Prop) (R : Int → Int) : Prop := ∀ x : Int, In6 x → In6 (R x) ∧ Sub6 x (R x) ∧ (∀ z : Int, Cl6 E z → Sub6 x z → Sub6 (R x) z) ∧ (R x = x → Cl6 E x)
theorem Rnd_it {E : Int → Int → Prop} {R : Int → Int} (hR : Rnd E R) : ∀ (n : Nat) (x : Int), In6 x → In6 (iterI R n x) ∧ Sub6 x (iterI R n x) ∧ (∀ z : Int, Cl6 E z → Sub6 x z → Sub6 (iterI R n x) z) ∧ (Cl6 E (iterI R n x) ∨ pc6 x.toNat + n ≤ pc6 (iterI R n x).toNat) := by
  intro n
  induction n with
  | zero => intro x hx; exact ⟨hx, fun p _ h => h, fun z _ h => h, Or.inr (Nat.le_refl _)⟩
  | succ n ih =>
    intro x hx
    obtain ⟨a1, a2, a3, a4⟩ := hR x hx
    obtain ⟨b1, b2, b3, b4⟩ := ih (R x) a1
    refine ⟨b1, fun p p0 h => b2 p p0 (a2 p p0 h), fun z hz h => b3 z hz (a3 z hz h), ?_⟩
    show Cl6 E (iterI R n (R x)) ∨ _
    rcases b4 with b4 | b4
    · exact Or.inl b4
    · by_cases e : R x = x
      · left
        have hc := a4 e
        have hs := b3 x hc (by rw [e]; exact fun p _ h => h)
        have : iterI R n (R x) = x := Sub6_eq b1 hx hs (fun p p0 h => b2 p p0 (a2 p p0 h))
        rw [this]; exact hc
      · right
        have := Sub6_pc hx a1 a2 (fun h => e h.symm)
        show _ ≤ pc6 (iterI R n (R x)).toNat
        omega
/-- r is the least closed set that holds m -/
def Clo (E : Int → Int → Prop) (m r : Int) : Prop := In6 r ∧ bi r m ∧ Cl6 E r ∧ ∀ z : Int, Cl6 E z → bi z m → Sub6 r z
theorem Clo_u {E : Int → Int → Prop} {m r r' : Int} (h : Clo E m r) (h' : Clo E m r') : r = r' := Sub6_eq h.1 h'.1 (h.2.2.2 r' h'.2.2.1 h'.2.1) (h'.2.2.2 r h.2.2.1 h.2.1)
theorem sh_6 {a : Int} (a0 : 0 ≤ a) (a1 : a < 6) : In6 (zshl 1 a) ∧ ∀ p : Int, 0 ≤ p → (bi (zshl 1 a) p ↔ p = a) := by
  obtain ⟨a, rfl⟩ := Int.eq_ofNat_of_zero_le a0
  rw [zshl_1 (by omega)]
  have h1 : 2 ^ a < 2 ^ 6 := Nat.pow_lt_pow_right (by omega) (by omega)
  have h0 : 0 < 2 ^ a := Nat.two_pow_pos a
  refine ⟨⟨by omega, by omega⟩, fun p p0 => ?_⟩
  obtain ⟨p, rfl⟩ := Int.eq_ofNat_of_zero_le p0
  unfold bi
  rw [Int.toNat_natCast, Int.toNat_natCast, Nat.testBit_two_pow, decide_eq_true_eq]
  omega
theorem or_6 {x y : Int} (hx : In6 x) (hy : In6 y) : In6 (zor x y) ∧ ∀ p : Int, 0 ≤ p → (bi (zor x y) p ↔ bi x p ∨ bi y p) := by
  obtain ⟨x0, x1⟩ := hx
  obtain ⟨y0, y1⟩ := hy
  obtain ⟨b0, b1, b2⟩ := zor_bi x0 (show x < 1024 by omega) y0 (show y < 1024 by omega)
  refine ⟨⟨b0, ?_⟩, b2⟩
  obtain ⟨x, rfl⟩ := Int.eq_ofNat_of_zero_le x0
  obtain ⟨y, rfl⟩ := Int.eq_ofNat_of_zero_le y0
  have l : x ||| y < 2 ^ 6 := Nat.or_lt_two_pow (by omega) (by omega)
  rw [zor_n (by omega) (by omega)]
  omega
theorem Rnd_clo {E : Int → Int → Prop} {R : Int → Int} (hR : Rnd E R) (hE : ∀ p q : Int, E p q → 0 ≤ q ∧ q < 6) {m : Int} (m0 : 0 ≤ m) (m1 : m < 6) (n : Nat) (hn : 5 ≤ n) : Clo E m (iterI R n (zshl 1 m)) := by
  obtain ⟨a1, a2⟩ := sh_6 m0 m1
  obtain ⟨b1, b2, b3, b4⟩ := Rnd_it hR n _ a1
  refine ⟨b1, b2 m m0 ((a2 m m0).mpr rfl), ?_, fun z hz hm => b3 z hz (fun p p0 hp => by rw [(a2 p p0).mp hp]; exact hm)⟩
  rcases b4 with b4 | b4
  · exact b4
  · have h1 : 0 < pc6 (zshl 1 m).toNat := by
      have hz : ¬ (0 : Int) = zshl 1 m := fun e => by
        have := (a2 m m0).mpr rfl
        rw [← e] at this
        exact bi_0 m this
      have := Sub6_pc (x := 0) (y := zshl 1 m) ⟨by omega, by omega⟩ a1 (fun p _ h => absurd h (bi_0 p)) hz
      omega
    have h2 := pc6_63 ⟨(iterI R n (zshl 1 m)).toNat, by have := b1.2; have := b1.1; omega⟩ (by show 6 ≤ pc6 (iterI R n (zshl 1 m)).toNat; omega)
    have h3 : iterI R n (zshl 1 m) = 63 := by
      have := b1.1
      have h2' : (iterI R n (zshl 1 m)).toNat = 63 := h2
      omega
    rw [h3]
    intro p q p0 hp he
    exact bi_63 (hE p q he).1 (hE p q he).2
/-- steps that only add -/
theorem fold_sub {st : Int → Int → Int} (hs : ∀ x i : Int, In6 x → In6 (st x i) ∧ Sub6 x (st x i)) : ∀ (k : Nat) (x t : Int), In6 x → In6 (foldI st x t k) ∧ Sub6 x (foldI st x t k) ∧ (foldI st x t k = x → ∀ i : Int, t ≤ i → i < t + k → st x i = x) := by
  intro k
  induction k with
  | zero => intro x t hx; exact ⟨hx, fun p _ h => h, fun _ i h1 h2 => by omega⟩
  | succ k ih =>
    intro x t hx
    obtain ⟨a1, a2⟩ := hs x t hx
    obtain ⟨b1, b2, b3⟩ := ih (st x t) (t + 1) a1
    refine ⟨b1, fun p p0 h => b2 p p0 (a2 p p0 h), fun e i i0 i1 => ?_⟩
    have e2 : st x t = x := by
      refine Sub6_eq a1 hx (fun p p0 h => ?_) a2
      have := b2 p p0 h
      rw [show foldI st (st x t) (t + 1) k = x from e] at this
      exact this
    by_cases ei : i = t
    · rw [ei]; exact e2
    · have e3 : foldI st (st x t) (t + 1) k = st x t := Eq.trans (show foldI st (st x t) (t + 1) k = x from e) e2.symm
      have := b3 e3 i (by omega) (by omega)
      rw [e2] at this
      exact this
theorem fold_pre {E : Int → Int → Prop} {st : Int → Int → Int} {z : Int} (hz : ∀ x i : Int, Sub6 x z → Sub6 (st x i) z) : ∀ (k : Nat) (x t : Int), Sub6 x z → Sub6 (foldI st x t k) z := by
  intro k
  induction k with
  | zero => intro x t h; exact h
  | succ k ih => intro x t h; exact ih (st x t) (t + 1) (hz x t h)

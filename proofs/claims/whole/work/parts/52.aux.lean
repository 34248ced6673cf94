/-! help: states, folds, bits -/
theorem zup_ng {s : zS} {g g' : Nat} {i k x : Int} (h : ¬ g' = g) : zup s g i k x g' = s g' := by rw [zup_g, if_neg h]
theorem zup_eq (s : zS) (g : Nat) (i k x : Int) : zup s g i k x g i k = x := if_pos ⟨rfl, rfl, rfl⟩
theorem zup_nk {s : zS} {g : Nat} {i k x i' k' : Int} (h : ¬ k' = k) : zup s g i k x g i' k' = s g i' k' := if_neg (fun z => h z.2.2)
theorem zup_ni {s : zS} {g : Nat} {i k x i' k' : Int} (h : ¬ i' = i) : zup s g i k x g i' k' = s g i' k' := if_neg (fun z => h z.2.1)
theorem zup_id {s : zS} {g : Nat} {i k x : Int} (h : x = s g i k) : zup s g i k x = s := by
  funext g' i' k'
  unfold zup
  by_cases c : g' = g ∧ i' = i ∧ k' = k
  · rw [if_pos c]; obtain ⟨c1, c2, c3⟩ := c; subst c1; subst c2; subst c3; exact h
  · rw [if_neg c]
theorem zup_up (s : zS) (g : Nat) (i k x y : Int) : zup (zup s g i k x) g i k y = zup s g i k y := by
  funext g' i' k'
  unfold zup
  by_cases c : g' = g ∧ i' = i ∧ k' = k
  · rw [if_pos c, if_pos c]
  · rw [if_neg c, if_neg c, if_neg c]
/-- a stretch of a row all x -/
def zfl (s : zS) (g : Nat) (i lo hi x : Int) : zS := fun g' i' k' => if g' = g ∧ i' = i ∧ lo ≤ k' ∧ k' < hi then x else s g' i' k'
theorem zfl_ng {s : zS} {g g' : Nat} {i lo hi x : Int} (h : ¬ g' = g) : zfl s g i lo hi x g' = s g' := by
  funext i' k'
  exact if_neg (fun z => h z.1)
theorem zfl_0 {s : zS} {g : Nat} {i lo hi x : Int} (h : hi ≤ lo) : zfl s g i lo hi x = s := by
  funext g' i' k'
  exact if_neg (fun z => by omega)
theorem zfl_s {s : zS} {g : Nat} {i lo hi x : Int} (h : lo < hi) : zfl (zup s g i lo x) g i (lo + 1) hi x = zfl s g i lo hi x := by
  funext g' i' k'
  unfold zfl zup
  by_cases c : g' = g ∧ i' = i ∧ lo ≤ k' ∧ k' < hi
  · rw [if_pos c]
    by_cases d : k' = lo
    · rw [if_neg (by omega), if_pos ⟨c.1, c.2.1, d⟩]
    · rw [if_pos ⟨c.1, c.2.1, by omega, c.2.2.2⟩]
  · rw [if_neg c, if_neg (fun z => c ⟨z.1, z.2.1, by omega, z.2.2.2⟩), if_neg (fun z => c ⟨z.1, z.2.1, by omega, by omega⟩)]
theorem zfl_in {s : zS} {g : Nat} {i lo hi x k : Int} (h1 : lo ≤ k) (h2 : k < hi) : zfl s g i lo hi x g i k = x := if_pos ⟨rfl, rfl, h1, h2⟩
theorem zfl_ni {s : zS} {g : Nat} {i i' lo hi x k : Int} (h : ¬ i' = i) : zfl s g i lo hi x g i' k = s g i' k := if_neg (fun z => h z.2.1)
theorem zfl_out {s : zS} {g : Nat} {i i' lo hi x k : Int} (h : ¬ (lo ≤ k ∧ k < hi)) : zfl s g i lo hi x g i' k = s g i' k := if_neg (fun z => h z.2.2)
/-- cells that no later call looks at -/
def Scr (g : Nat) : Prop := g = 2 ∨ g = 4 ∨ g = 44 ∨ g = 45 ∨ g = 46 ∨ g = 47 ∨ g = 50 ∨ g = 52 ∨ g = 102 ∨ g = 103 ∨ g = 104 ∨ g = 105 ∨ g = 55
def Sm (s s1 : zS) : Prop := ∀ g : Nat, ¬ Scr g → s1 g = s g
theorem Sm_r (s : zS) : Sm s s := fun _ _ => rfl
theorem Sm_t {a b c : zS} (h1 : Sm a b) (h2 : Sm b c) : Sm a c := fun g h => (h2 g h).trans (h1 g h)
theorem Sm_up {s s1 : zS} {g : Nat} (i k x : Int) (hg : Scr g) (h : Sm s s1) : Sm s (zup s1 g i k x) := fun g' h' => by
  rw [zup_ng (fun e => h' (by rw [e]; exact hg))]; exact h g' h'
theorem Sm_fl {s s1 : zS} {g : Nat} (i lo hi x : Int) (hg : Scr g) (h : Sm s s1) : Sm s (zfl s1 g i lo hi x) := fun g' h' => by
  rw [zfl_ng (fun e => h' (by rw [e]; exact hg))]; exact h g' h'
theorem Inv_Sm {L : Nat} {s s1 : zS} (h : Sm s s1) (hs : Inv L s) : Inv L s1 := by
  have e : ∀ g : Nat, ¬ Scr g → s1 g = s g := h
  unfold Inv
  rw [e 110 (by unfold Scr; omega), e 111 (by unfold Scr; omega), e 108 (by unfold Scr; omega), e 109 (by unfold Scr; omega), e 10 (by unfold Scr; omega), e 11 (by unfold Scr; omega), e 6 (by unfold Scr; omega), e 3 (by unfold Scr; omega), e 1 (by unfold Scr; omega), e 5 (by unfold Scr; omega), e 42 (by unfold Scr; omega), e 73 (by unfold Scr; omega), e 74 (by unfold Scr; omega), e 75 (by unfold Scr; omega), e 76 (by unfold Scr; omega), e 77 (by unfold Scr; omega), e 78 (by unfold Scr; omega), e 79 (by unfold Scr; omega), e 80 (by unfold Scr; omega), e 81 (by unfold Scr; omega), e 82 (by unfold Scr; omega), e 83 (by unfold Scr; omega), e 8 (by unfold Scr; omega), e 84 (by unfold Scr; omega), e 85 (by unfold Scr; omega), e 86 (by unfold Scr; omega), e 87 (by unfold Scr; omega), e 9 (by unfold Scr; omega), e 88 (by unfold Scr; omega), e 89 (by unfold Scr; omega), e 93 (by unfold Scr; omega), e 12 (by unfold Scr; omega), e 90 (by unfold Scr; omega), e 91 (by unfold Scr; omega), e 92 (by unfold Scr; omega), e 0 (by unfold Scr; omega), e 94 (by unfold Scr; omega), e 95 (by unfold Scr; omega), e 96 (by unfold Scr; omega), e 97 (by unfold Scr; omega), e 98 (by unfold Scr; omega), e 7 (by unfold Scr; omega), e 54 (by unfold Scr; omega), e 99 (by unfold Scr; omega), e 100 (by unfold Scr; omega), e 101 (by unfold Scr; omega)]
  exact hs
/-! folds -/
def foldI {α : Type} (f : α → Int → α) : α → Int → Nat → α
  | a, _, 0 => a
  | a, t, k + 1 => foldI f (f a t) (t + 1) k
theorem foldI_c {α : Type} {f g : α → Int → α} : ∀ (k : Nat) (a : α) (t : Int), (∀ a i, t ≤ i → i < t + k → f a i = g a i) → foldI f a t k = foldI g a t k := by
  intro k
  induction k with
  | zero => intro a t _; rfl
  | succ k ih =>
    intro a t h
    show foldI f (f a t) (t + 1) k = foldI g (g a t) (t + 1) k
    rw [h a t (by omega) (by omega)]
    exact ih _ _ (fun a i h1 h2 => h a i (by omega) (by omega))
def anyF (f : Int → Bool) : Int → Nat → Bool
  | _, 0 => false
  | t, k + 1 => f t || anyF f (t + 1) k
theorem anyF_t {f : Int → Bool} : ∀ (k : Nat) (t : Int), anyF f t k = true ↔ ∃ i, t ≤ i ∧ i < t + k ∧ f i = true := by
  intro k
  induction k with
  | zero => intro t; exact ⟨fun h => Bool.noConfusion h, fun ⟨i, h1, h2, _⟩ => by omega⟩
  | succ k ih =>
    intro t
    show (f t || anyF f (t + 1) k) = true ↔ _
    rw [Bool.or_eq_true, ih]
    constructor
    · rintro (h | ⟨i, h1, h2, h3⟩)
      · exact ⟨t, by omega, by omega, h⟩
      · exact ⟨i, by omega, by omega, h3⟩
    · rintro ⟨i, h1, h2, h3⟩
      by_cases e : i = t
      · subst e; exact Or.inl h3
      · exact Or.inr ⟨i, by omega, by omega, h3⟩
def firstF (f : Int → Bool) : Int → Nat → Int
  | _, 0 => -1
  | t, k + 1 => if f t = true then t else firstF f (t + 1) k
theorem firstF_c {f g : Int → Bool} : ∀ (k : Nat) (t : Int), (∀ i, t ≤ i → i < t + k → f i = g i) → firstF f t k = firstF g t k := by
  intro k
  induction k with
  | zero => intro t _; rfl
  | succ k ih =>
    intro t h
    show (if f t = true then t else firstF f (t + 1) k) = (if g t = true then t else firstF g (t + 1) k)
    rw [h t (by omega) (by omega), ih (t + 1) (fun i h1 h2 => h i (by omega) (by omega))]
/-- a bit of a set -/
def tb (x p : Int) : Bool := x.toNat.testBit p.toNat
theorem bi_tb (x p : Int) : bi x p ↔ tb x p = true := Iff.rfl
def hb (x p : Int) : Int := if tb x p = true then 1 else 0
theorem has_c {x n : Int} (h0 : 0 ≤ x) (h1 : x < 1024) (n0 : 0 ≤ n) (n1 : n < 10) : z01 (¬ zand (zshr x n) 1 = 0) = hb x n := by
  unfold hb
  by_cases h : tb x n = true
  · rw [if_pos h]; exact z01_t ((has_bi h0 h1 n0 n1).mpr h)
  · rw [if_neg h]; exact z01_f (fun z => h ((has_bi h0 h1 n0 n1).mp z))
theorem has_m {x n : Int} (h0 : 0 ≤ x) (h1 : x < 1024) (n0 : 0 ≤ n) (n1 : n < 10) : z01 (zand (zshr x n) 1 = 1) = hb x n := by
  have e := has_z h0 h1 n0 n1
  unfold hb
  by_cases h : tb x n = true
  · rw [if_pos h]; exact z01_t (e.trans (if_pos h))
  · rw [if_neg h]; exact z01_f (by rw [e.trans (if_neg h)]; omega)
theorem bi_10 {x p : Int} (h0 : 0 ≤ x) (h1 : x < 1024) (p0 : 0 ≤ p) (h : bi x p) : p < 10 := by
  refine Classical.byContradiction fun hn => ?_
  unfold bi at h
  have h2 : 2 ^ 10 ≤ 2 ^ p.toNat := Nat.pow_le_pow_right (by omega) (by omega)
  rw [Nat.testBit_lt_two_pow (Nat.lt_of_lt_of_le (show x.toNat < 2 ^ 10 by omega) h2)] at h
  cases h
theorem bi_ext {x y : Int} (x0 : 0 ≤ x) (y0 : 0 ≤ y) (h : ∀ p : Int, 0 ≤ p → (bi x p ↔ bi y p)) : x = y := by
  have e : x.toNat = y.toNat := by
    apply Nat.eq_of_testBit_eq
    intro i
    have := h (i : Int) (by omega)
    unfold bi at this
    rw [Int.toNat_natCast] at this
    exact Bool.eq_iff_iff.mpr this
  omega
/-- the set of those below that meet a condition -/
def orF (c : Int → Bool) (a t : Int) (k : Nat) : Int := foldI (fun a p => if c p = true then zor a (zshl 1 p) else a) a t k
theorem orF_s (c : Int → Bool) (a t : Int) (k : Nat) : orF c a t (k + 1) = orF c (if c t = true then zor a (zshl 1 t) else a) (t + 1) k := rfl
theorem orF_bi (c : Int → Bool) : ∀ (k : Nat) (a t : Int), 0 ≤ a → a < 1024 → 0 ≤ t → t + k ≤ 10 → 0 ≤ orF c a t k ∧ orF c a t k < 1024 ∧ ∀ q : Int, 0 ≤ q → (bi (orF c a t k) q ↔ bi a q ∨ (t ≤ q ∧ q < t + k ∧ c q = true)) := by
  intro k
  induction k with
  | zero =>
    intro a t a0 a1 t0 t1
    refine ⟨a0, a1, fun q q0 => ⟨Or.inl, ?_⟩⟩
    rintro (h | ⟨h1, h2, _⟩)
    · exact h
    · omega
  | succ k ih =>
    intro a t a0 a1 t0 t1
    rw [orF_s]
    by_cases hc : c t = true
    · rw [if_pos hc]
      obtain ⟨b0, b1, b2⟩ := set_bi a0 a1 t0 (show t < 10 by omega)
      obtain ⟨d0, d1, d2⟩ := ih _ (t + 1) b0 b1 (by omega) (by omega)
      refine ⟨d0, d1, fun q q0 => ?_⟩
      rw [d2 q q0, b2 q q0]
      constructor
      · rintro ((h | h) | ⟨h1, h2, h3⟩)
        · exact Or.inl h
        · subst h; exact Or.inr ⟨by omega, by omega, hc⟩
        · exact Or.inr ⟨by omega, by omega, h3⟩
      · rintro (h | ⟨h1, h2, h3⟩)
        · exact Or.inl (Or.inl h)
        · by_cases e : q = t
          · exact Or.inl (Or.inr e)
          · exact Or.inr ⟨by omega, by omega, h3⟩
    · rw [if_neg hc]
      obtain ⟨d0, d1, d2⟩ := ih a (t + 1) a0 a1 (by omega) (by omega)
      refine ⟨d0, d1, fun q q0 => ?_⟩
      rw [d2 q q0]
      constructor
      · rintro (h | ⟨h1, h2, h3⟩)
        · exact Or.inl h
        · exact Or.inr ⟨by omega, by omega, h3⟩
      · rintro (h | ⟨h1, h2, h3⟩)
        · exact Or.inl h
        · by_cases e : q = t
          · subst e; exact absurd h3 hc
          · exact Or.inr ⟨by omega, by omega, h3⟩
theorem bi_0 (p : Int) : ¬ bi 0 p := by
  unfold bi
  rw [show (0 : Int).toNat = 0 from rfl, Nat.zero_testBit]
  exact fun h => by cases h
theorem zor_0 {a : Int} (h0 : 0 ≤ a) (h1 : a < 1024) : zor a 0 = a := by
  obtain ⟨a, rfl⟩ := Int.eq_ofNat_of_zero_le h0
  have := zor_n (x := a) (y := 0) (by omega) (by omega)
  rw [Nat.or_zero] at this
  exact this
theorem zand_bi {x y : Int} (x0 : 0 ≤ x) (x1 : x < 1024) (y0 : 0 ≤ y) (y1 : y < 1024) : 0 ≤ zand x y ∧ zand x y < 1024 ∧ ∀ p : Int, 0 ≤ p → (bi (zand x y) p ↔ bi x p ∧ bi y p) := by
  obtain ⟨x, rfl⟩ := Int.eq_ofNat_of_zero_le x0
  obtain ⟨y, rfl⟩ := Int.eq_ofNat_of_zero_le y0
  have l : x &&& y ≤ x := Nat.and_le_left
  rw [zand_n (by omega) (by omega)]
  refine ⟨by omega, by omega, fun p p0 => ?_⟩
  obtain ⟨p, rfl⟩ := Int.eq_ofNat_of_zero_le p0
  unfold bi
  simp only [Int.toNat_natCast, Nat.testBit_and, Bool.and_eq_true]
theorem zor_bi {x y : Int} (x0 : 0 ≤ x) (x1 : x < 1024) (y0 : 0 ≤ y) (y1 : y < 1024) : 0 ≤ zor x y ∧ zor x y < 1024 ∧ ∀ p : Int, 0 ≤ p → (bi (zor x y) p ↔ bi x p ∨ bi y p) := by
  obtain ⟨x, rfl⟩ := Int.eq_ofNat_of_zero_le x0
  obtain ⟨y, rfl⟩ := Int.eq_ofNat_of_zero_le y0
  have l : x ||| y < 2 ^ 10 := Nat.or_lt_two_pow (by omega) (by omega)
  rw [zor_n (by omega) (by omega)]
  refine ⟨by omega, by omega, fun p p0 => ?_⟩
  obtain ⟨p, rfl⟩ := Int.eq_ofNat_of_zero_le p0
  unfold bi
  simp only [Int.toNat_natCast, Nat.testBit_or, Bool.or_eq_true]
theorem zandnot_n {x y : Nat} (hx : x < 1024) (hy : y < 1024) : zand x (zxor y (-1)) = ((x &&& (1023 ^^^ y) : Nat) : Int) := by
  unfold zand zxor
  have e : (Int32.ofInt (x : Int) &&& Int32.ofInt ((Int32.ofInt (y : Int) ^^^ Int32.ofInt (-1)).toInt)).toBitVec.toNat = x &&& (1023 ^^^ y) := by
    rw [Int32.ofInt_toInt, Int32.toBitVec_and, BitVec.toNat_and, Int32.toBitVec_xor, BitVec.toNat_xor, Int32.toBitVec_ofInt, Int32.toBitVec_ofInt, bv_n (by omega), bv_n (by omega)]
    apply Nat.eq_of_testBit_eq
    intro i
    have em : (Int32.ofInt (-1)).toBitVec.toNat = 2 ^ 32 - 1 := by decide
    rw [em, Nat.testBit_and, Nat.testBit_and, Nat.testBit_xor, Nat.testBit_xor, Nat.testBit_two_pow_sub_one, show (1023 : Nat) = 2 ^ 10 - 1 from rfl, Nat.testBit_two_pow_sub_one]
    by_cases h : i < 10
    · have h2 : i < 32 := by omega
      simp [h, h2]
    · have : x.testBit i = false := Nat.testBit_lt_two_pow (Nat.lt_of_lt_of_le (show x < 2 ^ 10 by omega) (Nat.pow_le_pow_right (by omega) (by omega)))
      simp [this]
  have l : x &&& (1023 ^^^ y) ≤ x := Nat.and_le_left
  rw [← Int32.toInt_toBitVec, bv_i (by rw [e]; omega), e]
theorem zandnot_bi {x y : Int} (x0 : 0 ≤ x) (x1 : x < 1024) (y0 : 0 ≤ y) (y1 : y < 1024) : 0 ≤ zand x (zxor y (-1)) ∧ zand x (zxor y (-1)) < 1024 ∧ ∀ p : Int, 0 ≤ p → (bi (zand x (zxor y (-1))) p ↔ bi x p ∧ ¬ bi y p) := by
  obtain ⟨x, rfl⟩ := Int.eq_ofNat_of_zero_le x0
  obtain ⟨y, rfl⟩ := Int.eq_ofNat_of_zero_le y0
  have l : x &&& (1023 ^^^ y) ≤ x := Nat.and_le_left
  rw [zandnot_n (by omega) (by omega)]
  refine ⟨by omega, by omega, fun p p0 => ?_⟩
  have h10 := fun h => bi_10 (x := (x : Int)) (by omega) x1 p0 h
  obtain ⟨p, rfl⟩ := Int.eq_ofNat_of_zero_le p0
  unfold bi at h10 ⊢
  rw [show (1023 : Nat) = 2 ^ 10 - 1 from rfl]
  simp only [Int.toNat_natCast, Nat.testBit_and, Nat.testBit_xor, Nat.testBit_two_pow_sub_one, Bool.and_eq_true] at h10 ⊢
  constructor
  · rintro ⟨h1, h2⟩
    have h3 : p < 10 := by have := h10 h1; omega
    refine ⟨h1, ?_⟩
    simp only [h3, decide_true, Bool.true_xor, Bool.not_eq_true'] at h2
    rw [h2]; exact fun h => by cases h
  · rintro ⟨h1, h2⟩
    have h3 : p < 10 := by have := h10 h1; omega
    refine ⟨h1, ?_⟩
    simp only [h3, decide_true, Bool.true_xor, Bool.not_eq_true']
    exact Bool.eq_false_iff.mpr h2

/-! what is gathered of a set of pupils -/
def mxF (f : Int → Int) (x a t : Int) (k : Nat) : Int := foldI (fun a p => if tb x p = true then nlo a (f p) else a) a t k
def mnF (f : Int → Int) (x a t : Int) (k : Nat) : Int := foldI (fun a p => if tb x p = true then nhi a (f p) else a) a t k
def frx (u f : Int) : Int := if f < 0 then u else zor u (zshl 1 f)
def frF (f : Int → Int) (x a t : Int) (k : Nat) : Int := foldI (fun a p => if tb x p = true then frx a (f p) else a) a t k
def kdF (w : Int) (f : Int → Int) (x a t : Int) (k : Nat) : Int := foldI (fun a p => if tb x p = true then (if f p = w then 1 else a) else a) a t k
theorem mxF_s (f : Int → Int) (x a t : Int) (k : Nat) : mxF f x a t (k + 1) = mxF f x (if tb x t = true then nlo a (f t) else a) (t + 1) k := rfl
theorem mnF_s (f : Int → Int) (x a t : Int) (k : Nat) : mnF f x a t (k + 1) = mnF f x (if tb x t = true then nhi a (f t) else a) (t + 1) k := rfl
theorem frF_s (f : Int → Int) (x a t : Int) (k : Nat) : frF f x a t (k + 1) = frF f x (if tb x t = true then frx a (f t) else a) (t + 1) k := rfl
theorem kdF_s (w : Int) (f : Int → Int) (x a t : Int) (k : Nat) : kdF w f x a t (k + 1) = kdF w f x (if tb x t = true then (if f t = w then 1 else a) else a) (t + 1) k := rfl
theorem mxF_le (f : Int → Int) (x y : Int) : ∀ (k : Nat) (a t : Int), mxF f x a t k ≤ y ↔ a ≤ y ∧ ∀ i : Int, t ≤ i → i < t + k → tb x i = true → f i ≤ y := by
  intro k
  induction k with
  | zero => intro a t; exact ⟨fun h => ⟨h, fun i h1 h2 => by omega⟩, fun h => h.1⟩
  | succ k ih =>
    intro a t
    rw [mxF_s, ih]
    have l := nl_b (x := a) (y := f t)
    by_cases c : tb x t = true
    · rw [if_pos c]
      constructor
      · rintro ⟨h1, h2⟩
        refine ⟨by omega, fun i i0 i1 i2 => ?_⟩
        by_cases e : i = t
        · subst e; omega
        · exact h2 i (by omega) (by omega) i2
      · rintro ⟨h1, h2⟩
        have := h2 t (by omega) (by omega) c
        exact ⟨by omega, fun i i0 i1 i2 => h2 i (by omega) (by omega) i2⟩
    · rw [if_neg c]
      constructor
      · rintro ⟨h1, h2⟩
        refine ⟨h1, fun i i0 i1 i2 => ?_⟩
        by_cases e : i = t
        · subst e; exact absurd i2 c
        · exact h2 i (by omega) (by omega) i2
      · rintro ⟨h1, h2⟩
        exact ⟨h1, fun i i0 i1 i2 => h2 i (by omega) (by omega) i2⟩
theorem mnF_ge (f : Int → Int) (x y : Int) : ∀ (k : Nat) (a t : Int), y ≤ mnF f x a t k ↔ y ≤ a ∧ ∀ i : Int, t ≤ i → i < t + k → tb x i = true → y ≤ f i := by
  intro k
  induction k with
  | zero => intro a t; exact ⟨fun h => ⟨h, fun i h1 h2 => by omega⟩, fun h => h.1⟩
  | succ k ih =>
    intro a t
    rw [mnF_s, ih]
    have l := nh_b (x := a) (y := f t)
    by_cases c : tb x t = true
    · rw [if_pos c]
      constructor
      · rintro ⟨h1, h2⟩
        refine ⟨by omega, fun i i0 i1 i2 => ?_⟩
        by_cases e : i = t
        · subst e; omega
        · exact h2 i (by omega) (by omega) i2
      · rintro ⟨h1, h2⟩
        have := h2 t (by omega) (by omega) c
        exact ⟨by omega, fun i i0 i1 i2 => h2 i (by omega) (by omega) i2⟩
    · rw [if_neg c]
      constructor
      · rintro ⟨h1, h2⟩
        refine ⟨h1, fun i i0 i1 i2 => ?_⟩
        by_cases e : i = t
        · subst e; exact absurd i2 c
        · exact h2 i (by omega) (by omega) i2
      · rintro ⟨h1, h2⟩
        exact ⟨h1, fun i i0 i1 i2 => h2 i (by omega) (by omega) i2⟩
theorem kdF_z (w : Int) (f : Int → Int) (x : Int) : ∀ (k : Nat) (a t : Int), (a = 0 ∨ a = 1) → (kdF w f x a t k = 0 ∨ kdF w f x a t k = 1) ∧ (kdF w f x a t k = 0 ↔ a = 0 ∧ anyF (fun i => tb x i && decide (f i = w)) t k = false) := by
  intro k
  induction k with
  | zero => intro a t ha; exact ⟨ha, ⟨fun h => ⟨h, rfl⟩, fun h => h.1⟩⟩
  | succ k ih =>
    intro a t ha
    rw [kdF_s]
    have e : anyF (fun i => tb x i && decide (f i = w)) t (k + 1) = ((tb x t && decide (f t = w)) || anyF (fun i => tb x i && decide (f i = w)) (t + 1) k) := rfl
    rw [e]
    by_cases c : tb x t = true
    · rw [if_pos c, c]
      by_cases d : f t = w
      · rw [if_pos d, decide_eq_true d]
        obtain ⟨j1, j2⟩ := ih 1 (t + 1) (Or.inr rfl)
        refine ⟨j1, ?_⟩
        rw [j2]
        constructor
        · rintro ⟨h, -⟩; omega
        · rintro ⟨-, h⟩; cases h
      · rw [if_neg d, decide_eq_false d]
        exact ih a (t + 1) ha
    · rw [if_neg c, Bool.eq_false_iff.mpr c]
      exact ih a (t + 1) ha
theorem frx_bi {u f : Int} (u0 : 0 ≤ u) (u1 : u < 1024) (f1 : f < 10) : 0 ≤ frx u f ∧ frx u f < 1024 ∧ ∀ q : Int, 0 ≤ q → (bi (frx u f) q ↔ bi u q ∨ q = f) := by
  unfold frx
  by_cases h : f < 0
  · rw [if_pos h]
    exact ⟨u0, u1, fun q q0 => ⟨Or.inl, fun z => z.elim id (fun y => by omega)⟩⟩
  · rw [if_neg h]
    exact set_bi u0 u1 (by omega) f1
theorem frF_bi (f : Int → Int) (x : Int) : ∀ (k : Nat) (a t : Int), 0 ≤ a → a < 1024 → (∀ i : Int, t ≤ i → i < t + k → f i < 10) → 0 ≤ frF f x a t k ∧ frF f x a t k < 1024 ∧ ∀ q : Int, 0 ≤ q → (bi (frF f x a t k) q ↔ bi a q ∨ ∃ i : Int, t ≤ i ∧ i < t + k ∧ tb x i = true ∧ q = f i) := by
  intro k
  induction k with
  | zero =>
    intro a t a0 a1 hf
    exact ⟨a0, a1, fun q q0 => ⟨Or.inl, fun z => z.elim id (fun ⟨i, y1, y2, _⟩ => by omega)⟩⟩
  | succ k ih =>
    intro a t a0 a1 hf
    rw [frF_s]
    by_cases c : tb x t = true
    · rw [if_pos c]
      obtain ⟨b0, b1, b2⟩ := frx_bi a0 a1 (hf t (by omega) (by omega))
      obtain ⟨d0, d1, d2⟩ := ih _ (t + 1) b0 b1 (fun i i0 i1 => hf i (by omega) (by omega))
      refine ⟨d0, d1, fun q q0 => ?_⟩
      rw [d2 q q0, b2 q q0]
      constructor
      · rintro ((h | h) | ⟨i, h1, h2, h3, h4⟩)
        · exact Or.inl h
        · exact Or.inr ⟨t, by omega, by omega, c, h⟩
        · exact Or.inr ⟨i, by omega, by omega, h3, h4⟩
      · rintro (h | ⟨i, h1, h2, h3, h4⟩)
        · exact Or.inl (Or.inl h)
        · by_cases e : i = t
          · subst e; exact Or.inl (Or.inr h4)
          · exact Or.inr ⟨i, by omega, by omega, h3, h4⟩
    · rw [if_neg c]
      obtain ⟨d0, d1, d2⟩ := ih a (t + 1) a0 a1 (fun i i0 i1 => hf i (by omega) (by omega))
      refine ⟨d0, d1, fun q q0 => ?_⟩
      rw [d2 q q0]
      constructor
      · rintro (h | ⟨i, h1, h2, h3, h4⟩)
        · exact Or.inl h
        · exact Or.inr ⟨i, by omega, by omega, h3, h4⟩
      · rintro (h | ⟨i, h1, h2, h3, h4⟩)
        · exact Or.inl h
        · by_cases e : i = t
          · subst e; exact absurd h3 c
          · exact Or.inr ⟨i, by omega, by omega, h3, h4⟩
/-- how many are in a set -/
def popc (x : Int) : Int := sumF (fun k => zand (zshr x k) 1) 0 10
def bc1 (x : Int) : Int := w32 (x - zand (zushr x 1) 1431655765)
def bc2 (x : Int) : Int := w32 (zand x 858993459 + zand (zushr x 2) 858993459)
def bc3 (x : Int) : Int := zand (w32 (x + zushr x 4)) 252645135
def bc4 (x : Int) : Int := w32 (x + zushr x 8)
def bc5 (x : Int) : Int := w32 (x + zushr x 16)
theorem bc_b : ∀ x : Fin 1024, zand (bc5 (bc4 (bc3 (bc2 (bc1 (x.val : Nat)))))) 63 = popc (x.val : Nat) := by decide +kernel
theorem bc_i {x : Int} (h0 : 0 ≤ x) (h1 : x < 1024) : zand (bc5 (bc4 (bc3 (bc2 (bc1 x))))) 63 = popc x := by
  have h := bc_b ⟨x.toNat, by omega⟩
  simp only [Int.toNat_of_nonneg h0] at h
  exact h
section
variable {m pc : Nat} {ls st : List zV} {fs : List zFr} {s : zS} {Q : List zV → zS → Prop}
theorem k_bitCount (x : Int) (h0 : 0 ≤ x) (h1 : x < 1024) : Ev ((0, 0, [zI x], []) :: (m, pc, ls, st) :: fs) s Q = Ev ((m, pc, ls, zI (popc x) :: st) :: fs) s Q := by
  rw [← bc_i h0 h1]
  simp only [r0_0, r0_1, r0_2, r0_3, r0_4, r0_7, r0_8, r0_9, r0_10, r0_11, r0_14, r0_15, r0_16, r0_17, r0_18, r0_21, r0_22, r0_23, r0_24, r0_25, r0_26, r0_27, r0_28, r0_29, r0_32, r0_33, r0_34, r0_35, r0_36, r0_38, r0_39, r0_40, r0_41, r0_42, r0_43, r0_45, r0_46, r0_47, r0_48, r0_49, r0_51, r0_52, zclr_I, zclr_R, zclr_L, zclr_U, reduceIte, Int.reduceEq, Int.reduceLT, Int.reduceLE, Int.reduceNeg, not_true_eq_false, not_false_eq_true, or_true, true_or, or_false, false_or, and_true, true_and, and_false, false_and, z01_or]
  rfl
theorem lp122 (x : Int) (h0 : 0 ≤ x) (h1 : x < 1024) : ∀ (k : Nat) (t c : Int), 0 ≤ t → t + k = 10 → 0 ≤ c → c ≤ t → Ev ((122, 4, [zI x, zI c, zI t], []) :: (m, pc, ls, st) :: fs) s Q = Ev ((m, pc, ls, zI (c + sumF (fun k => zand (zshr x k) 1) t k) :: st) :: fs) s Q := by
  intro k
  induction k with
  | zero =>
    intro t c t0 t1 c0 c1
    have e1 : ((10 : Int) ≤ t) = True := eq_true (by omega)
    rw [r122_4]
    simp only [r122_0, r122_1, r122_2, r122_3, r122_5, r122_7, r122_10, r122_11, r122_12, r122_13, r122_14, r122_15, r122_16, r122_17, r122_18, r122_21, r122_24, r122_25, e1, sumF, Int.add_zero, zclr_I, zclr_R, zclr_L, zclr_U, reduceIte, Int.reduceEq, Int.reduceLT, Int.reduceLE, Int.reduceNeg, not_true_eq_false, not_false_eq_true, or_true, true_or, or_false, false_or, and_true, true_and, and_false, false_and, z01_or]
  | succ k ih =>
    intro t c t0 t1 c0 c1
    have e1 : ((10 : Int) ≤ t) = False := eq_false (by omega)
    have w1 : w32 (t + 1) = t + 1 := w32_id (by omega) (by omega)
    have hz := has_z h0 h1 t0 (show t < 10 by omega)
    have hz2 : 0 ≤ zand (zshr x t) 1 ∧ zand (zshr x t) 1 ≤ 1 := by
      rw [hz]
      by_cases hh : x.toNat.testBit t.toNat = true
      · rw [if_pos hh]; omega
      · rw [if_neg hh]; omega
    have w2 : w32 (c + zand (zshr x t) 1) = c + zand (zshr x t) 1 := w32_id (by omega) (by omega)
    rw [r122_4]
    simp only [r122_0, r122_1, r122_2, r122_3, r122_5, r122_7, r122_10, r122_11, r122_12, r122_13, r122_14, r122_15, r122_16, r122_17, r122_18, r122_21, r122_24, r122_25, e1, w1, w2, zclr_I, zclr_R, zclr_L, zclr_U, reduceIte, Int.reduceEq, Int.reduceLT, Int.reduceLE, Int.reduceNeg, not_true_eq_false, not_false_eq_true, or_true, true_or, or_false, false_or, and_true, true_and, and_false, false_and, z01_or]
    rw [ih (t + 1) _ (by omega) (by omega) (by omega) (by omega)]
    have : c + sumF (fun k => zand (zshr x k) 1) t (k + 1) = c + zand (zshr x t) 1 + sumF (fun k => zand (zshr x k) 1) (t + 1) k := by
      show c + (zand (zshr x t) 1 + _) = _
      omega
    rw [this]
theorem k_ones (x : Int) (v1 v2 : zV) (h0 : 0 ≤ x) (h1 : x < 1024) : Ev ((122, 0, [zI x, v1, v2], []) :: (m, pc, ls, st) :: fs) s Q = Ev ((m, pc, ls, zI (popc x) :: st) :: fs) s Q := by
  simp only [r122_0, r122_1, r122_2, r122_3, zclr_I, zclr_R, zclr_L, zclr_U, reduceIte, Int.reduceEq, Int.reduceLT, Int.reduceLE, Int.reduceNeg, not_true_eq_false, not_false_eq_true, or_true, true_or, or_false, false_or, and_true, true_and, and_false, false_and, z01_or]
  rw [lp122 x h0 h1 10 0 0 (by omega) (by omega) (by omega) (by omega), Int.zero_add]
  rfl
end

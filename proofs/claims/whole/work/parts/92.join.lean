/-! the class's classing is the reference's -/
theorem zlshr_e {w : Int} (h0 : -9223372036854775808 ≤ w) (h1 : w < 9223372036854775808) (k : Int) (n : Nat) (hk : (((Int32.ofInt k).toInt64 &&& 63).toBitVec.smod 64).toNat = n) : zlshr w k = w / ((2 ^ n : Nat) : Int) := by
  unfold zlshr
  rw [← Int64.toInt_toBitVec, Int64.toBitVec_shiftRight, BitVec.toInt_sshiftRight', hk, Int64.toInt_toBitVec, zn_tl h0 h1, Int.shiftRight_eq_div_pow]
theorem zand_lo (x : Int) : zand (w32 x) 1023 = x % 1024 := by
  unfold zand
  have e : (Int32.ofInt (w32 x) &&& Int32.ofInt 1023).toBitVec.toNat = (w32 x % 4294967296).toNat &&& 1023 := by
    rw [Int32.toBitVec_and, BitVec.toNat_and, Int32.toBitVec_ofInt, Int32.toBitVec_ofInt, BitVec.toNat_ofInt]
    rfl
  have e2 : (w32 x % 4294967296).toNat &&& 1023 = (w32 x % 4294967296).toNat % 1024 := Nat.and_two_pow_sub_one_eq_mod _ 10
  rw [e2] at e
  rw [← Int32.toInt_toBitVec, bv_i (by rw [e]; omega), e]
  unfold w32
  omega
theorem dg_e {w : Int} (h0 : 0 ≤ w) (h1 : w < 9223372036854775808) : dg w 0 = w / 1099511627776 % 1024 ∧ dg w 1 = w / 1073741824 % 1024 ∧ dg w 2 = w / 1048576 % 1024 ∧ dg w 3 = w / 1024 % 1024 ∧ dg w 4 = w % 1024 := by
  have a0 := zlshr_e (by omega) h1 40 40 (by decide)
  have a1 := zlshr_e (by omega) h1 30 30 (by decide)
  have a2 := zlshr_e (by omega) h1 20 20 (by decide)
  have a3 := zlshr_e (by omega) h1 10 10 (by decide)
  have a4 := zlshr_e (by omega) h1 0 0 (by decide)
  unfold dg
  rw [zand_lo, zand_lo, zand_lo, zand_lo, zand_lo, show (40 : Int) - 10 * 0 = 40 from rfl, show (40 : Int) - 10 * 1 = 30 from rfl, show (40 : Int) - 10 * 2 = 20 from rfl, show (40 : Int) - 10 * 3 = 10 from rfl, show (40 : Int) - 10 * 4 = 0 from rfl, a0, a1, a2, a3, a4]
  refine ⟨rfl, rfl, rfl, rfl, ?_⟩
  show w / 1 % 1024 = w % 1024
  omega
theorem CA_lin {c c1 c2 : Int → Int → Int} {a b : Int} (hi : Int) (A : Int → Int) : ∀ (k : Nat) (lo : Int), lo + k = hi → (∀ u : Int, lo ≤ u → u < hi → ¬ A u = 0 → c u (A u) = a * c1 u (A u) + b * c2 u (A u)) → CA c lo hi A = a * CA c1 lo hi A + b * CA c2 lo hi A := by
  intro k
  induction k with
  | zero => intro lo h _; rw [CA_0 (by omega), CA_0 (by omega), CA_0 (by omega), Int.mul_zero, Int.mul_zero]; rfl
  | succ k ih =>
    intro lo h hc
    rw [CA_front (c := c) (by omega), CA_front (c := c1) (by omega), CA_front (c := c2) (by omega), ih (lo + 1) (by omega) (fun u u0 u1 => hc u (by omega) u1), Int.mul_add, Int.mul_add]
    by_cases e : A lo = 0
    · rw [if_pos e, if_pos e, if_pos e, Int.mul_zero, Int.mul_zero]; omega
    · rw [if_neg e, if_neg e, if_neg e, hc lo (by omega) (by omega) e]; omega
theorem CA_le {c c1 : Int → Int → Int} (hi : Int) (A : Int → Int) : ∀ (k : Nat) (lo : Int), lo + k = hi → (∀ u : Int, lo ≤ u → u < hi → ¬ A u = 0 → c u (A u) ≤ c1 u (A u)) → CA c lo hi A ≤ CA c1 lo hi A := by
  intro k
  induction k with
  | zero => intro lo h _; rw [CA_0 (by omega), CA_0 (by omega)]; exact Int.le_refl _
  | succ k ih =>
    intro lo h hc
    have a := ih (lo + 1) (by omega) (fun u u0 u1 => hc u (by omega) u1)
    rw [CA_front (c := c) (by omega), CA_front (c := c1) (by omega)]
    by_cases e : A lo = 0
    · rw [if_pos e, if_pos e]; omega
    · rw [if_neg e, if_neg e]; have := hc lo (by omega) (by omega) e; omega
theorem CA_1 (hi : Int) (A : Int → Int) : ∀ (k : Nat) (lo : Int), lo + k = hi → CA (fun _ _ => 1) lo hi A ≤ k := by
  intro k
  induction k with
  | zero => intro lo h; rw [CA_0 (by omega)]; omega
  | succ k ih =>
    intro lo h
    have a := ih (lo + 1) (by omega)
    rw [CA_front (by omega)]
    by_cases e : A lo = 0
    · rw [if_pos e]; omega
    · rw [if_neg e]; omega
theorem sumF_add (f g : Int → Int) : ∀ (k : Nat) (t : Int), sumF (fun i => f i + g i) t k = sumF f t k + sumF g t k := by
  intro k
  induction k with
  | zero => intro t; rfl
  | succ k ih =>
    intro t
    show f t + g t + sumF (fun i => f i + g i) (t + 1) k = f t + sumF f (t + 1) k + (g t + sumF g (t + 1) k)
    rw [ih]; omega
theorem sumF_le {f g : Int → Int} : ∀ (k : Nat) (t : Int), (∀ i, t ≤ i → i < t + k → f i ≤ g i) → sumF f t k ≤ sumF g t k := by
  intro k
  induction k with
  | zero => intro t _; exact Int.le_refl _
  | succ k ih =>
    intro t h
    have a := ih (t + 1) (fun i i0 i1 => h i (by omega) (by omega))
    have b := h t (by omega) (by omega)
    show f t + sumF f (t + 1) k ≤ g t + sumF g (t + 1) k
    omega
theorem popc_and {x y : Int} (x0 : 0 ≤ x) (x1 : x < 1024) (y0 : 0 ≤ y) (y1 : y < 1024) : popc (zand x y) ≤ popc x := by
  obtain ⟨b0, b1, b2⟩ := zand_bi x0 x1 y0 y1
  rw [popc_hb b0 b1, popc_hb x0 x1]
  refine sumF_le _ _ (fun i i0 i1 => ?_)
  unfold hb
  by_cases c : tb (zand x y) i = true
  · rw [if_pos c, if_pos (show tb x i = true from ((b2 i i0).mp c).1)]; omega
  · rw [if_neg c]
    by_cases d : tb x i = true
    · rw [if_pos d]; omega
    · rw [if_neg d]; omega
theorem CA_pop {ok : Int → Int → Prop} (hok : ∀ t x : Int, ok t x → 0 < x ∧ x < 1024) (hi : Int) (A : Int → Int) : ∀ (k : Nat) (lo E : Int), lo + k = hi → 0 ≤ E → E < 1024 → VA ok lo hi E A → CA (fun _ x => popc x) lo hi A = popc E := by
  intro k
  induction k with
  | zero =>
    intro lo E h E0 E1 hv
    rw [CA_0 (by omega), (VA_e (by omega) E0).mp hv]
    rfl
  | succ k ih =>
    intro lo E h E0 E1 hv
    have a0 : 0 ≤ A lo := by
      rcases hv.1 lo (by omega) (by omega) with z | z
      · omega
      · have := hok lo _ z; omega
    have as : SubB (A lo) E := fun q q0 hq => (hv.2.2 q q0).mpr ⟨lo, by omega, by omega, hq⟩
    have al := SubB_le a0 E0 as
    obtain ⟨d0, d1, d2, d3, d4⟩ := dif_bi E0 E1 a0 as
    obtain ⟨f1, -⟩ := VA_front hv (by omega) d3
    rw [CA_front (by omega), ih (lo + 1) _ (by omega) d0 d1 f1]
    have e : popc E = popc (A lo) + popc (zand E (zxor (A lo) (-1))) := by
      rw [popc_hb E0 E1, popc_hb a0 (by omega), popc_hb d0 d1, ← sumF_add]
      refine sumF_c _ _ (fun i i0 i1 => ?_)
      unfold hb
      by_cases c : tb (A lo) i = true
      · rw [if_pos c, if_pos (show tb E i = true from as i i0 c), if_neg (show ¬ tb (zand E (zxor (A lo) (-1))) i = true from fun z => ((d3 i i0).mp z).2 c)]; omega
      · rw [if_neg c]
        by_cases d : tb E i = true
        · rw [if_pos d, if_pos (show tb (zand E (zxor (A lo) (-1))) i = true from (d3 i i0).mpr ⟨d, c⟩)]; omega
        · rw [if_neg d, if_neg (show ¬ tb (zand E (zxor (A lo) (-1))) i = true from fun z => d ((d3 i i0).mp z).1)]; omega
    rw [e]
    by_cases c : A lo = 0
    · rw [if_pos c, c]; rfl
    · rw [if_neg c]
theorem tie5 {T : Int} (T0 : 0 ≤ T) (T1 : T ≤ 5) (A : Int → Int) : CA (fun t x => x * tw t) 0 T A = (if 0 < T then A 0 else 0) * 1099511627776 + (if 1 < T then A 1 else 0) * 1073741824 + (if 2 < T then A 2 else 0) * 1048576 + (if 3 < T then A 3 else 0) * 1024 + (if 4 < T then A 4 else 0) := by
  have e : CA (fun t x => x * tw t) 0 T A = sumF (fun u => A u * tw u) 0 T.toNat := by
    unfold CA
    rw [show (T - 0).toNat = T.toNat by omega]
    refine sumF_c _ _ (fun u u0 u1 => ?_)
    by_cases c : A u = 0
    · rw [if_pos c, c, Int.zero_mul]
    · rw [if_neg c]
  rw [e]
  have t0 : tw 0 = 1099511627776 := rfl
  have t1 : tw 1 = 1073741824 := rfl
  have t2 : tw 2 = 1048576 := rfl
  have t3 : tw 3 = 1024 := rfl
  have t4 : tw 4 = 1 := rfl
  rcases (show T = 0 ∨ T = 1 ∨ T = 2 ∨ T = 3 ∨ T = 4 ∨ T = 5 by omega) with rfl | rfl | rfl | rfl | rfl | rfl
  · show (0 : Int) = _; simp
  · show A 0 * tw 0 + 0 = _; rw [t0]; simp
  · show A 0 * tw 0 + (A 1 * tw 1 + 0) = _; rw [t0, t1]; simp
  · show A 0 * tw 0 + (A 1 * tw 1 + (A 2 * tw 2 + 0)) = _; rw [t0, t1, t2]; simp; omega
  · show A 0 * tw 0 + (A 1 * tw 1 + (A 2 * tw 2 + (A 3 * tw 3 + 0))) = _; rw [t0, t1, t2, t3]; simp; omega
  · show A 0 * tw 0 + (A 1 * tw 1 + (A 2 * tw 2 + (A 3 * tw 3 + (A 4 * tw 4 + 0)))) = _; rw [t0, t1, t2, t3, t4]; simp; omega

/-! THE CHOICE: mathematics -/
theorem ins_b : ∀ x : Fin 1024, ∀ n : Fin 10, x.val.testBit n.val = false → zor (x.val : Nat) (zshl 1 (n.val : Nat)) = (x.val : Nat) + zshl 1 (n.val : Nat) := by decide +kernel
theorem ins_v {x n : Int} (h0 : 0 ≤ x) (h1 : x < 1024) (n0 : 0 ≤ n) (n1 : n < 10) (hb : ¬ bi x n) : zor x (zshl 1 n) = x + zshl 1 n := by
  have h := ins_b ⟨x.toNat, by omega⟩ ⟨n.toNat, by omega⟩
  simp only [Int.toNat_of_nonneg h0, Int.toNat_of_nonneg n0] at h
  exact h (Bool.eq_false_iff.mpr hb)
theorem sumF_d {f g : Int → Int} {i d : Int} (h1 : g i = f i + d) (h2 : ∀ j : Int, ¬ j = i → g j = f j) : ∀ (k : Nat) (t : Int), sumF g t k = sumF f t k + (if t ≤ i ∧ i < t + k then d else 0) := by
  intro k
  induction k with
  | zero => intro t; rw [if_neg (by omega)]; rfl
  | succ k ih =>
    intro t
    show g t + sumF g (t + 1) k = f t + sumF f (t + 1) k + _
    rw [ih (t + 1)]
    by_cases e : t = i
    · subst e
      rw [h1, if_neg (by omega), if_pos (by omega)]; omega
    · rw [h2 t e]
      by_cases c : t + 1 ≤ i ∧ i < t + 1 + k
      · rw [if_pos c, if_pos (by omega)]; omega
      · rw [if_neg c, if_neg (by omega)]; omega
theorem sumF_n {f : Int → Int} {M : Int} (hM : 0 ≤ M) : ∀ (k : Nat) (t : Int), (∀ i, t ≤ i → i < t + k → 0 ≤ f i ∧ f i ≤ M) → 0 ≤ sumF f t k ∧ sumF f t k ≤ M * k := by
  intro k
  induction k with
  | zero => intro t _; exact ⟨Int.le_refl 0, by show (0 : Int) ≤ M * 0; omega⟩
  | succ k ih =>
    intro t h
    have a := ih (t + 1) (fun i i0 i1 => h i (by omega) (by omega))
    have b := h t (by omega) (by omega)
    have e : sumF f t (k + 1) = f t + sumF f (t + 1) k := rfl
    have e2 : M * ((k + 1 : Nat) : Int) = M * k + M := by rw [Int.natCast_add, Int.mul_add]; omega
    rw [e, e2]
    omega
section
variable (n : Int) (ok : Int → Prop) (f g p : Int → Int)
def payS (x : Int) : Int := sumF (fun j => if tb x j = true then p j else 0) 0 n.toNat
def Val (x : Int) : Prop := 0 ≤ x ∧ x < 1024 ∧ (∀ i : Int, 0 ≤ i → bi x i → i < n ∧ ok i) ∧ ∀ i j : Int, 0 ≤ i → 0 ≤ j → bi x i → bi x j → ¬ i = j → g i < f j ∨ g j < f i
def Beg (h x : Int) : Prop := ∀ i : Int, 0 ≤ i → bi x i → h ≤ f i
def VV (x : Int) : Int := 1024 * payS n p x - x
def Bst (h b : Int) : Prop := (∀ x : Int, Val n ok f g x → Beg f h x → VV n p x ≤ b) ∧ ∃ x : Int, Val n ok f g x ∧ Beg f h x ∧ VV n p x = b
end
section
variable {n : Int} {ok : Int → Prop} {f g p : Int → Int}
theorem pay_ins (hn : 0 ≤ n) (hn1 : n ≤ 10) {x i : Int} (x0 : 0 ≤ x) (x1 : x < 1024) (i0 : 0 ≤ i) (i1 : i < n) (hi : ¬ bi x i) : VV n p (zor x (zshl 1 i)) = VV n p x + (1024 * p i - zshl 1 i) := by
  obtain ⟨b0, b1, b2⟩ := set_bi x0 x1 i0 (show i < 10 by omega)
  have e : payS n p (zor x (zshl 1 i)) = payS n p x + p i := by
    have := sumF_d (f := fun j => if tb x j = true then p j else 0) (g := fun j => if 0 ≤ j then (if tb (zor x (zshl 1 i)) j = true then p j else 0) else (if tb x j = true then p j else 0)) (i := i) (d := p i) (by
      show (if 0 ≤ i then _ else _) = _
      rw [if_pos i0, if_pos (show tb (zor x (zshl 1 i)) i = true from (b2 i i0).mpr (Or.inr rfl)), if_neg (show ¬ tb x i = true from hi)]; omega) (fun j hj => by
      show (if 0 ≤ j then _ else _) = _
      by_cases j0 : 0 ≤ j
      · rw [if_pos j0]
        by_cases c : tb x j = true
        · rw [if_pos c, if_pos (show tb (zor x (zshl 1 i)) j = true from (b2 j j0).mpr (Or.inl c))]
        · rw [if_neg c, if_neg (show ¬ tb (zor x (zshl 1 i)) j = true from fun z => ((b2 j j0).mp z).elim c hj)]
      · rw [if_neg j0]) n.toNat 0
    rw [if_pos (by omega)] at this
    unfold payS
    rw [← this]
    refine sumF_c _ _ (fun j j0 j1 => ?_)
    rw [if_pos j0]
  unfold VV
  rw [e, ins_v x0 x1 i0 (by omega) hi]
  omega
theorem Val_0 : Val n ok f g 0 := ⟨by omega, by omega, fun i _ h => absurd h (bi_0 i), fun i j _ _ h => absurd h (bi_0 i)⟩
theorem VV_0 : VV n p 0 = 0 := by
  have : payS n p 0 = sumF (fun _ => 0) 0 n.toNat := sumF_c _ _ (fun j _ _ => if_neg (fun z => bi_0 j z))
  unfold VV
  rw [this]
  have z : ∀ (k : Nat) (t : Int), sumF (fun _ => 0) t k = 0 := by
    intro k
    induction k with
    | zero => intro t; rfl
    | succ k ih => intro t; show 0 + sumF (fun _ => 0) (t + 1) k = 0; rw [ih]; rfl
  rw [z]; rfl
theorem VV_b (hn : 0 ≤ n) (hn1 : n ≤ 10) (hp : ∀ i : Int, 0 ≤ i → i < n → 0 ≤ p i ∧ p i ≤ 1000) {x : Int} (x0 : 0 ≤ x) : 0 ≤ payS n p x ∧ payS n p x ≤ 10000 ∧ VV n p x ≤ 10240000 := by
  have := sumF_n (f := fun j => if tb x j = true then p j else 0) (M := 1000) (by omega) n.toNat 0 (fun i i0 i1 => by
    have := hp i i0 (by omega)
    show 0 ≤ (if tb x i = true then p i else 0) ∧ (if tb x i = true then p i else 0) ≤ 1000
    by_cases c : tb x i = true
    · rw [if_pos c]; exact this
    · rw [if_neg c]; omega)
  have e : payS n p x = sumF (fun j => if tb x j = true then p j else 0) 0 n.toNat := rfl
  rw [← e] at this
  unfold VV
  omega
theorem Bst_b (hn : 0 ≤ n) (hn1 : n ≤ 10) (hp : ∀ i : Int, 0 ≤ i → i < n → 0 ≤ p i ∧ p i ≤ 1000) {h b : Int} (hb : Bst n ok f g p h b) : 0 ≤ b ∧ b ≤ 10240000 := by
  obtain ⟨h1, x, h2, h3, h4⟩ := hb
  have a := h1 0 Val_0 (fun i _ z => absurd z (bi_0 i))
  rw [VV_0] at a
  have := (VV_b hn hn1 hp h2.1).2.2
  omega
theorem Bst_8 (hr : ∀ i : Int, 0 ≤ i → i < n → f i ≤ g i ∧ g i ≤ 7) : Bst n ok f g p 8 0 := by
  refine ⟨fun x hx hb => ?_, 0, Val_0, fun i _ z => absurd z (bi_0 i), VV_0⟩
  have : x = 0 := (zero_bi hx.1).mpr (fun q q0 hq => by
    have a := hx.2.2.1 q q0 hq
    have b := hb q q0 hq
    have := hr q q0 a.1
    omega)
  rw [this, VV_0]; omega
/-- while the asks that begin at h are looked at, up to ask i -/
def Cin (n : Int) (ok : Int → Prop) (f g p : Int → Int) (B : Int → Int) (h i c : Int) : Prop := (∀ x : Int, Val n ok f g x → Beg f (h + 1) x → VV n p x ≤ c) ∧ (∀ j : Int, 0 ≤ j → j < i → ok j → f j = h → 1024 * p j - zshl 1 j + B (g j + 1) ≤ c) ∧ ∃ x : Int, Val n ok f g x ∧ Beg f h x ∧ VV n p x = c
theorem Cin_0 {B : Int → Int} {h : Int} (hB : Bst n ok f g p (h + 1) (B (h + 1))) : Cin n ok f g p B h 0 (B (h + 1)) := by
  obtain ⟨h1, x, h2, h3, h4⟩ := hB
  exact ⟨h1, fun j j0 j1 => by omega, x, h2, fun i i0 hi => by have := h3 i i0 hi; omega, h4⟩
theorem Cin_no {B : Int → Int} {h i c : Int} (hC : Cin n ok f g p B h i c) (hno : ¬ (ok i ∧ f i = h)) : Cin n ok f g p B h (i + 1) c := by
  obtain ⟨h1, h2, h3⟩ := hC
  refine ⟨h1, fun j j0 j1 jk jf => ?_, h3⟩
  by_cases e : j = i
  · subst e; exact absurd ⟨jk, jf⟩ hno
  · exact h2 j j0 (by omega) jk jf
theorem Cin_yes {B : Int → Int} {h i c : Int} (hn : 0 ≤ n) (hn1 : n ≤ 10) (hr : ∀ i : Int, 0 ≤ i → i < n → f i ≤ g i ∧ g i ≤ 7) (hC : Cin n ok f g p B h i c) (i0 : 0 ≤ i) (i1 : i < n) (hk : ok i) (hf : f i = h) (hB : Bst n ok f g p (g i + 1) (B (g i + 1))) : Cin n ok f g p B h (i + 1) (nlo c (1024 * p i - zshl 1 i + B (g i + 1))) := by
  obtain ⟨h1, h2, h3⟩ := hC
  have l := nl_b (x := c) (y := 1024 * p i - zshl 1 i + B (g i + 1))
  refine ⟨fun x hx hb => by have := h1 x hx hb; omega, fun j j0 j1 jk jf => ?_, ?_⟩
  · by_cases e : j = i
    · subst e; omega
    · have := h2 j j0 (by omega) jk jf; omega
  · rcases l.2.2 with e | e
    · rw [e]; exact h3
    · rw [e]
      obtain ⟨-, x, x2, x3, x4⟩ := hB
      have ri := hr i i0 i1
      have hi : ¬ bi x i := fun z => by have := x3 i i0 z; omega
      obtain ⟨b0, b1, b2⟩ := set_bi x2.1 x2.2.1 i0 (show i < 10 by omega)
      refine ⟨zor x (zshl 1 i), ⟨b0, b1, fun j j0 hj => ?_, fun j k j0 k0 hj hk2 hne => ?_⟩, fun j j0 hj => ?_, ?_⟩
      · rcases (b2 j j0).mp hj with z | z
        · exact x2.2.2.1 j j0 z
        · rw [z]; exact ⟨i1, hk⟩
      · rcases (b2 j j0).mp hj with z | z
        · rcases (b2 k k0).mp hk2 with y | y
          · exact x2.2.2.2 j k j0 k0 z y hne
          · right; rw [y]; have := x3 j j0 z; omega
        · rcases (b2 k k0).mp hk2 with y | y
          · left; rw [z]; have := x3 k k0 y; omega
          · exact absurd (z.trans y.symm) hne
      · rcases (b2 j j0).mp hj with z | z
        · have := x3 j j0 z; omega
        · rw [z]; omega
      · rw [pay_ins hn hn1 x2.1 x2.2.1 i0 i1 hi, x4]; omega
theorem Cin_end {B : Int → Int} {h c : Int} (hn : 0 ≤ n) (hn1 : n ≤ 10) (hr : ∀ i : Int, 0 ≤ i → i < n → f i ≤ g i ∧ g i ≤ 7) (hB : ∀ k : Int, h < k → k ≤ 8 → Bst n ok f g p k (B k)) (hC : Cin n ok f g p B h n c) : Bst n ok f g p h c := by
  obtain ⟨h1, h2, h3⟩ := hC
  refine ⟨fun x hx hb => ?_, h3⟩
  by_cases he : ∃ i : Int, 0 ≤ i ∧ bi x i ∧ f i = h
  · obtain ⟨i, i0, i2, i3⟩ := he
    obtain ⟨i1, hk⟩ := hx.2.2.1 i i0 i2
    have ri := hr i i0 i1
    obtain ⟨b0, b1, b2⟩ := clr_bi hx.1 hx.2.1 i0 (show i < 10 by omega)
    have hi : ¬ bi (zand x (zxor (zshl 1 i) (-1))) i := fun z => ((b2 i i0).mp z).2 rfl
    obtain ⟨c0, c1, c2⟩ := set_bi b0 b1 i0 (show i < 10 by omega)
    have ex : zor (zand x (zxor (zshl 1 i) (-1))) (zshl 1 i) = x := by
      refine bi_ext c0 hx.1 (fun q q0 => ?_)
      rw [c2 q q0, b2 q q0]
      by_cases e : q = i
      · subst e; exact ⟨fun _ => i2, fun _ => Or.inr rfl⟩
      · exact ⟨fun z => z.elim (fun y => y.1) (fun y => absurd y e), fun z => Or.inl ⟨z, e⟩⟩
    have v := pay_ins (p := p) hn hn1 b0 b1 i0 i1 hi
    rw [ex] at v
    have v2 := (hB (g i + 1) (by omega) (by omega)).1 (zand x (zxor (zshl 1 i) (-1))) ⟨b0, b1, fun j j0 hj => hx.2.2.1 j j0 ((b2 j j0).mp hj).1, fun j k j0 k0 hj hk2 hne => hx.2.2.2 j k j0 k0 ((b2 j j0).mp hj).1 ((b2 k k0).mp hk2).1 hne⟩ (fun j j0 hj => by
      have hj2 := (b2 j j0).mp hj
      have a := hx.2.2.2 i j i0 j0 i2 hj2.1 (fun e => hj2.2 e.symm)
      have b := hb j j0 hj2.1
      have c := hr j j0 (hx.2.2.1 j j0 hj2.1).1
      omega)
    have := h2 i i0 i1 hk i3
    omega
  · refine h1 x hx (fun i i0 hi => ?_)
    have := hb i i0 hi
    have : ¬ f i = h := fun z => he ⟨i, i0, hi, z⟩
    omega
/-- the reference's choice is the class's -/
theorem Bst_ch (hn : 0 ≤ n) (hn1 : n ≤ 10) (hp : ∀ i : Int, 0 ≤ i → i < n → 0 ≤ p i ∧ p i ≤ 1000) {b y : Int} (hb : Bst n ok f g p 0 b) (hf : ∀ i : Int, 0 ≤ i → i < n → 0 ≤ f i) (y1 : Val n ok f g y) (y2 : ∀ x : Int, Val n ok f g x → payS n p x ≤ payS n p y) (y3 : ∀ x : Int, Val n ok f g x → x < y → payS n p x < payS n p y) : b = 1024 * payS n p y - y := by
  have B0 : ∀ x : Int, Val n ok f g x → Beg f 0 x := fun x hx i i0 hi => hf i i0 (hx.2.2.1 i i0 hi).1
  obtain ⟨h1, x, h2, h3, h4⟩ := hb
  have a := h1 y y1 (B0 y y1)
  have c : VV n p x ≤ VV n p y := by
    have d1 := y2 x h2
    have d2 := y3 x h2
    have x0 := h2.1
    have y0 := y1.1
    have y4 := y1.2.1
    unfold VV
    by_cases e : x < y
    · have := d2 e; omega
    · omega
  have e : VV n p y = 1024 * payS n p y - y := rfl
  omega
end

def z01 (p : Prop) [Decidable p] : Int := if p then 1 else 0
theorem z01_or (p : Prop) [Decidable p] : z01 p = 0 ∨ z01 p = 1 := by unfold z01; by_cases h : p <;> simp [h]
section LEAF
variable {m pc : Nat} {ls st : List zV} {fs : List zFr} {s : zS} {Q : List zV → zS → Prop}
theorem k_isBelow (a b : Int) : Ev ((111, 0, [zI a, zI b], []) :: (m, pc, ls, st) :: fs) s Q = Ev ((m, pc, ls, zI (z01 (0 ≤ a ∧ a < b)) :: st) :: fs) s Q := by
  simp only [r111_0, r111_1, r111_4, r111_5, r111_6, r111_9, r111_10, r111_13, r111_14]
  unfold z01
  by_cases h1 : a < 0
  · rw [if_pos h1, if_neg (by omega)]; simp
  · by_cases h2 : b ≤ a
    · rw [if_neg h1, if_pos h2, if_neg (by omega)]; simp
    · rw [if_neg h1, if_neg h2, if_pos (by omega)]; simp
theorem k_hasPupil (a : Int) : Ev ((42, 0, [zR 6 0, zI a], []) :: (m, pc, ls, st) :: fs) s Q = Ev ((m, pc, ls, zI (z01 (0 ≤ a ∧ a < s 6 0 1)) :: st) :: fs) s Q := by
  simp only [r42_0, r42_1, r42_2, r42_5, r42_8, k_isBelow, z01_or, true_and]
theorem k_in (v a b : Int) : Ev ((117, 0, [zI v, zI a, zI b], []) :: (m, pc, ls, st) :: fs) s Q = Ev ((m, pc, ls, zI (z01 (a ≤ v ∧ v ≤ b)) :: st) :: fs) s Q := by
  simp only [r117_0, r117_1, r117_2, r117_5, r117_6, r117_7, r117_10, r117_11, r117_14, r117_15]
  unfold z01
  by_cases h1 : v < a
  · rw [if_pos h1, if_neg (by omega)]; simp
  · by_cases h2 : b < v
    · rw [if_neg h1, if_pos h2, if_neg (by omega)]; simp
    · rw [if_neg h1, if_neg h2, if_pos (by omega)]; simp
theorem k_finding (c : Int) : Ev ((109, 0, [zR 10 0, zI c], []) :: (m, pc, ls, st) :: fs) s Q = Ev ((m, pc, ls, zI c :: st) :: fs) (zup s 10 0 5 (w32 (s 10 0 5 + 1))) Q := by
  simp only [r109_0, r109_1, r109_2, r109_5, r109_6, r109_7, r109_10, r109_11]
theorem k_finds (c : Int) : Ev ((118, 0, [zR 11 0, zI c], []) :: (m, pc, ls, st) :: fs) s Q = Ev ((m, pc, ls, zI c :: st) :: fs) (zup s 11 0 5 (w32 (s 11 0 5 + 1))) Q := by
  simp only [r118_0, r118_1, r118_2, r118_5, r118_6, r118_7, r118_10, r118_11]
end LEAF

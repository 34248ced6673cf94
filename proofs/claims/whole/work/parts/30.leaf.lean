def z01 (p : Prop) [Decidable p] : Int := if p then 1 else 0
theorem z01_or (p : Prop) [Decidable p] : (z01 p = 0 ∨ z01 p = 1) = True := by apply eq_true; unfold z01; by_cases h : p <;> simp [h]
section LEAF
variable {m pc : Nat} {ls st : List zV} {fs : List zFr} {s : zS} {Q : List zV → zS → Prop}
theorem k_isBelow (a b : Int) : Ev ((111, 0, [zI a, zI b], []) :: (m, pc, ls, st) :: fs) s Q = Ev ((m, pc, ls, zI (z01 (0 ≤ a ∧ a < b)) :: st) :: fs) s Q := by
  simp only [r111_0, r111_1, r111_4, r111_5, r111_6, r111_9, r111_10, r111_13, r111_14]
  unfold z01
  by_cases h1 : a < 0
  · rw [if_pos h1, if_neg (by omega)]; simp
  · by_cases h2 : b ≤ a
    · rw [if_neg h1, if_pos h2, if_neg (by omega)]; simp
    · rw [if_neg h1, if_neg h2, if_pos (by omega)]; simp
theorem k_hasPupil (a : Int) : Ev ((42, 0, [zR 6 0, zI a], []) :: (m, pc, ls, st) :: fs) s Q = Ev ((m, pc, ls, zI (z01 (0 ≤ a ∧ a < s 6 0 1)) :: st) :: fs) s Q := by
  simp only [r42_0, r42_1, r42_2, r42_5, r42_8, k_isBelow, z01_or, true_and]
theorem k_hasTeacher (a : Int) : Ev ((43, 0, [zR 6 0, zI a], []) :: (m, pc, ls, st) :: fs) s Q = Ev ((m, pc, ls, zI (z01 (0 ≤ a ∧ a < s 6 0 3)) :: st) :: fs) s Q := by
  simp only [r43_0, r43_1, r43_2, r43_5, r43_8, k_isBelow, z01_or, true_and]
theorem k_isTongues (a : Int) : Ev ((113, 0, [zI a], []) :: (m, pc, ls, st) :: fs) s Q = Ev ((m, pc, ls, zI (z01 (1 ≤ a ∧ a ≤ 15)) :: st) :: fs) s Q := by
  simp only [r113_0, r113_1, r113_4, r113_5, r113_7, r113_10, r113_11, r113_14, r113_15]
  unfold z01
  by_cases h1 : a ≤ 0
  · rw [if_pos h1, if_neg (by omega)]; simp
  · by_cases h2 : 16 ≤ a
    · rw [if_neg h1, if_pos h2, if_neg (by omega)]; simp
    · rw [if_neg h1, if_neg h2, if_pos (by omega)]; simp
theorem k_isWay (a b : Int) : Ev ((114, 0, [zI a, zI b], []) :: (m, pc, ls, st) :: fs) s Q = Ev ((m, pc, ls, zI (z01 ((0 ≤ a ∧ a < 6) ∧ (0 ≤ b ∧ b < 6) ∧ ¬ a = b)) :: st) :: fs) s Q := by
  simp only [r114_0, r114_1, r114_3, r114_6, r114_9, r114_10, r114_12, r114_15, r114_18, r114_19, r114_20, r114_23, r114_24, r114_27, r114_28, k_isBelow]
  unfold z01
  by_cases h1 : 0 ≤ a ∧ a < 6 <;> by_cases h2 : 0 ≤ b ∧ b < 6 <;> by_cases h3 : a = b <;> simp [h1, h2, h3]
theorem k_areHours (a b : Int) : Ev ((115, 0, [zI a, zI b], []) :: (m, pc, ls, st) :: fs) s Q = Ev ((m, pc, ls, zI (z01 (0 ≤ a ∧ a ≤ b ∧ b ≤ 7)) :: st) :: fs) s Q := by
  simp only [r115_0, r115_1, r115_4, r115_5, r115_6, r115_9, r115_10, r115_12, r115_15, r115_16, r115_19, r115_20]
  unfold z01
  by_cases h1 : a < 0
  · rw [if_pos h1, if_neg (by omega)]; simp
  · by_cases h2 : b < a
    · rw [if_neg h1, if_pos h2, if_neg (by omega)]; simp
    · by_cases h3 : 8 ≤ b
      · rw [if_neg h1, if_neg h2, if_pos h3, if_neg (by omega)]; simp
      · rw [if_neg h1, if_neg h2, if_neg h3, if_pos (by omega)]; simp
theorem k_finding (c : Int) : Ev ((109, 0, [zR 10 0, zI c], []) :: (m, pc, ls, st) :: fs) s Q = Ev ((m, pc, ls, zI c :: st) :: fs) (zup s 10 0 5 (w32 (s 10 0 5 + 1))) Q := by
  simp only [r109_0, r109_1, r109_2, r109_5, r109_6, r109_7, r109_10, r109_11]
theorem k_in (v a b : Int) : Ev ((117, 0, [zI v, zI a, zI b], []) :: (m, pc, ls, st) :: fs) s Q = Ev ((m, pc, ls, zI (z01 (a ≤ v ∧ v ≤ b)) :: st) :: fs) s Q := by
  simp only [r117_0, r117_1, r117_2, r117_5, r117_6, r117_7, r117_10, r117_11, r117_14, r117_15]
  unfold z01
  by_cases h1 : v < a
  · rw [if_pos h1, if_neg (by omega)]; simp
  · by_cases h2 : b < v
    · rw [if_neg h1, if_pos h2, if_neg (by omega)]; simp
    · rw [if_neg h1, if_neg h2, if_pos (by omega)]; simp
theorem k_finds (c : Int) : Ev ((118, 0, [zR 11 0, zI c], []) :: (m, pc, ls, st) :: fs) s Q = Ev ((m, pc, ls, zI c :: st) :: fs) (zup s 11 0 5 (w32 (s 11 0 5 + 1))) Q := by
  simp only [r118_0, r118_1, r118_2, r118_5, r118_6, r118_7, r118_10, r118_11]
theorem k_isPupil (a : Int) : Ev ((119, 0, [zR 11 0, zI a], []) :: (m, pc, ls, st) :: fs) s Q = Ev ((m, pc, ls, zI (z01 (0 ≤ a ∧ a ≤ w32 (s 11 0 0 - 1))) :: st) :: fs) s Q := by
  simp only [r119_0, r119_1, r119_2, r119_3, r119_6, r119_7, r119_8, r119_11, k_in, z01_or, true_and]
theorem k_isTeacher (a : Int) : Ev ((120, 0, [zR 11 0, zI a], []) :: (m, pc, ls, st) :: fs) s Q = Ev ((m, pc, ls, zI (z01 (0 ≤ a ∧ a ≤ w32 (s 11 0 1 - 1))) :: st) :: fs) s Q := by
  simp only [r120_0, r120_1, r120_2, r120_3, r120_6, r120_7, r120_8, r120_11, k_in, z01_or, true_and]
theorem k_isAsk (a : Int) : Ev ((171, 0, [zR 11 0, zI a], []) :: (m, pc, ls, st) :: fs) s Q = Ev ((m, pc, ls, zI (z01 (0 ≤ a ∧ a ≤ w32 (s 11 0 4 - 1))) :: st) :: fs) s Q := by
  simp only [r171_0, r171_1, r171_2, r171_3, r171_6, r171_7, r171_8, r171_11, k_in, z01_or, true_and]
theorem k_isPlace (a : Int) : Ev ((154, 0, [zI a], []) :: (m, pc, ls, st) :: fs) s Q = Ev ((m, pc, ls, zI (z01 (0 ≤ a ∧ a ≤ 5)) :: st) :: fs) s Q := by
  simp only [r154_0, r154_1, r154_2, r154_3, r154_6, k_in, z01_or, true_and]
theorem k_isHand (a : Int) : Ev ((163, 0, [zI a], []) :: (m, pc, ls, st) :: fs) s Q = Ev ((m, pc, ls, zI (z01 (0 ≤ a ∧ a ≤ 99)) :: st) :: fs) s Q := by
  simp only [r163_0, r163_1, r163_2, r163_4, r163_7, k_in, z01_or, true_and]
theorem k_isSheet (a : Int) : Ev ((181, 0, [zI a], []) :: (m, pc, ls, st) :: fs) s Q = Ev ((m, pc, ls, zI (z01 (0 ≤ a ∧ a ≤ 3)) :: st) :: fs) s Q := by
  simp only [r181_0, r181_1, r181_2, r181_3, r181_6, k_in, z01_or, true_and]
end LEAF

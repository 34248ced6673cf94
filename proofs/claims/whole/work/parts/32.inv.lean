/-! what holds between the class and the reference -/
def bi (x : Int) (p : Int) : Prop := x.toNat.testBit p.toNat = true
def I_s (L : Nat) (r110 r111 : Int → Int → Int) : Prop := r111 0 0 = (L : Int) ∧ ∀ j : Int, 0 ≤ j → j < (L : Int) → rI (r110 0 j)
def I_k (r108 r109 : Int → Int → Int) : Prop := (r108 0 0 = 1 ∧ r108 0 1 = 3 ∧ r108 0 2 = 5 ∧ r108 0 3 = 11) ∧ r109 0 0 = 1 ∧ r109 0 1 = 3 ∧ r109 0 2 = 5 ∧ r109 0 3 = 13
def I_e (a b lo hi : Int) : Prop := a = b ∧ lo ≤ b ∧ b ≤ hi
def I_h (a b c d : Int) : Prop := a = c ∧ b = d ∧ 0 ≤ c ∧ c ≤ d ∧ d ≤ 7
/-- pupils: class rows 5, 42; reference rows kind .. -/
def I_p (P T : Int) (r5 r42 r73 r74 r75 r76 r77 r78 r79 r80 r81 r82 r83 : Int → Int → Int) : Prop := ∀ p : Int, 0 ≤ p → p < P →
  (r5 p 0 = r73 0 p ∧ 0 ≤ r73 0 p ∧ r73 0 p ≤ 3) ∧ (r5 p 1 = r74 0 p ∧ 3 ≤ r74 0 p ∧ r74 0 p ≤ 90) ∧ (r5 p 2 = r75 0 p ∧ 1 ≤ r75 0 p ∧ r75 0 p ≤ 15) ∧
  (r5 p 3 = r76 0 p ∧ r5 p 4 = r77 0 p ∧ 0 ≤ r76 0 p ∧ r76 0 p ≤ r77 0 p ∧ r77 0 p ≤ 9) ∧ (r5 p 5 = r78 0 p ∧ -1 ≤ r78 0 p ∧ r78 0 p < P) ∧
  (-1 ≤ r79 0 p ∧ r79 0 p < T) ∧ (r5 p 8 = r80 0 p ∧ -1 ≤ r80 0 p ∧ r80 0 p ≤ 99) ∧ (r5 p 7 = r81 0 p ∧ 0 ≤ r81 0 p ∧ r81 0 p ≤ 3 ∧ ∀ j : Int, 0 ≤ j → j < r81 0 p → r42 p j = r82 0 (3 * p + j)) ∧ (r83 0 p = 0 ∨ r83 0 p = 1)
def I_n (P : Int) (r5 r81 : Int → Int → Int) : Prop := ∀ p : Int, P ≤ p → p < 10 → r5 p 3 = 0 ∧ r5 p 4 = 9 ∧ r5 p 5 = -1 ∧ r5 p 7 = 0 ∧ r5 p 8 = -1 ∧ r81 0 p = 0
/-- who is here -/
def I_b (P h : Int) (r83 : Int → Int → Int) : Prop := 0 ≤ h ∧ h < 1024 ∧ ∀ p : Int, 0 ≤ p → (bi h p ↔ p < P ∧ r83 0 p = 1)
def I_t (P T : Int) (r8 r75 r79 r84 r85 r86 r87 : Int → Int → Int) : Prop := ∀ t : Int, 0 ≤ t → t < T →
  (r8 t 0 = r84 0 t ∧ 0 ≤ r84 0 t ∧ r84 0 t ≤ 3) ∧ (r8 t 1 = r85 0 t ∧ 1 ≤ r85 0 t ∧ r85 0 t ≤ 15) ∧ (r8 t 2 = r87 0 t ∧ (r87 0 t = 0 ∨ r87 0 t = 1)) ∧ (r8 t 5 = r86 0 t ∧ 0 ≤ r86 0 t ∧ r86 0 t < 1024) ∧
  (0 ≤ r8 t 3 ∧ r8 t 3 < 1024 ∧ ∀ p : Int, 0 ≤ p → (bi (r8 t 3) p ↔ p < P ∧ ¬ zand (r85 0 t) (r75 0 p) = 0)) ∧
  (0 ≤ r8 t 4 ∧ r8 t 4 < 1024 ∧ ∀ p : Int, 0 ≤ p → (bi (r8 t 4) p ↔ p < P ∧ r79 0 p = t))
def I_u (T : Int) (r8 r86 r87 : Int → Int → Int) : Prop := ∀ t : Int, T ≤ t → t < 5 → r8 t 2 = 0 ∧ r8 t 3 = 0 ∧ r8 t 4 = 0 ∧ r8 t 5 = 0 ∧ r86 0 t = 0 ∧ r87 0 t = 0
def I_l (n : Int) (r9 r88 r89 r93 : Int → Int → Int) : Prop := (∀ i : Int, 0 ≤ i → i < n → (r9 i 0 = r88 0 i ∧ 0 ≤ r88 0 i ∧ r88 0 i ≤ 5) ∧ (r9 i 1 = r89 0 i ∧ 0 ≤ r89 0 i ∧ r89 0 i ≤ 5) ∧ r9 i 3 = r93 0 i ∧ (r93 0 i = 0 ∨ r93 0 i = 1)) ∧ (∀ i : Int, 0 ≤ i → i < 6 → r9 i 2 = 0) ∧ ∀ i : Int, n ≤ i → i < 6 → r9 i 3 = 0 ∧ r93 0 i = 0
def I_w (n : Int) (r12 r90 r91 r92 : Int → Int → Int) : Prop := (∀ i : Int, 0 ≤ i → i < n → (r12 i 0 = r90 0 i ∧ 0 ≤ r90 0 i ∧ r90 0 i ≤ 5) ∧ (r12 i 1 = r91 0 i ∧ 0 ≤ r91 0 i ∧ r91 0 i ≤ 5) ∧ r12 i 2 = r92 0 i ∧ 0 ≤ r92 0 i ∧ r92 0 i ≤ 9) ∧ ∀ i : Int, 0 ≤ i → i < 8 → r12 i 3 = 0
def I_a (n T : Int) (r0 r94 r95 r96 r97 r98 : Int → Int → Int) : Prop := (∀ i : Int, 0 ≤ i → i < n → (r0 i 0 = r94 0 i ∧ 0 ≤ r94 0 i ∧ r94 0 i < T) ∧ (r0 i 1 = r95 0 i ∧ r0 i 2 = r96 0 i ∧ 0 ≤ r95 0 i ∧ r95 0 i ≤ r96 0 i ∧ r96 0 i ≤ 7) ∧ (r0 i 3 = r97 0 i ∧ 0 ≤ r97 0 i ∧ r97 0 i ≤ 1000) ∧ r0 i 4 = r98 0 i ∧ (r98 0 i = 0 ∨ r98 0 i = 1)) ∧ ∀ i : Int, n ≤ i → i < 10 → r0 i 4 = 0 ∧ r98 0 i = 0
def I_y (r7 r54 r99 r100 r101 : Int → Int → Int) : Prop := ∀ i : Int, 0 ≤ i → i < 4 → (r7 i 0 = r99 0 i ∧ (r99 0 i = 0 ∨ r99 0 i = 8 ∨ r99 0 i = 16 ∨ r99 0 i = 32)) ∧ (r7 i 1 = r100 0 i ∧ 0 ≤ r100 0 i ∧ r100 0 i ≤ 10) ∧ ∀ j : Int, 0 ≤ j → j < 10 → r54 i j = r101 0 (10 * i + j) ∧ rI (r101 0 (10 * i + j))
def Inv (L : Nat) (s : zS) : Prop :=
  I_s L (s 110) (s 111) ∧ I_k (s 108) (s 109) ∧ I_e (s 10 0 5) (s 11 0 5) (-2147483648) 2147483647 ∧
  I_e (s 6 0 1) (s 11 0 0) 0 10 ∧ I_e (s 6 0 3) (s 11 0 1) 0 5 ∧ I_e (s 3 0 1) (s 11 0 2) 0 6 ∧ I_e (s 3 0 3) (s 11 0 3) 0 8 ∧ I_e (s 1 0 1) (s 11 0 4) 0 10 ∧
  (I_e (s 6 0 5) (s 11 0 6) 1 10 ∧ I_e (s 6 0 6) (s 11 0 7) 0 90 ∧ I_e (s 6 0 7) (s 11 0 8) 0 9 ∧ I_e (s 6 0 8) (s 11 0 9) 0 9) ∧
  I_e (s 3 0 4) (s 11 0 10) 0 5 ∧ I_h (s 1 0 2) (s 1 0 3) (s 11 0 11) (s 11 0 12) ∧
  I_p (s 11 0 0) (s 11 0 1) (s 5) (s 42) (s 73) (s 74) (s 75) (s 76) (s 77) (s 78) (s 79) (s 80) (s 81) (s 82) (s 83) ∧ I_n (s 11 0 0) (s 5) (s 81) ∧ I_b (s 11 0 0) (s 6 0 4) (s 83) ∧
  I_t (s 11 0 0) (s 11 0 1) (s 8) (s 75) (s 79) (s 84) (s 85) (s 86) (s 87) ∧ I_u (s 11 0 1) (s 8) (s 86) (s 87) ∧
  I_l (s 11 0 2) (s 9) (s 88) (s 89) (s 93) ∧ I_w (s 11 0 3) (s 12) (s 90) (s 91) (s 92) ∧ I_a (s 11 0 4) (s 11 0 1) (s 0) (s 94) (s 95) (s 96) (s 97) (s 98) ∧ I_y (s 7) (s 54) (s 99) (s 100) (s 101)
theorem zup_g (s : zS) (g g' : Nat) (i k x : Int) : zup s g i k x g' = if g' = g then (fun i' k' => if i' = i ∧ k' = k then x else s g i' k') else s g' := by
  funext i' k'
  unfold zup
  by_cases h : g' = g
  · subst h
    rw [if_pos rfl]
    by_cases h2 : i' = i ∧ k' = k
    · rw [if_pos ⟨rfl, h2⟩, if_pos h2]
    · rw [if_neg (fun z => h2 z.2), if_neg h2]
  · rw [if_neg (fun z => h z.1), if_neg h]
theorem zIs_Inv (L : Nat) : zIs (Inv L) L := fun s h => h.1
theorem zf_step (s : zS) {L : Nat} (h : Inv L s) : Inv L (zup (zup s 10 0 5 (w32 (s 10 0 5 + 1))) 11 0 5 (w32 (s 11 0 5 + 1))) := by
  obtain ⟨h1, h2, h3, h4⟩ := h
  unfold Inv
  simp only [zup_g, reduceIte, Nat.reduceEqDiff, Int.reduceEq, and_false, and_true, true_and]
  refine ⟨h1, h2, ?_, h4⟩
  have := zr_w32 (s 11 0 5 + 1)
  exact ⟨by rw [h3.1], by omega, by omega⟩
theorem pf {L : Nat} {s : zS} {mx mm : Nat} {ax am : List zV} (c : Int) (hs : Inv L s) (h1 : Call mx ax s c (zup s 10 0 5 (w32 (s 10 0 5 + 1)))) (h2 : Call mm am (zup s 10 0 5 (w32 (s 10 0 5 + 1))) c (zup (zup s 10 0 5 (w32 (s 10 0 5 + 1))) 11 0 5 (w32 (s 11 0 5 + 1)))) : ∃ (r : Int) (s1 s2 : zS), Call mx ax s r s1 ∧ Call mm am s1 r s2 ∧ Inv L s2 ∧ s1 110 = s 110 ∧ s1 111 = s 111 := ⟨c, _, _, h1, h2, zf_step s hs, rfl, rfl⟩
theorem z01_t {p : Prop} [Decidable p] (h : p) : z01 p = 1 := if_pos h
theorem z01_f {p : Prop} [Decidable p] (h : ¬ p) : z01 p = 0 := if_neg h
theorem zak_40 : zak 40 = 3 := by decide +kernel
theorem zln_40 (s : zS) : zln s 40 = 10 := (zln_g (by omega)).trans (congrArg (fun n : Nat => (n : Int)) (by decide +kernel : lg 40 = 10))
theorem zak_41 : zak 41 = 3 := by decide +kernel
theorem zln_41 (s : zS) : zln s 41 = 5 := (zln_g (by omega)).trans (congrArg (fun n : Nat => (n : Int)) (by decide +kernel : lg 41 = 5))
theorem zak_42 : zak 42 = 0 := by decide +kernel
theorem zln_42 (s : zS) : zln s 42 = 3 := (zln_g (by omega)).trans (congrArg (fun n : Nat => (n : Int)) (by decide +kernel : lg 42 = 3))
theorem zak_43 : zak 43 = 3 := by decide +kernel
theorem zln_43 (s : zS) : zln s 43 = 5 := (zln_g (by omega)).trans (congrArg (fun n : Nat => (n : Int)) (by decide +kernel : lg 43 = 5))
theorem zak_44 : zak 44 = 2 := by decide +kernel
theorem zln_44 (s : zS) : zln s 44 = 1024 := (zln_g (by omega)).trans (congrArg (fun n : Nat => (n : Int)) (by decide +kernel : lg 44 = 1024))
theorem zak_45 : zak 45 = 0 := by decide +kernel
theorem zln_45 (s : zS) : zln s 45 = 5 := (zln_g (by omega)).trans (congrArg (fun n : Nat => (n : Int)) (by decide +kernel : lg 45 = 5))
theorem zak_46 : zak 46 = 2 := by decide +kernel
theorem zln_46 (s : zS) : zln s 46 = 1024 := (zln_g (by omega)).trans (congrArg (fun n : Nat => (n : Int)) (by decide +kernel : lg 46 = 1024))
theorem zak_47 : zak 47 = 0 := by decide +kernel
theorem zln_47 (s : zS) : zln s 47 = 5 := (zln_g (by omega)).trans (congrArg (fun n : Nat => (n : Int)) (by decide +kernel : lg 47 = 5))
theorem zak_48 : zak 48 = 3 := by decide +kernel
theorem zln_48 (s : zS) : zln s 48 = 6 := (zln_g (by omega)).trans (congrArg (fun n : Nat => (n : Int)) (by decide +kernel : lg 48 = 6))
theorem zak_49 : zak 49 = 3 := by decide +kernel
theorem zln_49 (s : zS) : zln s 49 = 8 := (zln_g (by omega)).trans (congrArg (fun n : Nat => (n : Int)) (by decide +kernel : lg 49 = 8))
theorem zak_50 : zak 50 = 0 := by decide +kernel
theorem zln_50 (s : zS) : zln s 50 = 6 := (zln_g (by omega)).trans (congrArg (fun n : Nat => (n : Int)) (by decide +kernel : lg 50 = 6))
theorem zak_51 : zak 51 = 3 := by decide +kernel
theorem zln_51 (s : zS) : zln s 51 = 10 := (zln_g (by omega)).trans (congrArg (fun n : Nat => (n : Int)) (by decide +kernel : lg 51 = 10))
theorem zak_52 : zak 52 = 0 := by decide +kernel
theorem zln_52 (s : zS) : zln s 52 = 9 := (zln_g (by omega)).trans (congrArg (fun n : Nat => (n : Int)) (by decide +kernel : lg 52 = 9))
theorem zak_53 : zak 53 = 3 := by decide +kernel
theorem zln_53 (s : zS) : zln s 53 = 4 := (zln_g (by omega)).trans (congrArg (fun n : Nat => (n : Int)) (by decide +kernel : lg 53 = 4))
theorem zak_55 : zak 55 = 2 := by decide +kernel
theorem zln_55 (s : zS) : zln s 55 = 5 := (zln_g (by omega)).trans (congrArg (fun n : Nat => (n : Int)) (by decide +kernel : lg 55 = 5))
theorem zak_54 : zak 54 = 0 := by decide +kernel
theorem zln_54 (s : zS) : zln s 54 = 10 := (zln_g (by omega)).trans (congrArg (fun n : Nat => (n : Int)) (by decide +kernel : lg 54 = 10))
theorem zak_73 : zak 73 = 0 := by decide +kernel
theorem zln_73 (s : zS) : zln s 73 = 10 := (zln_g (by omega)).trans (congrArg (fun n : Nat => (n : Int)) (by decide +kernel : lg 73 = 10))
theorem zak_74 : zak 74 = 0 := by decide +kernel
theorem zln_74 (s : zS) : zln s 74 = 10 := (zln_g (by omega)).trans (congrArg (fun n : Nat => (n : Int)) (by decide +kernel : lg 74 = 10))
theorem zak_75 : zak 75 = 0 := by decide +kernel
theorem zln_75 (s : zS) : zln s 75 = 10 := (zln_g (by omega)).trans (congrArg (fun n : Nat => (n : Int)) (by decide +kernel : lg 75 = 10))
theorem zak_76 : zak 76 = 0 := by decide +kernel
theorem zln_76 (s : zS) : zln s 76 = 10 := (zln_g (by omega)).trans (congrArg (fun n : Nat => (n : Int)) (by decide +kernel : lg 76 = 10))
theorem zak_77 : zak 77 = 0 := by decide +kernel
theorem zln_77 (s : zS) : zln s 77 = 10 := (zln_g (by omega)).trans (congrArg (fun n : Nat => (n : Int)) (by decide +kernel : lg 77 = 10))
theorem zak_78 : zak 78 = 0 := by decide +kernel
theorem zln_78 (s : zS) : zln s 78 = 10 := (zln_g (by omega)).trans (congrArg (fun n : Nat => (n : Int)) (by decide +kernel : lg 78 = 10))
theorem zak_79 : zak 79 = 0 := by decide +kernel
theorem zln_79 (s : zS) : zln s 79 = 10 := (zln_g (by omega)).trans (congrArg (fun n : Nat => (n : Int)) (by decide +kernel : lg 79 = 10))
theorem zak_80 : zak 80 = 0 := by decide +kernel
theorem zln_80 (s : zS) : zln s 80 = 10 := (zln_g (by omega)).trans (congrArg (fun n : Nat => (n : Int)) (by decide +kernel : lg 80 = 10))
theorem zak_81 : zak 81 = 0 := by decide +kernel
theorem zln_81 (s : zS) : zln s 81 = 10 := (zln_g (by omega)).trans (congrArg (fun n : Nat => (n : Int)) (by decide +kernel : lg 81 = 10))
theorem zak_82 : zak 82 = 0 := by decide +kernel
theorem zln_82 (s : zS) : zln s 82 = 30 := (zln_g (by omega)).trans (congrArg (fun n : Nat => (n : Int)) (by decide +kernel : lg 82 = 30))
theorem zak_83 : zak 83 = 1 := by decide +kernel
theorem zln_83 (s : zS) : zln s 83 = 10 := (zln_g (by omega)).trans (congrArg (fun n : Nat => (n : Int)) (by decide +kernel : lg 83 = 10))
theorem zak_84 : zak 84 = 0 := by decide +kernel
theorem zln_84 (s : zS) : zln s 84 = 5 := (zln_g (by omega)).trans (congrArg (fun n : Nat => (n : Int)) (by decide +kernel : lg 84 = 5))
theorem zak_85 : zak 85 = 0 := by decide +kernel
theorem zln_85 (s : zS) : zln s 85 = 5 := (zln_g (by omega)).trans (congrArg (fun n : Nat => (n : Int)) (by decide +kernel : lg 85 = 5))
theorem zak_86 : zak 86 = 0 := by decide +kernel
theorem zln_86 (s : zS) : zln s 86 = 5 := (zln_g (by omega)).trans (congrArg (fun n : Nat => (n : Int)) (by decide +kernel : lg 86 = 5))
theorem zak_87 : zak 87 = 1 := by decide +kernel
theorem zln_87 (s : zS) : zln s 87 = 5 := (zln_g (by omega)).trans (congrArg (fun n : Nat => (n : Int)) (by decide +kernel : lg 87 = 5))
theorem zak_88 : zak 88 = 0 := by decide +kernel
theorem zln_88 (s : zS) : zln s 88 = 6 := (zln_g (by omega)).trans (congrArg (fun n : Nat => (n : Int)) (by decide +kernel : lg 88 = 6))
theorem zak_89 : zak 89 = 0 := by decide +kernel
theorem zln_89 (s : zS) : zln s 89 = 6 := (zln_g (by omega)).trans (congrArg (fun n : Nat => (n : Int)) (by decide +kernel : lg 89 = 6))
theorem zak_90 : zak 90 = 0 := by decide +kernel
theorem zln_90 (s : zS) : zln s 90 = 8 := (zln_g (by omega)).trans (congrArg (fun n : Nat => (n : Int)) (by decide +kernel : lg 90 = 8))
theorem zak_91 : zak 91 = 0 := by decide +kernel
theorem zln_91 (s : zS) : zln s 91 = 8 := (zln_g (by omega)).trans (congrArg (fun n : Nat => (n : Int)) (by decide +kernel : lg 91 = 8))
theorem zak_92 : zak 92 = 0 := by decide +kernel
theorem zln_92 (s : zS) : zln s 92 = 8 := (zln_g (by omega)).trans (congrArg (fun n : Nat => (n : Int)) (by decide +kernel : lg 92 = 8))
theorem zak_93 : zak 93 = 1 := by decide +kernel
theorem zln_93 (s : zS) : zln s 93 = 6 := (zln_g (by omega)).trans (congrArg (fun n : Nat => (n : Int)) (by decide +kernel : lg 93 = 6))
theorem zak_94 : zak 94 = 0 := by decide +kernel
theorem zln_94 (s : zS) : zln s 94 = 10 := (zln_g (by omega)).trans (congrArg (fun n : Nat => (n : Int)) (by decide +kernel : lg 94 = 10))
theorem zak_95 : zak 95 = 0 := by decide +kernel
theorem zln_95 (s : zS) : zln s 95 = 10 := (zln_g (by omega)).trans (congrArg (fun n : Nat => (n : Int)) (by decide +kernel : lg 95 = 10))
theorem zak_96 : zak 96 = 0 := by decide +kernel
theorem zln_96 (s : zS) : zln s 96 = 10 := (zln_g (by omega)).trans (congrArg (fun n : Nat => (n : Int)) (by decide +kernel : lg 96 = 10))
theorem zak_97 : zak 97 = 0 := by decide +kernel
theorem zln_97 (s : zS) : zln s 97 = 10 := (zln_g (by omega)).trans (congrArg (fun n : Nat => (n : Int)) (by decide +kernel : lg 97 = 10))
theorem zak_98 : zak 98 = 1 := by decide +kernel
theorem zln_98 (s : zS) : zln s 98 = 10 := (zln_g (by omega)).trans (congrArg (fun n : Nat => (n : Int)) (by decide +kernel : lg 98 = 10))
theorem zak_99 : zak 99 = 0 := by decide +kernel
theorem zln_99 (s : zS) : zln s 99 = 4 := (zln_g (by omega)).trans (congrArg (fun n : Nat => (n : Int)) (by decide +kernel : lg 99 = 4))
theorem zak_100 : zak 100 = 0 := by decide +kernel
theorem zln_100 (s : zS) : zln s 100 = 4 := (zln_g (by omega)).trans (congrArg (fun n : Nat => (n : Int)) (by decide +kernel : lg 100 = 4))
theorem zak_101 : zak 101 = 0 := by decide +kernel
theorem zln_101 (s : zS) : zln s 101 = 40 := (zln_g (by omega)).trans (congrArg (fun n : Nat => (n : Int)) (by decide +kernel : lg 101 = 40))
theorem zak_102 : zak 102 = 0 := by decide +kernel
theorem zln_102 (s : zS) : zln s 102 = 6144 := (zln_g (by omega)).trans (congrArg (fun n : Nat => (n : Int)) (by decide +kernel : lg 102 = 6144))
theorem zak_103 : zak 103 = 0 := by decide +kernel
theorem zln_103 (s : zS) : zln s 103 = 5120 := (zln_g (by omega)).trans (congrArg (fun n : Nat => (n : Int)) (by decide +kernel : lg 103 = 5120))
theorem zak_104 : zak 104 = 0 := by decide +kernel
theorem zln_104 (s : zS) : zln s 104 = 5 := (zln_g (by omega)).trans (congrArg (fun n : Nat => (n : Int)) (by decide +kernel : lg 104 = 5))
theorem zak_105 : zak 105 = 0 := by decide +kernel
theorem zln_105 (s : zS) : zln s 105 = 10 := (zln_g (by omega)).trans (congrArg (fun n : Nat => (n : Int)) (by decide +kernel : lg 105 = 10))
theorem zak_108 : zak 108 = 0 := by decide +kernel
theorem zln_108 (s : zS) : zln s 108 = 4 := rfl
theorem zak_109 : zak 109 = 0 := by decide +kernel
theorem zln_109 (s : zS) : zln s 109 = 4 := rfl

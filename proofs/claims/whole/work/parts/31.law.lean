def rI (a : Int) : Prop := -2147483648 ≤ a ∧ a < 2147483648
theorem w32_id {x : Int} (h1 : -2147483648 ≤ x) (h2 : x < 2147483648) : w32 x = x := by unfold w32; omega
/-- a call's whole run, wherever it is made -/
def Call (mid : Nat) (args : List zV) (s : zS) (r : Int) (s1 : zS) : Prop := ∀ (m pc : Nat) (ls st : List zV) (fs : List zFr) (Q : List zV → zS → Prop), Ev ((mid, 0, args, []) :: (m, pc, ls, st) :: fs) s Q = Ev ((m, pc, ls, zI r :: st) :: fs) s1 Q
/-- class and reference answer alike, and what holds between them holds behind both -/
def Pair (I : zS → Prop) (mx mm : Nat) (ax am : List zV) : Prop := ∀ s, I s → ∃ (r : Int) (s1 s2 : zS), Call mx ax s r s1 ∧ Call mm am s1 r s2 ∧ I s2 ∧ s1 110 = s 110 ∧ s1 111 = s 111
theorem zln110 (s : zS) : zln s 110 = s 111 0 0 := rfl
theorem zak110 : zak 110 = 0 := by decide +kernel
theorem w_eq {P : Prop} (h : P) : P = True := eq_true h
def zIs (I : zS → Prop) (L : Nat) : Prop := ∀ s, I s → s 111 0 0 = (L : Int) ∧ ∀ j : Int, 0 ≤ j → j < (L : Int) → rI (s 110 0 j)
/-- pupil -/
def Pr_pupil (I : zS → Prop) : Prop := ∀ a1 a2 a3 : Int, rI a1 → rI a2 → rI a3 → Pair I 72 123 [zR 10 0, zI a1, zI a2, zI a3] [zR 11 0, zI a1, zI a2, zI a3, zU]
/-- teacher -/
def Pr_teacher (I : zS → Prop) : Prop := ∀ a1 a2 : Int, rI a1 → rI a2 → Pair I 73 124 [zR 10 0, zI a1, zI a2] [zR 11 0, zI a1, zI a2]
/-- as -/
def Pr_as (I : zS → Prop) : Prop := ∀ a1 a2 a3 : Int, rI a1 → (a2 = 0 ∨ a2 = 1) → rI a3 → Pair I 74 127 [zR 10 0, zI a1, zI a2, zI a3, zU, zU] [zR 11 0, zI a1, zI a2, zI a3, zU]
/-- of -/
def Pr_of (I : zS → Prop) : Prop := ∀ a1 a2 : Int, rI a1 → rI a2 → Pair I 75 129 [zR 10 0, zI a1, zI a2, zU] [zR 11 0, zI a1, zI a2]
/-- here -/
def Pr_here (I : zS → Prop) : Prop := ∀ a1 a2 : Int, rI a1 → (a2 = 0 ∨ a2 = 1) → Pair I 76 130 [zR 10 0, zI a1, zI a2] [zR 11 0, zI a1, zI a2, zU]
/-- friend -/
def Pr_friend (I : zS → Prop) : Prop := ∀ a1 a2 : Int, rI a1 → rI a2 → Pair I 77 131 [zR 10 0, zI a1, zI a2, zU, zU] [zR 11 0, zI a1, zI a2, zU]
/-- wish -/
def Pr_wish (I : zS → Prop) : Prop := ∀ a1 a2 : Int, rI a1 → rI a2 → Pair I 78 132 [zR 10 0, zI a1, zI a2, zU] [zR 11 0, zI a1, zI a2, zU]
/-- saw -/
def Pr_saw (I : zS → Prop) : Prop := ∀ a1 a2 a3 : Int, rI a1 → rI a2 → rI a3 → Pair I 79 134 [zR 10 0, zI a1, zI a2, zI a3, zU] [zR 11 0, zI a1, zI a2, zI a3]
/-- ill -/
def Pr_ill (I : zS → Prop) : Prop := ∀ a1 a2 : Int, rI a1 → (a2 = 0 ∨ a2 = 1) → Pair I 80 135 [zR 10 0, zI a1, zI a2, zU, zU] [zR 11 0, zI a1, zI a2, zU]
/-- terms -/
def Pr_terms (I : zS → Prop) : Prop := ∀ a1 a2 a3 a4 : Int, rI a1 → rI a2 → rI a3 → rI a4 → Pair I 81 136 [zR 10 0, zI a1, zI a2, zI a3, zI a4, zU] [zR 11 0, zI a1, zI a2, zI a3, zI a4]
/-- level -/
def Pr_level (I : zS → Prop) : Prop := ∀ a1 : Int, rI a1 → Pair I 82 139 [zR 10 0, zI a1, zU] [zR 11 0, zI a1, zU]
/-- may -/
def Pr_may (I : zS → Prop) : Prop := ∀ a1 a2 : Int, rI a1 → rI a2 → Pair I 83 145 [zR 10 0, zI a1, zI a2] [zR 11 0, zI a1, zI a2]
/-- classing -/
def Pr_classing (I : zS → Prop) : Prop := Pair I 84 150 [zR 10 0] [zR 11 0]
/-- noon -/
def Pr_noon (I : zS → Prop) : Prop := Pair I 85 151 [zR 10 0, zU] [zR 11 0, zU, zU]
/-- worth -/
def Pr_worth (I : zS → Prop) : Prop := Pair I 86 152 [zR 10 0] [zR 11 0, zU, zU]
/-- set -/
def Pr_set (I : zS → Prop) : Prop := ∀ a1 : Int, rI a1 → Pair I 87 153 [zR 10 0, zI a1] [zR 11 0, zI a1]
/-- lift -/
def Pr_lift (I : zS → Prop) : Prop := ∀ a1 a2 : Int, rI a1 → rI a2 → Pair I 88 155 [zR 10 0, zI a1, zI a2] [zR 11 0, zI a1, zI a2]
/-- slope -/
def Pr_slope (I : zS → Prop) : Prop := ∀ a1 a2 a3 : Int, rI a1 → rI a2 → rI a3 → Pair I 89 156 [zR 10 0, zI a1, zI a2, zI a3] [zR 11 0, zI a1, zI a2, zI a3]
/-- stop -/
def Pr_stop (I : zS → Prop) : Prop := ∀ a1 a2 : Int, rI a1 → (a2 = 0 ∨ a2 = 1) → Pair I 90 157 [zR 10 0, zI a1, zI a2, zU, zU] [zR 11 0, zI a1, zI a2, zU]
/-- meeting -/
def Pr_meeting (I : zS → Prop) : Prop := ∀ a1 : Int, rI a1 → Pair I 91 158 [zR 10 0, zI a1, zU] [zR 11 0, zI a1, zU]
/-- serves -/
def Pr_serves (I : zS → Prop) : Prop := ∀ a1 : Int, rI a1 → Pair I 92 161 [zR 10 0, zI a1, zU] [zR 11 0, zI a1, zU, zU, zU, zU, zU]
/-- stranded -/
def Pr_stranded (I : zS → Prop) : Prop := ∀ a1 a2 : Int, rI a1 → rI a2 → Pair I 93 162 [zR 10 0, zI a1, zI a2, zU] [zR 11 0, zI a1, zI a2, zU]
/-- name -/
def Pr_name (I : zS → Prop) : Prop := ∀ a1 a2 : Int, rI a1 → rI a2 → Pair I 94 165 [zR 10 0, zI a1, zI a2, zU] [zR 11 0, zI a1, zI a2]
/-- hand -/
def Pr_hand (I : zS → Prop) : Prop := ∀ a1 a2 : Int, rI a1 → rI a2 → Pair I 95 166 [zR 10 0, zI a1, zI a2, zU] [zR 11 0, zI a1, zI a2]
/-- back -/
def Pr_back (I : zS → Prop) : Prop := ∀ a1 : Int, rI a1 → Pair I 96 167 [zR 10 0, zI a1, zU, zU] [zR 11 0, zI a1, zU]
/-- left -/
def Pr_left (I : zS → Prop) : Prop := Pair I 97 168 [zR 10 0] [zR 11 0, zU, zU]
/-- ask -/
def Pr_ask (I : zS → Prop) : Prop := ∀ a1 a2 a3 a4 : Int, rI a1 → rI a2 → rI a3 → rI a4 → Pair I 98 169 [zR 10 0, zI a1, zI a2, zI a3, zI a4] [zR 11 0, zI a1, zI a2, zI a3, zI a4]
/-- hours -/
def Pr_hours (I : zS → Prop) : Prop := ∀ a1 a2 : Int, rI a1 → rI a2 → Pair I 99 170 [zR 10 0, zI a1, zI a2] [zR 11 0, zI a1, zI a2]
/-- book -/
def Pr_book (I : zS → Prop) : Prop := ∀ a1 : Int, rI a1 → Pair I 100 175 [zR 10 0, zI a1, zU] [zR 11 0, zI a1]
/-- open -/
def Pr_open (I : zS → Prop) : Prop := ∀ a1 : Int, rI a1 → Pair I 101 176 [zR 10 0, zI a1, zU, zU] [zR 11 0, zI a1, zU]
/-- choice -/
def Pr_choice (I : zS → Prop) : Prop := ∀ a1 a2 : Int, rI a1 → (a2 = 0 ∨ a2 = 1) → Pair I 102 179 [zR 10 0, zI a1, zI a2, zU] [zR 11 0, zI a1, zI a2, zU]
/-- choose -/
def Pr_choose (I : zS → Prop) : Prop := ∀ a1 : Int, rI a1 → Pair I 103 180 [zR 10 0, zI a1, zU] [zR 11 0, zI a1, zU, zU]
/-- sheet -/
def Pr_sheet (I : zS → Prop) : Prop := ∀ a1 a2 a3 : Int, rI a1 → rI a2 → rI a3 → Pair I 104 182 [zR 10 0, zI a1, zI a2, zI a3, zU] [zR 11 0, zI a1, zI a2, zI a3, zU]
/-- write -/
def Pr_write (I : zS → Prop) : Prop := ∀ a1 a2 a3 : Int, rI a1 → rI a2 → rI a3 → Pair I 105 183 [zR 10 0, zI a1, zI a2, zI a3, zU, zU] [zR 11 0, zI a1, zI a2, zI a3, zU]
/-- copy -/
def Pr_copy (I : zS → Prop) : Prop := ∀ a1 a2 a3 a4 a5 : Int, rI a1 → rI a2 → rI a3 → rI a4 → rI a5 → Pair I 106 184 [zR 10 0, zI a1, zI a2, zI a3, zI a4, zI a5, zU, zU] [zR 11 0, zI a1, zI a2, zI a3, zI a4, zI a5, zU]
/-- read -/
def Pr_read (I : zS → Prop) : Prop := ∀ a1 : Int, rI a1 → Pair I 107 185 [zR 10 0, zI a1, zU, zU] [zR 11 0, zI a1, zU]
/-- told -/
def Pr_told (I : zS → Prop) : Prop := ∀ a1 : Int, rI a1 → Pair I 108 186 [zR 10 0, zI a1] [zR 11 0, zI a1, zU, zU]
theorem lc_pupil {I : zS → Prop} {L : Nat} (hI : zIs I L) (hP : Pr_pupil I) (hL : L ≤ 3072) {s : zS} (hs : I s) {i : Int} (h0 : 0 ≤ i) (h6 : i + 6 ≤ (L : Int)) {fs : List zFr} {Q : List zV → zS → Prop} (kk : ∀ s2, I s2 → Ev ((187, 1447, [zR 110 0, zR 10 0, zR 11 0, zI i], []) :: fs) s2 Q) : Ev ((187, 196, [zR 110 0, zR 10 0, zR 11 0, zI i], []) :: fs) s Q := by
  obtain ⟨hl, hx⟩ := hI s hs
  have w1 : w32 (i + 1) = i + 1 := w32_id (by omega) (by omega)
  have b1 : (zak 110 = 0 ∧ 0 ≤ i + 1 ∧ i + 1 < zln s 110) = True := eq_true ⟨zak110, by omega, by rw [zln110, hl]; omega⟩
  have w2 : w32 (i + 2) = i + 2 := w32_id (by omega) (by omega)
  have b2 : (zak 110 = 0 ∧ 0 ≤ i + 2 ∧ i + 2 < zln s 110) = True := eq_true ⟨zak110, by omega, by rw [zln110, hl]; omega⟩
  have w3 : w32 (i + 3) = i + 3 := w32_id (by omega) (by omega)
  have b3 : (zak 110 = 0 ∧ 0 ≤ i + 3 ∧ i + 3 < zln s 110) = True := eq_true ⟨zak110, by omega, by rw [zln110, hl]; omega⟩
  obtain ⟨r, s1, s2, c1, c2, h2, e1, e2⟩ := hP (s 110 0 (i + 1)) (s 110 0 (i + 2)) (s 110 0 (i + 3)) (hx (i + 1) (by omega) (by omega)) (hx (i + 2) (by omega) (by omega)) (hx (i + 3) (by omega) (by omega)) s hs
  simp only [r187_196, r187_197, r187_198, r187_199, r187_200, r187_201, r187_202, r187_203, r187_204, r187_205, r187_206, r187_207, r187_208, r187_209, r187_210, r187_211, r187_212, w1, w2, w3, b1, b2, b3, true_and]
  rw [c1]
  have d1 : (zak 110 = 0 ∧ 0 ≤ i + 1 ∧ i + 1 < zln s1 110) = True := eq_true ⟨zak110, by omega, by rw [zln110, e2, hl]; omega⟩
  have d2 : (zak 110 = 0 ∧ 0 ≤ i + 2 ∧ i + 2 < zln s1 110) = True := eq_true ⟨zak110, by omega, by rw [zln110, e2, hl]; omega⟩
  have d3 : (zak 110 = 0 ∧ 0 ≤ i + 3 ∧ i + 3 < zln s1 110) = True := eq_true ⟨zak110, by omega, by rw [zln110, e2, hl]; omega⟩
  simp only [r187_215, r187_216, r187_217, r187_218, r187_219, r187_220, r187_221, r187_222, r187_223, r187_224, r187_225, r187_226, r187_227, r187_228, r187_229, r187_230, r187_231, w1, w2, w3, d1, d2, d3, true_and, e1]
  rw [c2]
  simp only [r187_234, r187_237, r187_238, if_true]
  exact kk s2 h2
theorem lc_teacher {I : zS → Prop} {L : Nat} (hI : zIs I L) (hP : Pr_teacher I) (hL : L ≤ 3072) {s : zS} (hs : I s) {i : Int} (h0 : 0 ≤ i) (h6 : i + 6 ≤ (L : Int)) {fs : List zFr} {Q : List zV → zS → Prop} (kk : ∀ s2, I s2 → Ev ((187, 1447, [zR 110 0, zR 10 0, zR 11 0, zI i], []) :: fs) s2 Q) : Ev ((187, 239, [zR 110 0, zR 10 0, zR 11 0, zI i], []) :: fs) s Q := by
  obtain ⟨hl, hx⟩ := hI s hs
  have w1 : w32 (i + 1) = i + 1 := w32_id (by omega) (by omega)
  have b1 : (zak 110 = 0 ∧ 0 ≤ i + 1 ∧ i + 1 < zln s 110) = True := eq_true ⟨zak110, by omega, by rw [zln110, hl]; omega⟩
  have w2 : w32 (i + 2) = i + 2 := w32_id (by omega) (by omega)
  have b2 : (zak 110 = 0 ∧ 0 ≤ i + 2 ∧ i + 2 < zln s 110) = True := eq_true ⟨zak110, by omega, by rw [zln110, hl]; omega⟩
  obtain ⟨r, s1, s2, c1, c2, h2, e1, e2⟩ := hP (s 110 0 (i + 1)) (s 110 0 (i + 2)) (hx (i + 1) (by omega) (by omega)) (hx (i + 2) (by omega) (by omega)) s hs
  simp only [r187_239, r187_240, r187_241, r187_242, r187_243, r187_244, r187_245, r187_246, r187_247, r187_248, r187_249, r187_250, w1, w2, b1, b2, true_and]
  rw [c1]
  have d1 : (zak 110 = 0 ∧ 0 ≤ i + 1 ∧ i + 1 < zln s1 110) = True := eq_true ⟨zak110, by omega, by rw [zln110, e2, hl]; omega⟩
  have d2 : (zak 110 = 0 ∧ 0 ≤ i + 2 ∧ i + 2 < zln s1 110) = True := eq_true ⟨zak110, by omega, by rw [zln110, e2, hl]; omega⟩
  simp only [r187_253, r187_254, r187_255, r187_256, r187_257, r187_258, r187_259, r187_260, r187_261, r187_262, r187_263, r187_264, w1, w2, d1, d2, true_and, e1]
  rw [c2]
  simp only [r187_267, r187_270, r187_271, if_true]
  exact kk s2 h2
theorem lc_as {I : zS → Prop} {L : Nat} (hI : zIs I L) (hP : Pr_as I) (hL : L ≤ 3072) {s : zS} (hs : I s) {i : Int} (h0 : 0 ≤ i) (h6 : i + 6 ≤ (L : Int)) {fs : List zFr} {Q : List zV → zS → Prop} (kk : ∀ s2, I s2 → Ev ((187, 1447, [zR 110 0, zR 10 0, zR 11 0, zI i], []) :: fs) s2 Q) : Ev ((187, 272, [zR 110 0, zR 10 0, zR 11 0, zI i], []) :: fs) s Q := by
  obtain ⟨hl, hx⟩ := hI s hs
  have w1 : w32 (i + 1) = i + 1 := w32_id (by omega) (by omega)
  have b1 : (zak 110 = 0 ∧ 0 ≤ i + 1 ∧ i + 1 < zln s 110) = True := eq_true ⟨zak110, by omega, by rw [zln110, hl]; omega⟩
  have w2 : w32 (i + 2) = i + 2 := w32_id (by omega) (by omega)
  have b2 : (zak 110 = 0 ∧ 0 ≤ i + 2 ∧ i + 2 < zln s 110) = True := eq_true ⟨zak110, by omega, by rw [zln110, hl]; omega⟩
  have w3 : w32 (i + 3) = i + 3 := w32_id (by omega) (by omega)
  have b3 : (zak 110 = 0 ∧ 0 ≤ i + 3 ∧ i + 3 < zln s 110) = True := eq_true ⟨zak110, by omega, by rw [zln110, hl]; omega⟩
  by_cases q2 : s 110 0 (i + 2) = 0
  · have q2 : (s 110 0 (i + 2) = 0) = True := eq_true q2
    obtain ⟨r, s1, s2, c1, c2, h2, e1, e2⟩ := hP (s 110 0 (i + 1)) 0 (s 110 0 (i + 3)) (hx (i + 1) (by omega) (by omega)) (Or.inl rfl) (hx (i + 3) (by omega) (by omega)) s hs
    simp only [r187_272, r187_273, r187_274, r187_275, r187_276, r187_277, r187_278, r187_279, r187_280, r187_281, r187_282, r187_283, r187_286, r187_287, r187_290, r187_291, r187_292, r187_293, r187_294, r187_295, r187_296, w1, w2, w3, b1, b2, b3, true_and, q2, if_true, if_false]
    rw [c1]
    have d1 : (zak 110 = 0 ∧ 0 ≤ i + 1 ∧ i + 1 < zln s1 110) = True := eq_true ⟨zak110, by omega, by rw [zln110, e2, hl]; omega⟩
    have d2 : (zak 110 = 0 ∧ 0 ≤ i + 2 ∧ i + 2 < zln s1 110) = True := eq_true ⟨zak110, by omega, by rw [zln110, e2, hl]; omega⟩
    have d3 : (zak 110 = 0 ∧ 0 ≤ i + 3 ∧ i + 3 < zln s1 110) = True := eq_true ⟨zak110, by omega, by rw [zln110, e2, hl]; omega⟩
    simp only [r187_299, r187_300, r187_301, r187_302, r187_303, r187_304, r187_305, r187_306, r187_307, r187_308, r187_309, r187_310, r187_313, r187_314, r187_317, r187_318, r187_319, r187_320, r187_321, r187_322, r187_323, w1, w2, w3, d1, d2, d3, true_and, e1, q2, if_true, if_false]
    rw [c2]
    simp only [r187_326, r187_329, r187_330, if_true]
    exact kk s2 h2
  · have q2 : (s 110 0 (i + 2) = 0) = False := eq_false q2
    obtain ⟨r, s1, s2, c1, c2, h2, e1, e2⟩ := hP (s 110 0 (i + 1)) 1 (s 110 0 (i + 3)) (hx (i + 1) (by omega) (by omega)) (Or.inr rfl) (hx (i + 3) (by omega) (by omega)) s hs
    simp only [r187_272, r187_273, r187_274, r187_275, r187_276, r187_277, r187_278, r187_279, r187_280, r187_281, r187_282, r187_283, r187_286, r187_287, r187_290, r187_291, r187_292, r187_293, r187_294, r187_295, r187_296, w1, w2, w3, b1, b2, b3, true_and, q2, if_true, if_false]
    rw [c1]
    have d1 : (zak 110 = 0 ∧ 0 ≤ i + 1 ∧ i + 1 < zln s1 110) = True := eq_true ⟨zak110, by omega, by rw [zln110, e2, hl]; omega⟩
    have d2 : (zak 110 = 0 ∧ 0 ≤ i + 2 ∧ i + 2 < zln s1 110) = True := eq_true ⟨zak110, by omega, by rw [zln110, e2, hl]; omega⟩
    have d3 : (zak 110 = 0 ∧ 0 ≤ i + 3 ∧ i + 3 < zln s1 110) = True := eq_true ⟨zak110, by omega, by rw [zln110, e2, hl]; omega⟩
    simp only [r187_299, r187_300, r187_301, r187_302, r187_303, r187_304, r187_305, r187_306, r187_307, r187_308, r187_309, r187_310, r187_313, r187_314, r187_317, r187_318, r187_319, r187_320, r187_321, r187_322, r187_323, w1, w2, w3, d1, d2, d3, true_and, e1, q2, if_true, if_false]
    rw [c2]
    simp only [r187_326, r187_329, r187_330, if_true]
    exact kk s2 h2
theorem lc_of {I : zS → Prop} {L : Nat} (hI : zIs I L) (hP : Pr_of I) (hL : L ≤ 3072) {s : zS} (hs : I s) {i : Int} (h0 : 0 ≤ i) (h6 : i + 6 ≤ (L : Int)) {fs : List zFr} {Q : List zV → zS → Prop} (kk : ∀ s2, I s2 → Ev ((187, 1447, [zR 110 0, zR 10 0, zR 11 0, zI i], []) :: fs) s2 Q) : Ev ((187, 331, [zR 110 0, zR 10 0, zR 11 0, zI i], []) :: fs) s Q := by
  obtain ⟨hl, hx⟩ := hI s hs
  have w1 : w32 (i + 1) = i + 1 := w32_id (by omega) (by omega)
  have b1 : (zak 110 = 0 ∧ 0 ≤ i + 1 ∧ i + 1 < zln s 110) = True := eq_true ⟨zak110, by omega, by rw [zln110, hl]; omega⟩
  have w2 : w32 (i + 2) = i + 2 := w32_id (by omega) (by omega)
  have b2 : (zak 110 = 0 ∧ 0 ≤ i + 2 ∧ i + 2 < zln s 110) = True := eq_true ⟨zak110, by omega, by rw [zln110, hl]; omega⟩
  obtain ⟨r, s1, s2, c1, c2, h2, e1, e2⟩ := hP (s 110 0 (i + 1)) (s 110 0 (i + 2)) (hx (i + 1) (by omega) (by omega)) (hx (i + 2) (by omega) (by omega)) s hs
  simp only [r187_331, r187_332, r187_333, r187_334, r187_335, r187_336, r187_337, r187_338, r187_339, r187_340, r187_341, r187_342, w1, w2, b1, b2, true_and]
  rw [c1]
  have d1 : (zak 110 = 0 ∧ 0 ≤ i + 1 ∧ i + 1 < zln s1 110) = True := eq_true ⟨zak110, by omega, by rw [zln110, e2, hl]; omega⟩
  have d2 : (zak 110 = 0 ∧ 0 ≤ i + 2 ∧ i + 2 < zln s1 110) = True := eq_true ⟨zak110, by omega, by rw [zln110, e2, hl]; omega⟩
  simp only [r187_345, r187_346, r187_347, r187_348, r187_349, r187_350, r187_351, r187_352, r187_353, r187_354, r187_355, r187_356, w1, w2, d1, d2, true_and, e1]
  rw [c2]
  simp only [r187_359, r187_362, r187_363, if_true]
  exact kk s2 h2
theorem lc_here {I : zS → Prop} {L : Nat} (hI : zIs I L) (hP : Pr_here I) (hL : L ≤ 3072) {s : zS} (hs : I s) {i : Int} (h0 : 0 ≤ i) (h6 : i + 6 ≤ (L : Int)) {fs : List zFr} {Q : List zV → zS → Prop} (kk : ∀ s2, I s2 → Ev ((187, 1447, [zR 110 0, zR 10 0, zR 11 0, zI i], []) :: fs) s2 Q) : Ev ((187, 364, [zR 110 0, zR 10 0, zR 11 0, zI i], []) :: fs) s Q := by
  obtain ⟨hl, hx⟩ := hI s hs
  have w1 : w32 (i + 1) = i + 1 := w32_id (by omega) (by omega)
  have b1 : (zak 110 = 0 ∧ 0 ≤ i + 1 ∧ i + 1 < zln s 110) = True := eq_true ⟨zak110, by omega, by rw [zln110, hl]; omega⟩
  have w2 : w32 (i + 2) = i + 2 := w32_id (by omega) (by omega)
  have b2 : (zak 110 = 0 ∧ 0 ≤ i + 2 ∧ i + 2 < zln s 110) = True := eq_true ⟨zak110, by omega, by rw [zln110, hl]; omega⟩
  by_cases q2 : s 110 0 (i + 2) = 0
  · have q2 : (s 110 0 (i + 2) = 0) = True := eq_true q2
    obtain ⟨r, s1, s2, c1, c2, h2, e1, e2⟩ := hP (s 110 0 (i + 1)) 0 (hx (i + 1) (by omega) (by omega)) (Or.inl rfl) s hs
    simp only [r187_364, r187_365, r187_366, r187_367, r187_368, r187_369, r187_370, r187_371, r187_372, r187_373, r187_374, r187_375, r187_378, r187_379, r187_382, r187_383, w1, w2, b1, b2, true_and, q2, if_true, if_false]
    rw [c1]
    have d1 : (zak 110 = 0 ∧ 0 ≤ i + 1 ∧ i + 1 < zln s1 110) = True := eq_true ⟨zak110, by omega, by rw [zln110, e2, hl]; omega⟩
    have d2 : (zak 110 = 0 ∧ 0 ≤ i + 2 ∧ i + 2 < zln s1 110) = True := eq_true ⟨zak110, by omega, by rw [zln110, e2, hl]; omega⟩
    simp only [r187_386, r187_387, r187_388, r187_389, r187_390, r187_391, r187_392, r187_393, r187_394, r187_395, r187_396, r187_397, r187_400, r187_401, r187_404, r187_405, w1, w2, d1, d2, true_and, e1, q2, if_true, if_false]
    rw [c2]
    simp only [r187_408, r187_411, r187_412, if_true]
    exact kk s2 h2
  · have q2 : (s 110 0 (i + 2) = 0) = False := eq_false q2
    obtain ⟨r, s1, s2, c1, c2, h2, e1, e2⟩ := hP (s 110 0 (i + 1)) 1 (hx (i + 1) (by omega) (by omega)) (Or.inr rfl) s hs
    simp only [r187_364, r187_365, r187_366, r187_367, r187_368, r187_369, r187_370, r187_371, r187_372, r187_373, r187_374, r187_375, r187_378, r187_379, r187_382, r187_383, w1, w2, b1, b2, true_and, q2, if_true, if_false]
    rw [c1]
    have d1 : (zak 110 = 0 ∧ 0 ≤ i + 1 ∧ i + 1 < zln s1 110) = True := eq_true ⟨zak110, by omega, by rw [zln110, e2, hl]; omega⟩
    have d2 : (zak 110 = 0 ∧ 0 ≤ i + 2 ∧ i + 2 < zln s1 110) = True := eq_true ⟨zak110, by omega, by rw [zln110, e2, hl]; omega⟩
    simp only [r187_386, r187_387, r187_388, r187_389, r187_390, r187_391, r187_392, r187_393, r187_394, r187_395, r187_396, r187_397, r187_400, r187_401, r187_404, r187_405, w1, w2, d1, d2, true_and, e1, q2, if_true, if_false]
    rw [c2]
    simp only [r187_408, r187_411, r187_412, if_true]
    exact kk s2 h2
theorem lc_friend {I : zS → Prop} {L : Nat} (hI : zIs I L) (hP : Pr_friend I) (hL : L ≤ 3072) {s : zS} (hs : I s) {i : Int} (h0 : 0 ≤ i) (h6 : i + 6 ≤ (L : Int)) {fs : List zFr} {Q : List zV → zS → Prop} (kk : ∀ s2, I s2 → Ev ((187, 1447, [zR 110 0, zR 10 0, zR 11 0, zI i], []) :: fs) s2 Q) : Ev ((187, 413, [zR 110 0, zR 10 0, zR 11 0, zI i], []) :: fs) s Q := by
  obtain ⟨hl, hx⟩ := hI s hs
  have w1 : w32 (i + 1) = i + 1 := w32_id (by omega) (by omega)
  have b1 : (zak 110 = 0 ∧ 0 ≤ i + 1 ∧ i + 1 < zln s 110) = True := eq_true ⟨zak110, by omega, by rw [zln110, hl]; omega⟩
  have w2 : w32 (i + 2) = i + 2 := w32_id (by omega) (by omega)
  have b2 : (zak 110 = 0 ∧ 0 ≤ i + 2 ∧ i + 2 < zln s 110) = True := eq_true ⟨zak110, by omega, by rw [zln110, hl]; omega⟩
  obtain ⟨r, s1, s2, c1, c2, h2, e1, e2⟩ := hP (s 110 0 (i + 1)) (s 110 0 (i + 2)) (hx (i + 1) (by omega) (by omega)) (hx (i + 2) (by omega) (by omega)) s hs
  simp only [r187_413, r187_414, r187_415, r187_416, r187_417, r187_418, r187_419, r187_420, r187_421, r187_422, r187_423, r187_424, w1, w2, b1, b2, true_and]
  rw [c1]
  have d1 : (zak 110 = 0 ∧ 0 ≤ i + 1 ∧ i + 1 < zln s1 110) = True := eq_true ⟨zak110, by omega, by rw [zln110, e2, hl]; omega⟩
  have d2 : (zak 110 = 0 ∧ 0 ≤ i + 2 ∧ i + 2 < zln s1 110) = True := eq_true ⟨zak110, by omega, by rw [zln110, e2, hl]; omega⟩
  simp only [r187_427, r187_428, r187_429, r187_430, r187_431, r187_432, r187_433, r187_434, r187_435, r187_436, r187_437, r187_438, w1, w2, d1, d2, true_and, e1]
  rw [c2]
  simp only [r187_441, r187_444, r187_445, if_true]
  exact kk s2 h2
theorem lc_wish {I : zS → Prop} {L : Nat} (hI : zIs I L) (hP : Pr_wish I) (hL : L ≤ 3072) {s : zS} (hs : I s) {i : Int} (h0 : 0 ≤ i) (h6 : i + 6 ≤ (L : Int)) {fs : List zFr} {Q : List zV → zS → Prop} (kk : ∀ s2, I s2 → Ev ((187, 1447, [zR 110 0, zR 10 0, zR 11 0, zI i], []) :: fs) s2 Q) : Ev ((187, 446, [zR 110 0, zR 10 0, zR 11 0, zI i], []) :: fs) s Q := by
  obtain ⟨hl, hx⟩ := hI s hs
  have w1 : w32 (i + 1) = i + 1 := w32_id (by omega) (by omega)
  have b1 : (zak 110 = 0 ∧ 0 ≤ i + 1 ∧ i + 1 < zln s 110) = True := eq_true ⟨zak110, by omega, by rw [zln110, hl]; omega⟩
  have w2 : w32 (i + 2) = i + 2 := w32_id (by omega) (by omega)
  have b2 : (zak 110 = 0 ∧ 0 ≤ i + 2 ∧ i + 2 < zln s 110) = True := eq_true ⟨zak110, by omega, by rw [zln110, hl]; omega⟩
  obtain ⟨r, s1, s2, c1, c2, h2, e1, e2⟩ := hP (s 110 0 (i + 1)) (s 110 0 (i + 2)) (hx (i + 1) (by omega) (by omega)) (hx (i + 2) (by omega) (by omega)) s hs
  simp only [r187_446, r187_447, r187_448, r187_449, r187_450, r187_451, r187_452, r187_453, r187_454, r187_455, r187_456, r187_457, w1, w2, b1, b2, true_and]
  rw [c1]
  have d1 : (zak 110 = 0 ∧ 0 ≤ i + 1 ∧ i + 1 < zln s1 110) = True := eq_true ⟨zak110, by omega, by rw [zln110, e2, hl]; omega⟩
  have d2 : (zak 110 = 0 ∧ 0 ≤ i + 2 ∧ i + 2 < zln s1 110) = True := eq_true ⟨zak110, by omega, by rw [zln110, e2, hl]; omega⟩
  simp only [r187_460, r187_461, r187_462, r187_463, r187_464, r187_465, r187_466, r187_467, r187_468, r187_469, r187_470, r187_471, w1, w2, d1, d2, true_and, e1]
  rw [c2]
  simp only [r187_474, r187_477, r187_478, if_true]
  exact kk s2 h2
theorem lc_saw {I : zS → Prop} {L : Nat} (hI : zIs I L) (hP : Pr_saw I) (hL : L ≤ 3072) {s : zS} (hs : I s) {i : Int} (h0 : 0 ≤ i) (h6 : i + 6 ≤ (L : Int)) {fs : List zFr} {Q : List zV → zS → Prop} (kk : ∀ s2, I s2 → Ev ((187, 1447, [zR 110 0, zR 10 0, zR 11 0, zI i], []) :: fs) s2 Q) : Ev ((187, 479, [zR 110 0, zR 10 0, zR 11 0, zI i], []) :: fs) s Q := by
  obtain ⟨hl, hx⟩ := hI s hs
  have w1 : w32 (i + 1) = i + 1 := w32_id (by omega) (by omega)
  have b1 : (zak 110 = 0 ∧ 0 ≤ i + 1 ∧ i + 1 < zln s 110) = True := eq_true ⟨zak110, by omega, by rw [zln110, hl]; omega⟩
  have w2 : w32 (i + 2) = i + 2 := w32_id (by omega) (by omega)
  have b2 : (zak 110 = 0 ∧ 0 ≤ i + 2 ∧ i + 2 < zln s 110) = True := eq_true ⟨zak110, by omega, by rw [zln110, hl]; omega⟩
  have w3 : w32 (i + 3) = i + 3 := w32_id (by omega) (by omega)
  have b3 : (zak 110 = 0 ∧ 0 ≤ i + 3 ∧ i + 3 < zln s 110) = True := eq_true ⟨zak110, by omega, by rw [zln110, hl]; omega⟩
  obtain ⟨r, s1, s2, c1, c2, h2, e1, e2⟩ := hP (s 110 0 (i + 1)) (s 110 0 (i + 2)) (s 110 0 (i + 3)) (hx (i + 1) (by omega) (by omega)) (hx (i + 2) (by omega) (by omega)) (hx (i + 3) (by omega) (by omega)) s hs
  simp only [r187_479, r187_480, r187_481, r187_482, r187_483, r187_484, r187_485, r187_486, r187_487, r187_488, r187_489, r187_490, r187_491, r187_492, r187_493, r187_494, r187_495, w1, w2, w3, b1, b2, b3, true_and]
  rw [c1]
  have d1 : (zak 110 = 0 ∧ 0 ≤ i + 1 ∧ i + 1 < zln s1 110) = True := eq_true ⟨zak110, by omega, by rw [zln110, e2, hl]; omega⟩
  have d2 : (zak 110 = 0 ∧ 0 ≤ i + 2 ∧ i + 2 < zln s1 110) = True := eq_true ⟨zak110, by omega, by rw [zln110, e2, hl]; omega⟩
  have d3 : (zak 110 = 0 ∧ 0 ≤ i + 3 ∧ i + 3 < zln s1 110) = True := eq_true ⟨zak110, by omega, by rw [zln110, e2, hl]; omega⟩
  simp only [r187_498, r187_499, r187_500, r187_501, r187_502, r187_503, r187_504, r187_505, r187_506, r187_507, r187_508, r187_509, r187_510, r187_511, r187_512, r187_513, r187_514, w1, w2, w3, d1, d2, d3, true_and, e1]
  rw [c2]
  simp only [r187_517, r187_520, r187_521, if_true]
  exact kk s2 h2
theorem lc_ill {I : zS → Prop} {L : Nat} (hI : zIs I L) (hP : Pr_ill I) (hL : L ≤ 3072) {s : zS} (hs : I s) {i : Int} (h0 : 0 ≤ i) (h6 : i + 6 ≤ (L : Int)) {fs : List zFr} {Q : List zV → zS → Prop} (kk : ∀ s2, I s2 → Ev ((187, 1447, [zR 110 0, zR 10 0, zR 11 0, zI i], []) :: fs) s2 Q) : Ev ((187, 522, [zR 110 0, zR 10 0, zR 11 0, zI i], []) :: fs) s Q := by
  obtain ⟨hl, hx⟩ := hI s hs
  have w1 : w32 (i + 1) = i + 1 := w32_id (by omega) (by omega)
  have b1 : (zak 110 = 0 ∧ 0 ≤ i + 1 ∧ i + 1 < zln s 110) = True := eq_true ⟨zak110, by omega, by rw [zln110, hl]; omega⟩
  have w2 : w32 (i + 2) = i + 2 := w32_id (by omega) (by omega)
  have b2 : (zak 110 = 0 ∧ 0 ≤ i + 2 ∧ i + 2 < zln s 110) = True := eq_true ⟨zak110, by omega, by rw [zln110, hl]; omega⟩
  by_cases q2 : s 110 0 (i + 2) = 0
  · have q2 : (s 110 0 (i + 2) = 0) = True := eq_true q2
    obtain ⟨r, s1, s2, c1, c2, h2, e1, e2⟩ := hP (s 110 0 (i + 1)) 0 (hx (i + 1) (by omega) (by omega)) (Or.inl rfl) s hs
    simp only [r187_522, r187_523, r187_524, r187_525, r187_526, r187_527, r187_528, r187_529, r187_530, r187_531, r187_532, r187_533, r187_536, r187_537, r187_540, r187_541, w1, w2, b1, b2, true_and, q2, if_true, if_false]
    rw [c1]
    have d1 : (zak 110 = 0 ∧ 0 ≤ i + 1 ∧ i + 1 < zln s1 110) = True := eq_true ⟨zak110, by omega, by rw [zln110, e2, hl]; omega⟩
    have d2 : (zak 110 = 0 ∧ 0 ≤ i + 2 ∧ i + 2 < zln s1 110) = True := eq_true ⟨zak110, by omega, by rw [zln110, e2, hl]; omega⟩
    simp only [r187_544, r187_545, r187_546, r187_547, r187_548, r187_549, r187_550, r187_551, r187_552, r187_553, r187_554, r187_555, r187_558, r187_559, r187_562, r187_563, w1, w2, d1, d2, true_and, e1, q2, if_true, if_false]
    rw [c2]
    simp only [r187_566, r187_569, r187_570, if_true]
    exact kk s2 h2
  · have q2 : (s 110 0 (i + 2) = 0) = False := eq_false q2
    obtain ⟨r, s1, s2, c1, c2, h2, e1, e2⟩ := hP (s 110 0 (i + 1)) 1 (hx (i + 1) (by omega) (by omega)) (Or.inr rfl) s hs
    simp only [r187_522, r187_523, r187_524, r187_525, r187_526, r187_527, r187_528, r187_529, r187_530, r187_531, r187_532, r187_533, r187_536, r187_537, r187_540, r187_541, w1, w2, b1, b2, true_and, q2, if_true, if_false]
    rw [c1]
    have d1 : (zak 110 = 0 ∧ 0 ≤ i + 1 ∧ i + 1 < zln s1 110) = True := eq_true ⟨zak110, by omega, by rw [zln110, e2, hl]; omega⟩
    have d2 : (zak 110 = 0 ∧ 0 ≤ i + 2 ∧ i + 2 < zln s1 110) = True := eq_true ⟨zak110, by omega, by rw [zln110, e2, hl]; omega⟩
    simp only [r187_544, r187_545, r187_546, r187_547, r187_548, r187_549, r187_550, r187_551, r187_552, r187_553, r187_554, r187_555, r187_558, r187_559, r187_562, r187_563, w1, w2, d1, d2, true_and, e1, q2, if_true, if_false]
    rw [c2]
    simp only [r187_566, r187_569, r187_570, if_true]
    exact kk s2 h2
theorem lc_terms {I : zS → Prop} {L : Nat} (hI : zIs I L) (hP : Pr_terms I) (hL : L ≤ 3072) {s : zS} (hs : I s) {i : Int} (h0 : 0 ≤ i) (h6 : i + 6 ≤ (L : Int)) {fs : List zFr} {Q : List zV → zS → Prop} (kk : ∀ s2, I s2 → Ev ((187, 1447, [zR 110 0, zR 10 0, zR 11 0, zI i], []) :: fs) s2 Q) : Ev ((187, 571, [zR 110 0, zR 10 0, zR 11 0, zI i], []) :: fs) s Q := by
  obtain ⟨hl, hx⟩ := hI s hs
  have w1 : w32 (i + 1) = i + 1 := w32_id (by omega) (by omega)
  have b1 : (zak 110 = 0 ∧ 0 ≤ i + 1 ∧ i + 1 < zln s 110) = True := eq_true ⟨zak110, by omega, by rw [zln110, hl]; omega⟩
  have w2 : w32 (i + 2) = i + 2 := w32_id (by omega) (by omega)
  have b2 : (zak 110 = 0 ∧ 0 ≤ i + 2 ∧ i + 2 < zln s 110) = True := eq_true ⟨zak110, by omega, by rw [zln110, hl]; omega⟩
  have w3 : w32 (i + 3) = i + 3 := w32_id (by omega) (by omega)
  have b3 : (zak 110 = 0 ∧ 0 ≤ i + 3 ∧ i + 3 < zln s 110) = True := eq_true ⟨zak110, by omega, by rw [zln110, hl]; omega⟩
  have w4 : w32 (i + 4) = i + 4 := w32_id (by omega) (by omega)
  have b4 : (zak 110 = 0 ∧ 0 ≤ i + 4 ∧ i + 4 < zln s 110) = True := eq_true ⟨zak110, by omega, by rw [zln110, hl]; omega⟩
  obtain ⟨r, s1, s2, c1, c2, h2, e1, e2⟩ := hP (s 110 0 (i + 1)) (s 110 0 (i + 2)) (s 110 0 (i + 3)) (s 110 0 (i + 4)) (hx (i + 1) (by omega) (by omega)) (hx (i + 2) (by omega) (by omega)) (hx (i + 3) (by omega) (by omega)) (hx (i + 4) (by omega) (by omega)) s hs
  simp only [r187_571, r187_572, r187_573, r187_574, r187_575, r187_576, r187_577, r187_578, r187_579, r187_580, r187_581, r187_582, r187_583, r187_584, r187_585, r187_586, r187_587, r187_588, r187_589, r187_590, r187_591, r187_592, w1, w2, w3, w4, b1, b2, b3, b4, true_and]
  rw [c1]
  have d1 : (zak 110 = 0 ∧ 0 ≤ i + 1 ∧ i + 1 < zln s1 110) = True := eq_true ⟨zak110, by omega, by rw [zln110, e2, hl]; omega⟩
  have d2 : (zak 110 = 0 ∧ 0 ≤ i + 2 ∧ i + 2 < zln s1 110) = True := eq_true ⟨zak110, by omega, by rw [zln110, e2, hl]; omega⟩
  have d3 : (zak 110 = 0 ∧ 0 ≤ i + 3 ∧ i + 3 < zln s1 110) = True := eq_true ⟨zak110, by omega, by rw [zln110, e2, hl]; omega⟩
  have d4 : (zak 110 = 0 ∧ 0 ≤ i + 4 ∧ i + 4 < zln s1 110) = True := eq_true ⟨zak110, by omega, by rw [zln110, e2, hl]; omega⟩
  simp only [r187_595, r187_596, r187_597, r187_598, r187_599, r187_600, r187_601, r187_602, r187_603, r187_604, r187_605, r187_606, r187_607, r187_608, r187_609, r187_610, r187_611, r187_612, r187_613, r187_614, r187_615, r187_616, w1, w2, w3, w4, d1, d2, d3, d4, true_and, e1]
  rw [c2]
  simp only [r187_619, r187_622, r187_623, if_true]
  exact kk s2 h2
theorem lc_level {I : zS → Prop} {L : Nat} (hI : zIs I L) (hP : Pr_level I) (hL : L ≤ 3072) {s : zS} (hs : I s) {i : Int} (h0 : 0 ≤ i) (h6 : i + 6 ≤ (L : Int)) {fs : List zFr} {Q : List zV → zS → Prop} (kk : ∀ s2, I s2 → Ev ((187, 1447, [zR 110 0, zR 10 0, zR 11 0, zI i], []) :: fs) s2 Q) : Ev ((187, 624, [zR 110 0, zR 10 0, zR 11 0, zI i], []) :: fs) s Q := by
  obtain ⟨hl, hx⟩ := hI s hs
  have w1 : w32 (i + 1) = i + 1 := w32_id (by omega) (by omega)
  have b1 : (zak 110 = 0 ∧ 0 ≤ i + 1 ∧ i + 1 < zln s 110) = True := eq_true ⟨zak110, by omega, by rw [zln110, hl]; omega⟩
  obtain ⟨r, s1, s2, c1, c2, h2, e1, e2⟩ := hP (s 110 0 (i + 1)) (hx (i + 1) (by omega) (by omega)) s hs
  simp only [r187_624, r187_625, r187_626, r187_627, r187_628, r187_629, r187_630, w1, b1, true_and]
  rw [c1]
  have d1 : (zak 110 = 0 ∧ 0 ≤ i + 1 ∧ i + 1 < zln s1 110) = True := eq_true ⟨zak110, by omega, by rw [zln110, e2, hl]; omega⟩
  simp only [r187_633, r187_634, r187_635, r187_636, r187_637, r187_638, r187_639, w1, d1, true_and, e1]
  rw [c2]
  simp only [r187_642, r187_645, r187_646, if_true]
  exact kk s2 h2
theorem lc_may {I : zS → Prop} {L : Nat} (hI : zIs I L) (hP : Pr_may I) (hL : L ≤ 3072) {s : zS} (hs : I s) {i : Int} (h0 : 0 ≤ i) (h6 : i + 6 ≤ (L : Int)) {fs : List zFr} {Q : List zV → zS → Prop} (kk : ∀ s2, I s2 → Ev ((187, 1447, [zR 110 0, zR 10 0, zR 11 0, zI i], []) :: fs) s2 Q) : Ev ((187, 647, [zR 110 0, zR 10 0, zR 11 0, zI i], []) :: fs) s Q := by
  obtain ⟨hl, hx⟩ := hI s hs
  have w1 : w32 (i + 1) = i + 1 := w32_id (by omega) (by omega)
  have b1 : (zak 110 = 0 ∧ 0 ≤ i + 1 ∧ i + 1 < zln s 110) = True := eq_true ⟨zak110, by omega, by rw [zln110, hl]; omega⟩
  have w2 : w32 (i + 2) = i + 2 := w32_id (by omega) (by omega)
  have b2 : (zak 110 = 0 ∧ 0 ≤ i + 2 ∧ i + 2 < zln s 110) = True := eq_true ⟨zak110, by omega, by rw [zln110, hl]; omega⟩
  obtain ⟨r, s1, s2, c1, c2, h2, e1, e2⟩ := hP (s 110 0 (i + 1)) (s 110 0 (i + 2)) (hx (i + 1) (by omega) (by omega)) (hx (i + 2) (by omega) (by omega)) s hs
  simp only [r187_647, r187_648, r187_649, r187_650, r187_651, r187_652, r187_653, r187_654, r187_655, r187_656, r187_657, r187_658, w1, w2, b1, b2, true_and]
  rw [c1]
  have d1 : (zak 110 = 0 ∧ 0 ≤ i + 1 ∧ i + 1 < zln s1 110) = True := eq_true ⟨zak110, by omega, by rw [zln110, e2, hl]; omega⟩
  have d2 : (zak 110 = 0 ∧ 0 ≤ i + 2 ∧ i + 2 < zln s1 110) = True := eq_true ⟨zak110, by omega, by rw [zln110, e2, hl]; omega⟩
  simp only [r187_661, r187_662, r187_663, r187_664, r187_665, r187_666, r187_667, r187_668, r187_669, r187_670, r187_671, r187_672, w1, w2, d1, d2, true_and, e1]
  rw [c2]
  simp only [r187_675, r187_678, r187_679, if_true]
  exact kk s2 h2
theorem lc_classing {I : zS → Prop} {L : Nat} (hI : zIs I L) (hP : Pr_classing I) (hL : L ≤ 3072) {s : zS} (hs : I s) {i : Int} (h0 : 0 ≤ i) (h6 : i + 6 ≤ (L : Int)) {fs : List zFr} {Q : List zV → zS → Prop} (kk : ∀ s2, I s2 → Ev ((187, 1447, [zR 110 0, zR 10 0, zR 11 0, zI i], []) :: fs) s2 Q) : Ev ((187, 680, [zR 110 0, zR 10 0, zR 11 0, zI i], []) :: fs) s Q := by
  obtain ⟨hl, hx⟩ := hI s hs
  obtain ⟨r, s1, s2, c1, c2, h2, e1, e2⟩ := hP  s hs
  simp only [r187_680, r187_681]
  rw [c1]
  simp only [r187_684, r187_685]
  rw [c2]
  simp only [r187_688, r187_691, r187_692, if_true]
  exact kk s2 h2
theorem lc_noon {I : zS → Prop} {L : Nat} (hI : zIs I L) (hP : Pr_noon I) (hL : L ≤ 3072) {s : zS} (hs : I s) {i : Int} (h0 : 0 ≤ i) (h6 : i + 6 ≤ (L : Int)) {fs : List zFr} {Q : List zV → zS → Prop} (kk : ∀ s2, I s2 → Ev ((187, 1447, [zR 110 0, zR 10 0, zR 11 0, zI i], []) :: fs) s2 Q) : Ev ((187, 693, [zR 110 0, zR 10 0, zR 11 0, zI i], []) :: fs) s Q := by
  obtain ⟨hl, hx⟩ := hI s hs
  obtain ⟨r, s1, s2, c1, c2, h2, e1, e2⟩ := hP  s hs
  simp only [r187_693, r187_694]
  rw [c1]
  simp only [r187_697, r187_698]
  rw [c2]
  simp only [r187_701, r187_704, r187_705, if_true]
  exact kk s2 h2
theorem lc_worth {I : zS → Prop} {L : Nat} (hI : zIs I L) (hP : Pr_worth I) (hL : L ≤ 3072) {s : zS} (hs : I s) {i : Int} (h0 : 0 ≤ i) (h6 : i + 6 ≤ (L : Int)) {fs : List zFr} {Q : List zV → zS → Prop} (kk : ∀ s2, I s2 → Ev ((187, 1447, [zR 110 0, zR 10 0, zR 11 0, zI i], []) :: fs) s2 Q) : Ev ((187, 706, [zR 110 0, zR 10 0, zR 11 0, zI i], []) :: fs) s Q := by
  obtain ⟨hl, hx⟩ := hI s hs
  obtain ⟨r, s1, s2, c1, c2, h2, e1, e2⟩ := hP  s hs
  simp only [r187_706, r187_707]
  rw [c1]
  simp only [r187_710, r187_711]
  rw [c2]
  simp only [r187_714, r187_717, r187_718, if_true]
  exact kk s2 h2
theorem lc_set {I : zS → Prop} {L : Nat} (hI : zIs I L) (hP : Pr_set I) (hL : L ≤ 3072) {s : zS} (hs : I s) {i : Int} (h0 : 0 ≤ i) (h6 : i + 6 ≤ (L : Int)) {fs : List zFr} {Q : List zV → zS → Prop} (kk : ∀ s2, I s2 → Ev ((187, 1447, [zR 110 0, zR 10 0, zR 11 0, zI i], []) :: fs) s2 Q) : Ev ((187, 719, [zR 110 0, zR 10 0, zR 11 0, zI i], []) :: fs) s Q := by
  obtain ⟨hl, hx⟩ := hI s hs
  have w1 : w32 (i + 1) = i + 1 := w32_id (by omega) (by omega)
  have b1 : (zak 110 = 0 ∧ 0 ≤ i + 1 ∧ i + 1 < zln s 110) = True := eq_true ⟨zak110, by omega, by rw [zln110, hl]; omega⟩
  obtain ⟨r, s1, s2, c1, c2, h2, e1, e2⟩ := hP (s 110 0 (i + 1)) (hx (i + 1) (by omega) (by omega)) s hs
  simp only [r187_719, r187_720, r187_721, r187_722, r187_723, r187_724, r187_725, w1, b1, true_and]
  rw [c1]
  have d1 : (zak 110 = 0 ∧ 0 ≤ i + 1 ∧ i + 1 < zln s1 110) = True := eq_true ⟨zak110, by omega, by rw [zln110, e2, hl]; omega⟩
  simp only [r187_728, r187_729, r187_730, r187_731, r187_732, r187_733, r187_734, w1, d1, true_and, e1]
  rw [c2]
  simp only [r187_737, r187_740, r187_741, if_true]
  exact kk s2 h2
theorem lc_lift {I : zS → Prop} {L : Nat} (hI : zIs I L) (hP : Pr_lift I) (hL : L ≤ 3072) {s : zS} (hs : I s) {i : Int} (h0 : 0 ≤ i) (h6 : i + 6 ≤ (L : Int)) {fs : List zFr} {Q : List zV → zS → Prop} (kk : ∀ s2, I s2 → Ev ((187, 1447, [zR 110 0, zR 10 0, zR 11 0, zI i], []) :: fs) s2 Q) : Ev ((187, 742, [zR 110 0, zR 10 0, zR 11 0, zI i], []) :: fs) s Q := by
  obtain ⟨hl, hx⟩ := hI s hs
  have w1 : w32 (i + 1) = i + 1 := w32_id (by omega) (by omega)
  have b1 : (zak 110 = 0 ∧ 0 ≤ i + 1 ∧ i + 1 < zln s 110) = True := eq_true ⟨zak110, by omega, by rw [zln110, hl]; omega⟩
  have w2 : w32 (i + 2) = i + 2 := w32_id (by omega) (by omega)
  have b2 : (zak 110 = 0 ∧ 0 ≤ i + 2 ∧ i + 2 < zln s 110) = True := eq_true ⟨zak110, by omega, by rw [zln110, hl]; omega⟩
  obtain ⟨r, s1, s2, c1, c2, h2, e1, e2⟩ := hP (s 110 0 (i + 1)) (s 110 0 (i + 2)) (hx (i + 1) (by omega) (by omega)) (hx (i + 2) (by omega) (by omega)) s hs
  simp only [r187_742, r187_743, r187_744, r187_745, r187_746, r187_747, r187_748, r187_749, r187_750, r187_751, r187_752, r187_753, w1, w2, b1, b2, true_and]
  rw [c1]
  have d1 : (zak 110 = 0 ∧ 0 ≤ i + 1 ∧ i + 1 < zln s1 110) = True := eq_true ⟨zak110, by omega, by rw [zln110, e2, hl]; omega⟩
  have d2 : (zak 110 = 0 ∧ 0 ≤ i + 2 ∧ i + 2 < zln s1 110) = True := eq_true ⟨zak110, by omega, by rw [zln110, e2, hl]; omega⟩
  simp only [r187_756, r187_757, r187_758, r187_759, r187_760, r187_761, r187_762, r187_763, r187_764, r187_765, r187_766, r187_767, w1, w2, d1, d2, true_and, e1]
  rw [c2]
  simp only [r187_770, r187_773, r187_774, if_true]
  exact kk s2 h2
theorem lc_slope {I : zS → Prop} {L : Nat} (hI : zIs I L) (hP : Pr_slope I) (hL : L ≤ 3072) {s : zS} (hs : I s) {i : Int} (h0 : 0 ≤ i) (h6 : i + 6 ≤ (L : Int)) {fs : List zFr} {Q : List zV → zS → Prop} (kk : ∀ s2, I s2 → Ev ((187, 1447, [zR 110 0, zR 10 0, zR 11 0, zI i], []) :: fs) s2 Q) : Ev ((187, 775, [zR 110 0, zR 10 0, zR 11 0, zI i], []) :: fs) s Q := by
  obtain ⟨hl, hx⟩ := hI s hs
  have w1 : w32 (i + 1) = i + 1 := w32_id (by omega) (by omega)
  have b1 : (zak 110 = 0 ∧ 0 ≤ i + 1 ∧ i + 1 < zln s 110) = True := eq_true ⟨zak110, by omega, by rw [zln110, hl]; omega⟩
  have w2 : w32 (i + 2) = i + 2 := w32_id (by omega) (by omega)
  have b2 : (zak 110 = 0 ∧ 0 ≤ i + 2 ∧ i + 2 < zln s 110) = True := eq_true ⟨zak110, by omega, by rw [zln110, hl]; omega⟩
  have w3 : w32 (i + 3) = i + 3 := w32_id (by omega) (by omega)
  have b3 : (zak 110 = 0 ∧ 0 ≤ i + 3 ∧ i + 3 < zln s 110) = True := eq_true ⟨zak110, by omega, by rw [zln110, hl]; omega⟩
  obtain ⟨r, s1, s2, c1, c2, h2, e1, e2⟩ := hP (s 110 0 (i + 1)) (s 110 0 (i + 2)) (s 110 0 (i + 3)) (hx (i + 1) (by omega) (by omega)) (hx (i + 2) (by omega) (by omega)) (hx (i + 3) (by omega) (by omega)) s hs
  simp only [r187_775, r187_776, r187_777, r187_778, r187_779, r187_780, r187_781, r187_782, r187_783, r187_784, r187_785, r187_786, r187_787, r187_788, r187_789, r187_790, r187_791, w1, w2, w3, b1, b2, b3, true_and]
  rw [c1]
  have d1 : (zak 110 = 0 ∧ 0 ≤ i + 1 ∧ i + 1 < zln s1 110) = True := eq_true ⟨zak110, by omega, by rw [zln110, e2, hl]; omega⟩
  have d2 : (zak 110 = 0 ∧ 0 ≤ i + 2 ∧ i + 2 < zln s1 110) = True := eq_true ⟨zak110, by omega, by rw [zln110, e2, hl]; omega⟩
  have d3 : (zak 110 = 0 ∧ 0 ≤ i + 3 ∧ i + 3 < zln s1 110) = True := eq_true ⟨zak110, by omega, by rw [zln110, e2, hl]; omega⟩
  simp only [r187_794, r187_795, r187_796, r187_797, r187_798, r187_799, r187_800, r187_801, r187_802, r187_803, r187_804, r187_805, r187_806, r187_807, r187_808, r187_809, r187_810, w1, w2, w3, d1, d2, d3, true_and, e1]
  rw [c2]
  simp only [r187_813, r187_816, r187_817, if_true]
  exact kk s2 h2
theorem lc_stop {I : zS → Prop} {L : Nat} (hI : zIs I L) (hP : Pr_stop I) (hL : L ≤ 3072) {s : zS} (hs : I s) {i : Int} (h0 : 0 ≤ i) (h6 : i + 6 ≤ (L : Int)) {fs : List zFr} {Q : List zV → zS → Prop} (kk : ∀ s2, I s2 → Ev ((187, 1447, [zR 110 0, zR 10 0, zR 11 0, zI i], []) :: fs) s2 Q) : Ev ((187, 818, [zR 110 0, zR 10 0, zR 11 0, zI i], []) :: fs) s Q := by
  obtain ⟨hl, hx⟩ := hI s hs
  have w1 : w32 (i + 1) = i + 1 := w32_id (by omega) (by omega)
  have b1 : (zak 110 = 0 ∧ 0 ≤ i + 1 ∧ i + 1 < zln s 110) = True := eq_true ⟨zak110, by omega, by rw [zln110, hl]; omega⟩
  have w2 : w32 (i + 2) = i + 2 := w32_id (by omega) (by omega)
  have b2 : (zak 110 = 0 ∧ 0 ≤ i + 2 ∧ i + 2 < zln s 110) = True := eq_true ⟨zak110, by omega, by rw [zln110, hl]; omega⟩
  by_cases q2 : s 110 0 (i + 2) = 0
  · have q2 : (s 110 0 (i + 2) = 0) = True := eq_true q2
    obtain ⟨r, s1, s2, c1, c2, h2, e1, e2⟩ := hP (s 110 0 (i + 1)) 0 (hx (i + 1) (by omega) (by omega)) (Or.inl rfl) s hs
    simp only [r187_818, r187_819, r187_820, r187_821, r187_822, r187_823, r187_824, r187_825, r187_826, r187_827, r187_828, r187_829, r187_832, r187_833, r187_836, r187_837, w1, w2, b1, b2, true_and, q2, if_true, if_false]
    rw [c1]
    have d1 : (zak 110 = 0 ∧ 0 ≤ i + 1 ∧ i + 1 < zln s1 110) = True := eq_true ⟨zak110, by omega, by rw [zln110, e2, hl]; omega⟩
    have d2 : (zak 110 = 0 ∧ 0 ≤ i + 2 ∧ i + 2 < zln s1 110) = True := eq_true ⟨zak110, by omega, by rw [zln110, e2, hl]; omega⟩
    simp only [r187_840, r187_841, r187_842, r187_843, r187_844, r187_845, r187_846, r187_847, r187_848, r187_849, r187_850, r187_851, r187_854, r187_855, r187_858, r187_859, w1, w2, d1, d2, true_and, e1, q2, if_true, if_false]
    rw [c2]
    simp only [r187_862, r187_865, r187_866, if_true]
    exact kk s2 h2
  · have q2 : (s 110 0 (i + 2) = 0) = False := eq_false q2
    obtain ⟨r, s1, s2, c1, c2, h2, e1, e2⟩ := hP (s 110 0 (i + 1)) 1 (hx (i + 1) (by omega) (by omega)) (Or.inr rfl) s hs
    simp only [r187_818, r187_819, r187_820, r187_821, r187_822, r187_823, r187_824, r187_825, r187_826, r187_827, r187_828, r187_829, r187_832, r187_833, r187_836, r187_837, w1, w2, b1, b2, true_and, q2, if_true, if_false]
    rw [c1]
    have d1 : (zak 110 = 0 ∧ 0 ≤ i + 1 ∧ i + 1 < zln s1 110) = True := eq_true ⟨zak110, by omega, by rw [zln110, e2, hl]; omega⟩
    have d2 : (zak 110 = 0 ∧ 0 ≤ i + 2 ∧ i + 2 < zln s1 110) = True := eq_true ⟨zak110, by omega, by rw [zln110, e2, hl]; omega⟩
    simp only [r187_840, r187_841, r187_842, r187_843, r187_844, r187_845, r187_846, r187_847, r187_848, r187_849, r187_850, r187_851, r187_854, r187_855, r187_858, r187_859, w1, w2, d1, d2, true_and, e1, q2, if_true, if_false]
    rw [c2]
    simp only [r187_862, r187_865, r187_866, if_true]
    exact kk s2 h2
theorem lc_meeting {I : zS → Prop} {L : Nat} (hI : zIs I L) (hP : Pr_meeting I) (hL : L ≤ 3072) {s : zS} (hs : I s) {i : Int} (h0 : 0 ≤ i) (h6 : i + 6 ≤ (L : Int)) {fs : List zFr} {Q : List zV → zS → Prop} (kk : ∀ s2, I s2 → Ev ((187, 1447, [zR 110 0, zR 10 0, zR 11 0, zI i], []) :: fs) s2 Q) : Ev ((187, 867, [zR 110 0, zR 10 0, zR 11 0, zI i], []) :: fs) s Q := by
  obtain ⟨hl, hx⟩ := hI s hs
  have w1 : w32 (i + 1) = i + 1 := w32_id (by omega) (by omega)
  have b1 : (zak 110 = 0 ∧ 0 ≤ i + 1 ∧ i + 1 < zln s 110) = True := eq_true ⟨zak110, by omega, by rw [zln110, hl]; omega⟩
  obtain ⟨r, s1, s2, c1, c2, h2, e1, e2⟩ := hP (s 110 0 (i + 1)) (hx (i + 1) (by omega) (by omega)) s hs
  simp only [r187_867, r187_868, r187_869, r187_870, r187_871, r187_872, r187_873, w1, b1, true_and]
  rw [c1]
  have d1 : (zak 110 = 0 ∧ 0 ≤ i + 1 ∧ i + 1 < zln s1 110) = True := eq_true ⟨zak110, by omega, by rw [zln110, e2, hl]; omega⟩
  simp only [r187_876, r187_877, r187_878, r187_879, r187_880, r187_881, r187_882, w1, d1, true_and, e1]
  rw [c2]
  simp only [r187_885, r187_888, r187_889, if_true]
  exact kk s2 h2
theorem lc_serves {I : zS → Prop} {L : Nat} (hI : zIs I L) (hP : Pr_serves I) (hL : L ≤ 3072) {s : zS} (hs : I s) {i : Int} (h0 : 0 ≤ i) (h6 : i + 6 ≤ (L : Int)) {fs : List zFr} {Q : List zV → zS → Prop} (kk : ∀ s2, I s2 → Ev ((187, 1447, [zR 110 0, zR 10 0, zR 11 0, zI i], []) :: fs) s2 Q) : Ev ((187, 890, [zR 110 0, zR 10 0, zR 11 0, zI i], []) :: fs) s Q := by
  obtain ⟨hl, hx⟩ := hI s hs
  have w1 : w32 (i + 1) = i + 1 := w32_id (by omega) (by omega)
  have b1 : (zak 110 = 0 ∧ 0 ≤ i + 1 ∧ i + 1 < zln s 110) = True := eq_true ⟨zak110, by omega, by rw [zln110, hl]; omega⟩
  obtain ⟨r, s1, s2, c1, c2, h2, e1, e2⟩ := hP (s 110 0 (i + 1)) (hx (i + 1) (by omega) (by omega)) s hs
  simp only [r187_890, r187_891, r187_892, r187_893, r187_894, r187_895, r187_896, w1, b1, true_and]
  rw [c1]
  have d1 : (zak 110 = 0 ∧ 0 ≤ i + 1 ∧ i + 1 < zln s1 110) = True := eq_true ⟨zak110, by omega, by rw [zln110, e2, hl]; omega⟩
  simp only [r187_899, r187_900, r187_901, r187_902, r187_903, r187_904, r187_905, w1, d1, true_and, e1]
  rw [c2]
  simp only [r187_908, r187_911, r187_912, if_true]
  exact kk s2 h2
theorem lc_stranded {I : zS → Prop} {L : Nat} (hI : zIs I L) (hP : Pr_stranded I) (hL : L ≤ 3072) {s : zS} (hs : I s) {i : Int} (h0 : 0 ≤ i) (h6 : i + 6 ≤ (L : Int)) {fs : List zFr} {Q : List zV → zS → Prop} (kk : ∀ s2, I s2 → Ev ((187, 1447, [zR 110 0, zR 10 0, zR 11 0, zI i], []) :: fs) s2 Q) : Ev ((187, 913, [zR 110 0, zR 10 0, zR 11 0, zI i], []) :: fs) s Q := by
  obtain ⟨hl, hx⟩ := hI s hs
  have w1 : w32 (i + 1) = i + 1 := w32_id (by omega) (by omega)
  have b1 : (zak 110 = 0 ∧ 0 ≤ i + 1 ∧ i + 1 < zln s 110) = True := eq_true ⟨zak110, by omega, by rw [zln110, hl]; omega⟩
  have w2 : w32 (i + 2) = i + 2 := w32_id (by omega) (by omega)
  have b2 : (zak 110 = 0 ∧ 0 ≤ i + 2 ∧ i + 2 < zln s 110) = True := eq_true ⟨zak110, by omega, by rw [zln110, hl]; omega⟩
  obtain ⟨r, s1, s2, c1, c2, h2, e1, e2⟩ := hP (s 110 0 (i + 1)) (s 110 0 (i + 2)) (hx (i + 1) (by omega) (by omega)) (hx (i + 2) (by omega) (by omega)) s hs
  simp only [r187_913, r187_914, r187_915, r187_916, r187_917, r187_918, r187_919, r187_920, r187_921, r187_922, r187_923, r187_924, w1, w2, b1, b2, true_and]
  rw [c1]
  have d1 : (zak 110 = 0 ∧ 0 ≤ i + 1 ∧ i + 1 < zln s1 110) = True := eq_true ⟨zak110, by omega, by rw [zln110, e2, hl]; omega⟩
  have d2 : (zak 110 = 0 ∧ 0 ≤ i + 2 ∧ i + 2 < zln s1 110) = True := eq_true ⟨zak110, by omega, by rw [zln110, e2, hl]; omega⟩
  simp only [r187_927, r187_928, r187_929, r187_930, r187_931, r187_932, r187_933, r187_934, r187_935, r187_936, r187_937, r187_938, w1, w2, d1, d2, true_and, e1]
  rw [c2]
  simp only [r187_941, r187_944, r187_945, if_true]
  exact kk s2 h2
theorem lc_name {I : zS → Prop} {L : Nat} (hI : zIs I L) (hP : Pr_name I) (hL : L ≤ 3072) {s : zS} (hs : I s) {i : Int} (h0 : 0 ≤ i) (h6 : i + 6 ≤ (L : Int)) {fs : List zFr} {Q : List zV → zS → Prop} (kk : ∀ s2, I s2 → Ev ((187, 1447, [zR 110 0, zR 10 0, zR 11 0, zI i], []) :: fs) s2 Q) : Ev ((187, 946, [zR 110 0, zR 10 0, zR 11 0, zI i], []) :: fs) s Q := by
  obtain ⟨hl, hx⟩ := hI s hs
  have w1 : w32 (i + 1) = i + 1 := w32_id (by omega) (by omega)
  have b1 : (zak 110 = 0 ∧ 0 ≤ i + 1 ∧ i + 1 < zln s 110) = True := eq_true ⟨zak110, by omega, by rw [zln110, hl]; omega⟩
  have w2 : w32 (i + 2) = i + 2 := w32_id (by omega) (by omega)
  have b2 : (zak 110 = 0 ∧ 0 ≤ i + 2 ∧ i + 2 < zln s 110) = True := eq_true ⟨zak110, by omega, by rw [zln110, hl]; omega⟩
  obtain ⟨r, s1, s2, c1, c2, h2, e1, e2⟩ := hP (s 110 0 (i + 1)) (s 110 0 (i + 2)) (hx (i + 1) (by omega) (by omega)) (hx (i + 2) (by omega) (by omega)) s hs
  simp only [r187_946, r187_947, r187_948, r187_949, r187_950, r187_951, r187_952, r187_953, r187_954, r187_955, r187_956, r187_957, w1, w2, b1, b2, true_and]
  rw [c1]
  have d1 : (zak 110 = 0 ∧ 0 ≤ i + 1 ∧ i + 1 < zln s1 110) = True := eq_true ⟨zak110, by omega, by rw [zln110, e2, hl]; omega⟩
  have d2 : (zak 110 = 0 ∧ 0 ≤ i + 2 ∧ i + 2 < zln s1 110) = True := eq_true ⟨zak110, by omega, by rw [zln110, e2, hl]; omega⟩
  simp only [r187_960, r187_961, r187_962, r187_963, r187_964, r187_965, r187_966, r187_967, r187_968, r187_969, r187_970, r187_971, w1, w2, d1, d2, true_and, e1]
  rw [c2]
  simp only [r187_974, r187_977, r187_978, if_true]
  exact kk s2 h2
theorem lc_hand {I : zS → Prop} {L : Nat} (hI : zIs I L) (hP : Pr_hand I) (hL : L ≤ 3072) {s : zS} (hs : I s) {i : Int} (h0 : 0 ≤ i) (h6 : i + 6 ≤ (L : Int)) {fs : List zFr} {Q : List zV → zS → Prop} (kk : ∀ s2, I s2 → Ev ((187, 1447, [zR 110 0, zR 10 0, zR 11 0, zI i], []) :: fs) s2 Q) : Ev ((187, 979, [zR 110 0, zR 10 0, zR 11 0, zI i], []) :: fs) s Q := by
  obtain ⟨hl, hx⟩ := hI s hs
  have w1 : w32 (i + 1) = i + 1 := w32_id (by omega) (by omega)
  have b1 : (zak 110 = 0 ∧ 0 ≤ i + 1 ∧ i + 1 < zln s 110) = True := eq_true ⟨zak110, by omega, by rw [zln110, hl]; omega⟩
  have w2 : w32 (i + 2) = i + 2 := w32_id (by omega) (by omega)
  have b2 : (zak 110 = 0 ∧ 0 ≤ i + 2 ∧ i + 2 < zln s 110) = True := eq_true ⟨zak110, by omega, by rw [zln110, hl]; omega⟩
  obtain ⟨r, s1, s2, c1, c2, h2, e1, e2⟩ := hP (s 110 0 (i + 1)) (s 110 0 (i + 2)) (hx (i + 1) (by omega) (by omega)) (hx (i + 2) (by omega) (by omega)) s hs
  simp only [r187_979, r187_980, r187_981, r187_982, r187_983, r187_984, r187_985, r187_986, r187_987, r187_988, r187_989, r187_990, w1, w2, b1, b2, true_and]
  rw [c1]
  have d1 : (zak 110 = 0 ∧ 0 ≤ i + 1 ∧ i + 1 < zln s1 110) = True := eq_true ⟨zak110, by omega, by rw [zln110, e2, hl]; omega⟩
  have d2 : (zak 110 = 0 ∧ 0 ≤ i + 2 ∧ i + 2 < zln s1 110) = True := eq_true ⟨zak110, by omega, by rw [zln110, e2, hl]; omega⟩
  simp only [r187_993, r187_994, r187_995, r187_996, r187_997, r187_998, r187_999, r187_1000, r187_1001, r187_1002, r187_1003, r187_1004, w1, w2, d1, d2, true_and, e1]
  rw [c2]
  simp only [r187_1007, r187_1010, r187_1011, if_true]
  exact kk s2 h2
theorem lc_back {I : zS → Prop} {L : Nat} (hI : zIs I L) (hP : Pr_back I) (hL : L ≤ 3072) {s : zS} (hs : I s) {i : Int} (h0 : 0 ≤ i) (h6 : i + 6 ≤ (L : Int)) {fs : List zFr} {Q : List zV → zS → Prop} (kk : ∀ s2, I s2 → Ev ((187, 1447, [zR 110 0, zR 10 0, zR 11 0, zI i], []) :: fs) s2 Q) : Ev ((187, 1012, [zR 110 0, zR 10 0, zR 11 0, zI i], []) :: fs) s Q := by
  obtain ⟨hl, hx⟩ := hI s hs
  have w1 : w32 (i + 1) = i + 1 := w32_id (by omega) (by omega)
  have b1 : (zak 110 = 0 ∧ 0 ≤ i + 1 ∧ i + 1 < zln s 110) = True := eq_true ⟨zak110, by omega, by rw [zln110, hl]; omega⟩
  obtain ⟨r, s1, s2, c1, c2, h2, e1, e2⟩ := hP (s 110 0 (i + 1)) (hx (i + 1) (by omega) (by omega)) s hs
  simp only [r187_1012, r187_1013, r187_1014, r187_1015, r187_1016, r187_1017, r187_1018, w1, b1, true_and]
  rw [c1]
  have d1 : (zak 110 = 0 ∧ 0 ≤ i + 1 ∧ i + 1 < zln s1 110) = True := eq_true ⟨zak110, by omega, by rw [zln110, e2, hl]; omega⟩
  simp only [r187_1021, r187_1022, r187_1023, r187_1024, r187_1025, r187_1026, r187_1027, w1, d1, true_and, e1]
  rw [c2]
  simp only [r187_1030, r187_1033, r187_1034, if_true]
  exact kk s2 h2
theorem lc_left {I : zS → Prop} {L : Nat} (hI : zIs I L) (hP : Pr_left I) (hL : L ≤ 3072) {s : zS} (hs : I s) {i : Int} (h0 : 0 ≤ i) (h6 : i + 6 ≤ (L : Int)) {fs : List zFr} {Q : List zV → zS → Prop} (kk : ∀ s2, I s2 → Ev ((187, 1447, [zR 110 0, zR 10 0, zR 11 0, zI i], []) :: fs) s2 Q) : Ev ((187, 1035, [zR 110 0, zR 10 0, zR 11 0, zI i], []) :: fs) s Q := by
  obtain ⟨hl, hx⟩ := hI s hs
  obtain ⟨r, s1, s2, c1, c2, h2, e1, e2⟩ := hP  s hs
  simp only [r187_1035, r187_1036]
  rw [c1]
  simp only [r187_1039, r187_1040]
  rw [c2]
  simp only [r187_1043, r187_1046, r187_1047, if_true]
  exact kk s2 h2
theorem lc_ask {I : zS → Prop} {L : Nat} (hI : zIs I L) (hP : Pr_ask I) (hL : L ≤ 3072) {s : zS} (hs : I s) {i : Int} (h0 : 0 ≤ i) (h6 : i + 6 ≤ (L : Int)) {fs : List zFr} {Q : List zV → zS → Prop} (kk : ∀ s2, I s2 → Ev ((187, 1447, [zR 110 0, zR 10 0, zR 11 0, zI i], []) :: fs) s2 Q) : Ev ((187, 1048, [zR 110 0, zR 10 0, zR 11 0, zI i], []) :: fs) s Q := by
  obtain ⟨hl, hx⟩ := hI s hs
  have w1 : w32 (i + 1) = i + 1 := w32_id (by omega) (by omega)
  have b1 : (zak 110 = 0 ∧ 0 ≤ i + 1 ∧ i + 1 < zln s 110) = True := eq_true ⟨zak110, by omega, by rw [zln110, hl]; omega⟩
  have w2 : w32 (i + 2) = i + 2 := w32_id (by omega) (by omega)
  have b2 : (zak 110 = 0 ∧ 0 ≤ i + 2 ∧ i + 2 < zln s 110) = True := eq_true ⟨zak110, by omega, by rw [zln110, hl]; omega⟩
  have w3 : w32 (i + 3) = i + 3 := w32_id (by omega) (by omega)
  have b3 : (zak 110 = 0 ∧ 0 ≤ i + 3 ∧ i + 3 < zln s 110) = True := eq_true ⟨zak110, by omega, by rw [zln110, hl]; omega⟩
  have w4 : w32 (i + 4) = i + 4 := w32_id (by omega) (by omega)
  have b4 : (zak 110 = 0 ∧ 0 ≤ i + 4 ∧ i + 4 < zln s 110) = True := eq_true ⟨zak110, by omega, by rw [zln110, hl]; omega⟩
  obtain ⟨r, s1, s2, c1, c2, h2, e1, e2⟩ := hP (s 110 0 (i + 1)) (s 110 0 (i + 2)) (s 110 0 (i + 3)) (s 110 0 (i + 4)) (hx (i + 1) (by omega) (by omega)) (hx (i + 2) (by omega) (by omega)) (hx (i + 3) (by omega) (by omega)) (hx (i + 4) (by omega) (by omega)) s hs
  simp only [r187_1048, r187_1049, r187_1050, r187_1051, r187_1052, r187_1053, r187_1054, r187_1055, r187_1056, r187_1057, r187_1058, r187_1059, r187_1060, r187_1061, r187_1062, r187_1063, r187_1064, r187_1065, r187_1066, r187_1067, r187_1068, r187_1069, w1, w2, w3, w4, b1, b2, b3, b4, true_and]
  rw [c1]
  have d1 : (zak 110 = 0 ∧ 0 ≤ i + 1 ∧ i + 1 < zln s1 110) = True := eq_true ⟨zak110, by omega, by rw [zln110, e2, hl]; omega⟩
  have d2 : (zak 110 = 0 ∧ 0 ≤ i + 2 ∧ i + 2 < zln s1 110) = True := eq_true ⟨zak110, by omega, by rw [zln110, e2, hl]; omega⟩
  have d3 : (zak 110 = 0 ∧ 0 ≤ i + 3 ∧ i + 3 < zln s1 110) = True := eq_true ⟨zak110, by omega, by rw [zln110, e2, hl]; omega⟩
  have d4 : (zak 110 = 0 ∧ 0 ≤ i + 4 ∧ i + 4 < zln s1 110) = True := eq_true ⟨zak110, by omega, by rw [zln110, e2, hl]; omega⟩
  simp only [r187_1072, r187_1073, r187_1074, r187_1075, r187_1076, r187_1077, r187_1078, r187_1079, r187_1080, r187_1081, r187_1082, r187_1083, r187_1084, r187_1085, r187_1086, r187_1087, r187_1088, r187_1089, r187_1090, r187_1091, r187_1092, r187_1093, w1, w2, w3, w4, d1, d2, d3, d4, true_and, e1]
  rw [c2]
  simp only [r187_1096, r187_1099, r187_1100, if_true]
  exact kk s2 h2
theorem lc_hours {I : zS → Prop} {L : Nat} (hI : zIs I L) (hP : Pr_hours I) (hL : L ≤ 3072) {s : zS} (hs : I s) {i : Int} (h0 : 0 ≤ i) (h6 : i + 6 ≤ (L : Int)) {fs : List zFr} {Q : List zV → zS → Prop} (kk : ∀ s2, I s2 → Ev ((187, 1447, [zR 110 0, zR 10 0, zR 11 0, zI i], []) :: fs) s2 Q) : Ev ((187, 1101, [zR 110 0, zR 10 0, zR 11 0, zI i], []) :: fs) s Q := by
  obtain ⟨hl, hx⟩ := hI s hs
  have w1 : w32 (i + 1) = i + 1 := w32_id (by omega) (by omega)
  have b1 : (zak 110 = 0 ∧ 0 ≤ i + 1 ∧ i + 1 < zln s 110) = True := eq_true ⟨zak110, by omega, by rw [zln110, hl]; omega⟩
  have w2 : w32 (i + 2) = i + 2 := w32_id (by omega) (by omega)
  have b2 : (zak 110 = 0 ∧ 0 ≤ i + 2 ∧ i + 2 < zln s 110) = True := eq_true ⟨zak110, by omega, by rw [zln110, hl]; omega⟩
  obtain ⟨r, s1, s2, c1, c2, h2, e1, e2⟩ := hP (s 110 0 (i + 1)) (s 110 0 (i + 2)) (hx (i + 1) (by omega) (by omega)) (hx (i + 2) (by omega) (by omega)) s hs
  simp only [r187_1101, r187_1102, r187_1103, r187_1104, r187_1105, r187_1106, r187_1107, r187_1108, r187_1109, r187_1110, r187_1111, r187_1112, w1, w2, b1, b2, true_and]
  rw [c1]
  have d1 : (zak 110 = 0 ∧ 0 ≤ i + 1 ∧ i + 1 < zln s1 110) = True := eq_true ⟨zak110, by omega, by rw [zln110, e2, hl]; omega⟩
  have d2 : (zak 110 = 0 ∧ 0 ≤ i + 2 ∧ i + 2 < zln s1 110) = True := eq_true ⟨zak110, by omega, by rw [zln110, e2, hl]; omega⟩
  simp only [r187_1115, r187_1116, r187_1117, r187_1118, r187_1119, r187_1120, r187_1121, r187_1122, r187_1123, r187_1124, r187_1125, r187_1126, w1, w2, d1, d2, true_and, e1]
  rw [c2]
  simp only [r187_1129, r187_1132, r187_1133, if_true]
  exact kk s2 h2
theorem lc_book {I : zS → Prop} {L : Nat} (hI : zIs I L) (hP : Pr_book I) (hL : L ≤ 3072) {s : zS} (hs : I s) {i : Int} (h0 : 0 ≤ i) (h6 : i + 6 ≤ (L : Int)) {fs : List zFr} {Q : List zV → zS → Prop} (kk : ∀ s2, I s2 → Ev ((187, 1447, [zR 110 0, zR 10 0, zR 11 0, zI i], []) :: fs) s2 Q) : Ev ((187, 1134, [zR 110 0, zR 10 0, zR 11 0, zI i], []) :: fs) s Q := by
  obtain ⟨hl, hx⟩ := hI s hs
  have w1 : w32 (i + 1) = i + 1 := w32_id (by omega) (by omega)
  have b1 : (zak 110 = 0 ∧ 0 ≤ i + 1 ∧ i + 1 < zln s 110) = True := eq_true ⟨zak110, by omega, by rw [zln110, hl]; omega⟩
  obtain ⟨r, s1, s2, c1, c2, h2, e1, e2⟩ := hP (s 110 0 (i + 1)) (hx (i + 1) (by omega) (by omega)) s hs
  simp only [r187_1134, r187_1135, r187_1136, r187_1137, r187_1138, r187_1139, r187_1140, w1, b1, true_and]
  rw [c1]
  have d1 : (zak 110 = 0 ∧ 0 ≤ i + 1 ∧ i + 1 < zln s1 110) = True := eq_true ⟨zak110, by omega, by rw [zln110, e2, hl]; omega⟩
  simp only [r187_1143, r187_1144, r187_1145, r187_1146, r187_1147, r187_1148, r187_1149, w1, d1, true_and, e1]
  rw [c2]
  simp only [r187_1152, r187_1155, r187_1156, if_true]
  exact kk s2 h2
theorem lc_open {I : zS → Prop} {L : Nat} (hI : zIs I L) (hP : Pr_open I) (hL : L ≤ 3072) {s : zS} (hs : I s) {i : Int} (h0 : 0 ≤ i) (h6 : i + 6 ≤ (L : Int)) {fs : List zFr} {Q : List zV → zS → Prop} (kk : ∀ s2, I s2 → Ev ((187, 1447, [zR 110 0, zR 10 0, zR 11 0, zI i], []) :: fs) s2 Q) : Ev ((187, 1157, [zR 110 0, zR 10 0, zR 11 0, zI i], []) :: fs) s Q := by
  obtain ⟨hl, hx⟩ := hI s hs
  have w1 : w32 (i + 1) = i + 1 := w32_id (by omega) (by omega)
  have b1 : (zak 110 = 0 ∧ 0 ≤ i + 1 ∧ i + 1 < zln s 110) = True := eq_true ⟨zak110, by omega, by rw [zln110, hl]; omega⟩
  obtain ⟨r, s1, s2, c1, c2, h2, e1, e2⟩ := hP (s 110 0 (i + 1)) (hx (i + 1) (by omega) (by omega)) s hs
  simp only [r187_1157, r187_1158, r187_1159, r187_1160, r187_1161, r187_1162, r187_1163, w1, b1, true_and]
  rw [c1]
  have d1 : (zak 110 = 0 ∧ 0 ≤ i + 1 ∧ i + 1 < zln s1 110) = True := eq_true ⟨zak110, by omega, by rw [zln110, e2, hl]; omega⟩
  simp only [r187_1166, r187_1167, r187_1168, r187_1169, r187_1170, r187_1171, r187_1172, w1, d1, true_and, e1]
  rw [c2]
  simp only [r187_1175, r187_1178, r187_1179, if_true]
  exact kk s2 h2
theorem lc_choice {I : zS → Prop} {L : Nat} (hI : zIs I L) (hP : Pr_choice I) (hL : L ≤ 3072) {s : zS} (hs : I s) {i : Int} (h0 : 0 ≤ i) (h6 : i + 6 ≤ (L : Int)) {fs : List zFr} {Q : List zV → zS → Prop} (kk : ∀ s2, I s2 → Ev ((187, 1447, [zR 110 0, zR 10 0, zR 11 0, zI i], []) :: fs) s2 Q) : Ev ((187, 1180, [zR 110 0, zR 10 0, zR 11 0, zI i], []) :: fs) s Q := by
  obtain ⟨hl, hx⟩ := hI s hs
  have w1 : w32 (i + 1) = i + 1 := w32_id (by omega) (by omega)
  have b1 : (zak 110 = 0 ∧ 0 ≤ i + 1 ∧ i + 1 < zln s 110) = True := eq_true ⟨zak110, by omega, by rw [zln110, hl]; omega⟩
  have w2 : w32 (i + 2) = i + 2 := w32_id (by omega) (by omega)
  have b2 : (zak 110 = 0 ∧ 0 ≤ i + 2 ∧ i + 2 < zln s 110) = True := eq_true ⟨zak110, by omega, by rw [zln110, hl]; omega⟩
  by_cases q2 : s 110 0 (i + 2) = 0
  · have q2 : (s 110 0 (i + 2) = 0) = True := eq_true q2
    obtain ⟨r, s1, s2, c1, c2, h2, e1, e2⟩ := hP (s 110 0 (i + 1)) 0 (hx (i + 1) (by omega) (by omega)) (Or.inl rfl) s hs
    simp only [r187_1180, r187_1181, r187_1182, r187_1183, r187_1184, r187_1185, r187_1186, r187_1187, r187_1188, r187_1189, r187_1190, r187_1191, r187_1194, r187_1195, r187_1198, r187_1199, w1, w2, b1, b2, true_and, q2, if_true, if_false]
    rw [c1]
    have d1 : (zak 110 = 0 ∧ 0 ≤ i + 1 ∧ i + 1 < zln s1 110) = True := eq_true ⟨zak110, by omega, by rw [zln110, e2, hl]; omega⟩
    have d2 : (zak 110 = 0 ∧ 0 ≤ i + 2 ∧ i + 2 < zln s1 110) = True := eq_true ⟨zak110, by omega, by rw [zln110, e2, hl]; omega⟩
    simp only [r187_1202, r187_1203, r187_1204, r187_1205, r187_1206, r187_1207, r187_1208, r187_1209, r187_1210, r187_1211, r187_1212, r187_1213, r187_1216, r187_1217, r187_1220, r187_1221, w1, w2, d1, d2, true_and, e1, q2, if_true, if_false]
    rw [c2]
    simp only [r187_1224, r187_1227, r187_1228, if_true]
    exact kk s2 h2
  · have q2 : (s 110 0 (i + 2) = 0) = False := eq_false q2
    obtain ⟨r, s1, s2, c1, c2, h2, e1, e2⟩ := hP (s 110 0 (i + 1)) 1 (hx (i + 1) (by omega) (by omega)) (Or.inr rfl) s hs
    simp only [r187_1180, r187_1181, r187_1182, r187_1183, r187_1184, r187_1185, r187_1186, r187_1187, r187_1188, r187_1189, r187_1190, r187_1191, r187_1194, r187_1195, r187_1198, r187_1199, w1, w2, b1, b2, true_and, q2, if_true, if_false]
    rw [c1]
    have d1 : (zak 110 = 0 ∧ 0 ≤ i + 1 ∧ i + 1 < zln s1 110) = True := eq_true ⟨zak110, by omega, by rw [zln110, e2, hl]; omega⟩
    have d2 : (zak 110 = 0 ∧ 0 ≤ i + 2 ∧ i + 2 < zln s1 110) = True := eq_true ⟨zak110, by omega, by rw [zln110, e2, hl]; omega⟩
    simp only [r187_1202, r187_1203, r187_1204, r187_1205, r187_1206, r187_1207, r187_1208, r187_1209, r187_1210, r187_1211, r187_1212, r187_1213, r187_1216, r187_1217, r187_1220, r187_1221, w1, w2, d1, d2, true_and, e1, q2, if_true, if_false]
    rw [c2]
    simp only [r187_1224, r187_1227, r187_1228, if_true]
    exact kk s2 h2
theorem lc_choose {I : zS → Prop} {L : Nat} (hI : zIs I L) (hP : Pr_choose I) (hL : L ≤ 3072) {s : zS} (hs : I s) {i : Int} (h0 : 0 ≤ i) (h6 : i + 6 ≤ (L : Int)) {fs : List zFr} {Q : List zV → zS → Prop} (kk : ∀ s2, I s2 → Ev ((187, 1447, [zR 110 0, zR 10 0, zR 11 0, zI i], []) :: fs) s2 Q) : Ev ((187, 1229, [zR 110 0, zR 10 0, zR 11 0, zI i], []) :: fs) s Q := by
  obtain ⟨hl, hx⟩ := hI s hs
  have w1 : w32 (i + 1) = i + 1 := w32_id (by omega) (by omega)
  have b1 : (zak 110 = 0 ∧ 0 ≤ i + 1 ∧ i + 1 < zln s 110) = True := eq_true ⟨zak110, by omega, by rw [zln110, hl]; omega⟩
  obtain ⟨r, s1, s2, c1, c2, h2, e1, e2⟩ := hP (s 110 0 (i + 1)) (hx (i + 1) (by omega) (by omega)) s hs
  simp only [r187_1229, r187_1230, r187_1231, r187_1232, r187_1233, r187_1234, r187_1235, w1, b1, true_and]
  rw [c1]
  have d1 : (zak 110 = 0 ∧ 0 ≤ i + 1 ∧ i + 1 < zln s1 110) = True := eq_true ⟨zak110, by omega, by rw [zln110, e2, hl]; omega⟩
  simp only [r187_1238, r187_1239, r187_1240, r187_1241, r187_1242, r187_1243, r187_1244, w1, d1, true_and, e1]
  rw [c2]
  simp only [r187_1247, r187_1250, r187_1251, if_true]
  exact kk s2 h2
theorem lc_sheet {I : zS → Prop} {L : Nat} (hI : zIs I L) (hP : Pr_sheet I) (hL : L ≤ 3072) {s : zS} (hs : I s) {i : Int} (h0 : 0 ≤ i) (h6 : i + 6 ≤ (L : Int)) {fs : List zFr} {Q : List zV → zS → Prop} (kk : ∀ s2, I s2 → Ev ((187, 1447, [zR 110 0, zR 10 0, zR 11 0, zI i], []) :: fs) s2 Q) : Ev ((187, 1252, [zR 110 0, zR 10 0, zR 11 0, zI i], []) :: fs) s Q := by
  obtain ⟨hl, hx⟩ := hI s hs
  have w1 : w32 (i + 1) = i + 1 := w32_id (by omega) (by omega)
  have b1 : (zak 110 = 0 ∧ 0 ≤ i + 1 ∧ i + 1 < zln s 110) = True := eq_true ⟨zak110, by omega, by rw [zln110, hl]; omega⟩
  have w2 : w32 (i + 2) = i + 2 := w32_id (by omega) (by omega)
  have b2 : (zak 110 = 0 ∧ 0 ≤ i + 2 ∧ i + 2 < zln s 110) = True := eq_true ⟨zak110, by omega, by rw [zln110, hl]; omega⟩
  have w3 : w32 (i + 3) = i + 3 := w32_id (by omega) (by omega)
  have b3 : (zak 110 = 0 ∧ 0 ≤ i + 3 ∧ i + 3 < zln s 110) = True := eq_true ⟨zak110, by omega, by rw [zln110, hl]; omega⟩
  obtain ⟨r, s1, s2, c1, c2, h2, e1, e2⟩ := hP (s 110 0 (i + 1)) (s 110 0 (i + 2)) (s 110 0 (i + 3)) (hx (i + 1) (by omega) (by omega)) (hx (i + 2) (by omega) (by omega)) (hx (i + 3) (by omega) (by omega)) s hs
  simp only [r187_1252, r187_1253, r187_1254, r187_1255, r187_1256, r187_1257, r187_1258, r187_1259, r187_1260, r187_1261, r187_1262, r187_1263, r187_1264, r187_1265, r187_1266, r187_1267, r187_1268, w1, w2, w3, b1, b2, b3, true_and]
  rw [c1]
  have d1 : (zak 110 = 0 ∧ 0 ≤ i + 1 ∧ i + 1 < zln s1 110) = True := eq_true ⟨zak110, by omega, by rw [zln110, e2, hl]; omega⟩
  have d2 : (zak 110 = 0 ∧ 0 ≤ i + 2 ∧ i + 2 < zln s1 110) = True := eq_true ⟨zak110, by omega, by rw [zln110, e2, hl]; omega⟩
  have d3 : (zak 110 = 0 ∧ 0 ≤ i + 3 ∧ i + 3 < zln s1 110) = True := eq_true ⟨zak110, by omega, by rw [zln110, e2, hl]; omega⟩
  simp only [r187_1271, r187_1272, r187_1273, r187_1274, r187_1275, r187_1276, r187_1277, r187_1278, r187_1279, r187_1280, r187_1281, r187_1282, r187_1283, r187_1284, r187_1285, r187_1286, r187_1287, w1, w2, w3, d1, d2, d3, true_and, e1]
  rw [c2]
  simp only [r187_1290, r187_1293, r187_1294, if_true]
  exact kk s2 h2
theorem lc_write {I : zS → Prop} {L : Nat} (hI : zIs I L) (hP : Pr_write I) (hL : L ≤ 3072) {s : zS} (hs : I s) {i : Int} (h0 : 0 ≤ i) (h6 : i + 6 ≤ (L : Int)) {fs : List zFr} {Q : List zV → zS → Prop} (kk : ∀ s2, I s2 → Ev ((187, 1447, [zR 110 0, zR 10 0, zR 11 0, zI i], []) :: fs) s2 Q) : Ev ((187, 1295, [zR 110 0, zR 10 0, zR 11 0, zI i], []) :: fs) s Q := by
  obtain ⟨hl, hx⟩ := hI s hs
  have w1 : w32 (i + 1) = i + 1 := w32_id (by omega) (by omega)
  have b1 : (zak 110 = 0 ∧ 0 ≤ i + 1 ∧ i + 1 < zln s 110) = True := eq_true ⟨zak110, by omega, by rw [zln110, hl]; omega⟩
  have w2 : w32 (i + 2) = i + 2 := w32_id (by omega) (by omega)
  have b2 : (zak 110 = 0 ∧ 0 ≤ i + 2 ∧ i + 2 < zln s 110) = True := eq_true ⟨zak110, by omega, by rw [zln110, hl]; omega⟩
  have w3 : w32 (i + 3) = i + 3 := w32_id (by omega) (by omega)
  have b3 : (zak 110 = 0 ∧ 0 ≤ i + 3 ∧ i + 3 < zln s 110) = True := eq_true ⟨zak110, by omega, by rw [zln110, hl]; omega⟩
  obtain ⟨r, s1, s2, c1, c2, h2, e1, e2⟩ := hP (s 110 0 (i + 1)) (s 110 0 (i + 2)) (s 110 0 (i + 3)) (hx (i + 1) (by omega) (by omega)) (hx (i + 2) (by omega) (by omega)) (hx (i + 3) (by omega) (by omega)) s hs
  simp only [r187_1295, r187_1296, r187_1297, r187_1298, r187_1299, r187_1300, r187_1301, r187_1302, r187_1303, r187_1304, r187_1305, r187_1306, r187_1307, r187_1308, r187_1309, r187_1310, r187_1311, w1, w2, w3, b1, b2, b3, true_and]
  rw [c1]
  have d1 : (zak 110 = 0 ∧ 0 ≤ i + 1 ∧ i + 1 < zln s1 110) = True := eq_true ⟨zak110, by omega, by rw [zln110, e2, hl]; omega⟩
  have d2 : (zak 110 = 0 ∧ 0 ≤ i + 2 ∧ i + 2 < zln s1 110) = True := eq_true ⟨zak110, by omega, by rw [zln110, e2, hl]; omega⟩
  have d3 : (zak 110 = 0 ∧ 0 ≤ i + 3 ∧ i + 3 < zln s1 110) = True := eq_true ⟨zak110, by omega, by rw [zln110, e2, hl]; omega⟩
  simp only [r187_1314, r187_1315, r187_1316, r187_1317, r187_1318, r187_1319, r187_1320, r187_1321, r187_1322, r187_1323, r187_1324, r187_1325, r187_1326, r187_1327, r187_1328, r187_1329, r187_1330, w1, w2, w3, d1, d2, d3, true_and, e1]
  rw [c2]
  simp only [r187_1333, r187_1336, r187_1337, if_true]
  exact kk s2 h2
theorem lc_copy {I : zS → Prop} {L : Nat} (hI : zIs I L) (hP : Pr_copy I) (hL : L ≤ 3072) {s : zS} (hs : I s) {i : Int} (h0 : 0 ≤ i) (h6 : i + 6 ≤ (L : Int)) {fs : List zFr} {Q : List zV → zS → Prop} (kk : ∀ s2, I s2 → Ev ((187, 1447, [zR 110 0, zR 10 0, zR 11 0, zI i], []) :: fs) s2 Q) : Ev ((187, 1338, [zR 110 0, zR 10 0, zR 11 0, zI i], []) :: fs) s Q := by
  obtain ⟨hl, hx⟩ := hI s hs
  have w1 : w32 (i + 1) = i + 1 := w32_id (by omega) (by omega)
  have b1 : (zak 110 = 0 ∧ 0 ≤ i + 1 ∧ i + 1 < zln s 110) = True := eq_true ⟨zak110, by omega, by rw [zln110, hl]; omega⟩
  have w2 : w32 (i + 2) = i + 2 := w32_id (by omega) (by omega)
  have b2 : (zak 110 = 0 ∧ 0 ≤ i + 2 ∧ i + 2 < zln s 110) = True := eq_true ⟨zak110, by omega, by rw [zln110, hl]; omega⟩
  have w3 : w32 (i + 3) = i + 3 := w32_id (by omega) (by omega)
  have b3 : (zak 110 = 0 ∧ 0 ≤ i + 3 ∧ i + 3 < zln s 110) = True := eq_true ⟨zak110, by omega, by rw [zln110, hl]; omega⟩
  have w4 : w32 (i + 4) = i + 4 := w32_id (by omega) (by omega)
  have b4 : (zak 110 = 0 ∧ 0 ≤ i + 4 ∧ i + 4 < zln s 110) = True := eq_true ⟨zak110, by omega, by rw [zln110, hl]; omega⟩
  have w5 : w32 (i + 5) = i + 5 := w32_id (by omega) (by omega)
  have b5 : (zak 110 = 0 ∧ 0 ≤ i + 5 ∧ i + 5 < zln s 110) = True := eq_true ⟨zak110, by omega, by rw [zln110, hl]; omega⟩
  obtain ⟨r, s1, s2, c1, c2, h2, e1, e2⟩ := hP (s 110 0 (i + 1)) (s 110 0 (i + 2)) (s 110 0 (i + 3)) (s 110 0 (i + 4)) (s 110 0 (i + 5)) (hx (i + 1) (by omega) (by omega)) (hx (i + 2) (by omega) (by omega)) (hx (i + 3) (by omega) (by omega)) (hx (i + 4) (by omega) (by omega)) (hx (i + 5) (by omega) (by omega)) s hs
  simp only [r187_1338, r187_1339, r187_1340, r187_1341, r187_1342, r187_1343, r187_1344, r187_1345, r187_1346, r187_1347, r187_1348, r187_1349, r187_1350, r187_1351, r187_1352, r187_1353, r187_1354, r187_1355, r187_1356, r187_1357, r187_1358, r187_1359, r187_1360, r187_1361, r187_1362, r187_1363, r187_1364, w1, w2, w3, w4, w5, b1, b2, b3, b4, b5, true_and]
  rw [c1]
  have d1 : (zak 110 = 0 ∧ 0 ≤ i + 1 ∧ i + 1 < zln s1 110) = True := eq_true ⟨zak110, by omega, by rw [zln110, e2, hl]; omega⟩
  have d2 : (zak 110 = 0 ∧ 0 ≤ i + 2 ∧ i + 2 < zln s1 110) = True := eq_true ⟨zak110, by omega, by rw [zln110, e2, hl]; omega⟩
  have d3 : (zak 110 = 0 ∧ 0 ≤ i + 3 ∧ i + 3 < zln s1 110) = True := eq_true ⟨zak110, by omega, by rw [zln110, e2, hl]; omega⟩
  have d4 : (zak 110 = 0 ∧ 0 ≤ i + 4 ∧ i + 4 < zln s1 110) = True := eq_true ⟨zak110, by omega, by rw [zln110, e2, hl]; omega⟩
  have d5 : (zak 110 = 0 ∧ 0 ≤ i + 5 ∧ i + 5 < zln s1 110) = True := eq_true ⟨zak110, by omega, by rw [zln110, e2, hl]; omega⟩
  simp only [r187_1367, r187_1368, r187_1369, r187_1370, r187_1371, r187_1372, r187_1373, r187_1374, r187_1375, r187_1376, r187_1377, r187_1378, r187_1379, r187_1380, r187_1381, r187_1382, r187_1383, r187_1384, r187_1385, r187_1386, r187_1387, r187_1388, r187_1389, r187_1390, r187_1391, r187_1392, r187_1393, w1, w2, w3, w4, w5, d1, d2, d3, d4, d5, true_and, e1]
  rw [c2]
  simp only [r187_1396, r187_1399, r187_1400, if_true]
  exact kk s2 h2
theorem lc_read {I : zS → Prop} {L : Nat} (hI : zIs I L) (hP : Pr_read I) (hL : L ≤ 3072) {s : zS} (hs : I s) {i : Int} (h0 : 0 ≤ i) (h6 : i + 6 ≤ (L : Int)) {fs : List zFr} {Q : List zV → zS → Prop} (kk : ∀ s2, I s2 → Ev ((187, 1447, [zR 110 0, zR 10 0, zR 11 0, zI i], []) :: fs) s2 Q) : Ev ((187, 1401, [zR 110 0, zR 10 0, zR 11 0, zI i], []) :: fs) s Q := by
  obtain ⟨hl, hx⟩ := hI s hs
  have w1 : w32 (i + 1) = i + 1 := w32_id (by omega) (by omega)
  have b1 : (zak 110 = 0 ∧ 0 ≤ i + 1 ∧ i + 1 < zln s 110) = True := eq_true ⟨zak110, by omega, by rw [zln110, hl]; omega⟩
  obtain ⟨r, s1, s2, c1, c2, h2, e1, e2⟩ := hP (s 110 0 (i + 1)) (hx (i + 1) (by omega) (by omega)) s hs
  simp only [r187_1401, r187_1402, r187_1403, r187_1404, r187_1405, r187_1406, r187_1407, w1, b1, true_and]
  rw [c1]
  have d1 : (zak 110 = 0 ∧ 0 ≤ i + 1 ∧ i + 1 < zln s1 110) = True := eq_true ⟨zak110, by omega, by rw [zln110, e2, hl]; omega⟩
  simp only [r187_1410, r187_1411, r187_1412, r187_1413, r187_1414, r187_1415, r187_1416, w1, d1, true_and, e1]
  rw [c2]
  simp only [r187_1419, r187_1422, r187_1423, if_true]
  exact kk s2 h2
theorem lc_told {I : zS → Prop} {L : Nat} (hI : zIs I L) (hP : Pr_told I) (hL : L ≤ 3072) {s : zS} (hs : I s) {i : Int} (h0 : 0 ≤ i) (h6 : i + 6 ≤ (L : Int)) {fs : List zFr} {Q : List zV → zS → Prop} (kk : ∀ s2, I s2 → Ev ((187, 1447, [zR 110 0, zR 10 0, zR 11 0, zI i], []) :: fs) s2 Q) : Ev ((187, 1424, [zR 110 0, zR 10 0, zR 11 0, zI i], []) :: fs) s Q := by
  obtain ⟨hl, hx⟩ := hI s hs
  have w1 : w32 (i + 1) = i + 1 := w32_id (by omega) (by omega)
  have b1 : (zak 110 = 0 ∧ 0 ≤ i + 1 ∧ i + 1 < zln s 110) = True := eq_true ⟨zak110, by omega, by rw [zln110, hl]; omega⟩
  obtain ⟨r, s1, s2, c1, c2, h2, e1, e2⟩ := hP (s 110 0 (i + 1)) (hx (i + 1) (by omega) (by omega)) s hs
  simp only [r187_1424, r187_1425, r187_1426, r187_1427, r187_1428, r187_1429, r187_1430, w1, b1, true_and]
  rw [c1]
  have d1 : (zak 110 = 0 ∧ 0 ≤ i + 1 ∧ i + 1 < zln s1 110) = True := eq_true ⟨zak110, by omega, by rw [zln110, e2, hl]; omega⟩
  simp only [r187_1433, r187_1434, r187_1435, r187_1436, r187_1437, r187_1438, r187_1439, w1, d1, true_and, e1]
  rw [c2]
  simp only [r187_1442, r187_1445, r187_1446, if_true]
  exact kk s2 h2
theorem zand63 (x : Int) : 0 ≤ zand x 63 ∧ zand x 63 < 64 := by
  unfold zand
  obtain ⟨j, hj, e⟩ := pk_andE (Int32.ofInt x) (m := 63) 6 (by decide)
  rw [show Int32.ofInt 63 = (63 : Int32) from rfl, e, nI_toInt (by omega)]
  omega
theorem law_loop {I : zS → Prop} {L : Nat} (hI : zIs I L) (hL : L ≤ 3072) (h_pupil : Pr_pupil I) (h_teacher : Pr_teacher I) (h_as : Pr_as I) (h_of : Pr_of I) (h_here : Pr_here I) (h_friend : Pr_friend I) (h_wish : Pr_wish I) (h_saw : Pr_saw I) (h_ill : Pr_ill I) (h_terms : Pr_terms I) (h_level : Pr_level I) (h_may : Pr_may I) (h_classing : Pr_classing I) (h_noon : Pr_noon I) (h_worth : Pr_worth I) (h_set : Pr_set I) (h_lift : Pr_lift I) (h_slope : Pr_slope I) (h_stop : Pr_stop I) (h_meeting : Pr_meeting I) (h_serves : Pr_serves I) (h_stranded : Pr_stranded I) (h_name : Pr_name I) (h_hand : Pr_hand I) (h_back : Pr_back I) (h_left : Pr_left I) (h_ask : Pr_ask I) (h_hours : Pr_hours I) (h_book : Pr_book I) (h_open : Pr_open I) (h_choice : Pr_choice I) (h_choose : Pr_choose I) (h_sheet : Pr_sheet I) (h_write : Pr_write I) (h_copy : Pr_copy I) (h_read : Pr_read I) (h_told : Pr_told I) : ∀ (n : Nat) (i : Int) (s : zS), 0 ≤ i → (L : Int) + 6 - i ≤ (n : Int) → i ≤ (L : Int) → I s → Ev [(187, 18, [zR 110 0, zR 10 0, zR 11 0, zI i], []), (999, 0, [], [])] s (fun st _ => st = [zI 1]) := by
  intro n
  induction n with
  | zero => intro i s h0 hn hi hs; omega
  | succ n ih =>
    intro i s h0 hn hi hs
    obtain ⟨hl, hx⟩ := hI s hs
    have a1 : (zak 110 ≤ 3 ∧ 0 ≤ (L : Int)) = True := eq_true ⟨by rw [zak110]; omega, by omega⟩
    have w1 : w32 ((L : Int) - 6) = (L : Int) - 6 := w32_id (by omega) (by omega)
    simp only [r187_18, r187_19, r187_20, r187_21, r187_23, r187_24, r187_27, r187_28, r187_29, r187_30, r187_32, a1, true_and, zln110, hl, w1]
    by_cases he : (L : Int) - 6 < i
    · rw [if_pos he]
      simp only [r187_1453, r187_1454, ev_end]
      simp
    · rw [if_neg he]
      have h6 : i + 6 ≤ (L : Int) := by omega
      have b1 : (zak 110 = 0 ∧ 0 ≤ i ∧ i < (L : Int)) = True := eq_true ⟨zak110, by omega, by omega⟩
      simp only [b1, true_and]
      have hz := zand63 (s 110 0 i)
      have kk : ∀ s2, I s2 → Ev [(187, 1447, [zR 110 0, zR 10 0, zR 11 0, zI i], []), (999, 0, [], [])] s2 (fun st _ => st = [zI 1]) := by
        intro s2 h2
        have w2 : w32 (i + 6) = i + 6 := w32_id (by omega) (by omega)
        simp only [r187_1447, r187_1450, w2, zclr_R]
        by_cases hL6 : i + 6 ≤ (L : Int)
        · exact ih (i + 6) s2 (by omega) (by omega) hL6 h2
        · omega
      generalize zand (s 110 0 i) 63 = k at hz ⊢
      by_cases hk : k < 37
      · rcases (show k = 0 ∨ k = 1 ∨ k = 2 ∨ k = 3 ∨ k = 4 ∨ k = 5 ∨ k = 6 ∨ k = 7 ∨ k = 8 ∨ k = 9 ∨ k = 10 ∨ k = 11 ∨ k = 12 ∨ k = 13 ∨ k = 14 ∨ k = 15 ∨ k = 16 ∨ k = 17 ∨ k = 18 ∨ k = 19 ∨ k = 20 ∨ k = 21 ∨ k = 22 ∨ k = 23 ∨ k = 24 ∨ k = 25 ∨ k = 26 ∨ k = 27 ∨ k = 28 ∨ k = 29 ∨ k = 30 ∨ k = 31 ∨ k = 32 ∨ k = 33 ∨ k = 34 ∨ k = 35 ∨ k = 36 by omega) with rfl | rfl | rfl | rfl | rfl | rfl | rfl | rfl | rfl | rfl | rfl | rfl | rfl | rfl | rfl | rfl | rfl | rfl | rfl | rfl | rfl | rfl | rfl | rfl | rfl | rfl | rfl | rfl | rfl | rfl | rfl | rfl | rfl | rfl | rfl | rfl | rfl
        · rw [r187_33_0]; exact lc_pupil hI h_pupil hL hs h0 h6 kk
        · rw [r187_33_1]; exact lc_teacher hI h_teacher hL hs h0 h6 kk
        · rw [r187_33_2]; exact lc_as hI h_as hL hs h0 h6 kk
        · rw [r187_33_3]; exact lc_of hI h_of hL hs h0 h6 kk
        · rw [r187_33_4]; exact lc_here hI h_here hL hs h0 h6 kk
        · rw [r187_33_5]; exact lc_friend hI h_friend hL hs h0 h6 kk
        · rw [r187_33_6]; exact lc_wish hI h_wish hL hs h0 h6 kk
        · rw [r187_33_7]; exact lc_saw hI h_saw hL hs h0 h6 kk
        · rw [r187_33_8]; exact lc_ill hI h_ill hL hs h0 h6 kk
        · rw [r187_33_9]; exact lc_terms hI h_terms hL hs h0 h6 kk
        · rw [r187_33_10]; exact lc_level hI h_level hL hs h0 h6 kk
        · rw [r187_33_11]; exact lc_may hI h_may hL hs h0 h6 kk
        · rw [r187_33_12]; exact lc_classing hI h_classing hL hs h0 h6 kk
        · rw [r187_33_13]; exact lc_noon hI h_noon hL hs h0 h6 kk
        · rw [r187_33_14]; exact lc_worth hI h_worth hL hs h0 h6 kk
        · rw [r187_33_15]; exact lc_set hI h_set hL hs h0 h6 kk
        · rw [r187_33_16]; exact lc_lift hI h_lift hL hs h0 h6 kk
        · rw [r187_33_17]; exact lc_slope hI h_slope hL hs h0 h6 kk
        · rw [r187_33_18]; exact lc_stop hI h_stop hL hs h0 h6 kk
        · rw [r187_33_19]; exact lc_meeting hI h_meeting hL hs h0 h6 kk
        · rw [r187_33_20]; exact lc_serves hI h_serves hL hs h0 h6 kk
        · rw [r187_33_21]; exact lc_stranded hI h_stranded hL hs h0 h6 kk
        · rw [r187_33_22]; exact lc_name hI h_name hL hs h0 h6 kk
        · rw [r187_33_23]; exact lc_hand hI h_hand hL hs h0 h6 kk
        · rw [r187_33_24]; exact lc_back hI h_back hL hs h0 h6 kk
        · rw [r187_33_25]; exact lc_left hI h_left hL hs h0 h6 kk
        · rw [r187_33_26]; exact lc_ask hI h_ask hL hs h0 h6 kk
        · rw [r187_33_27]; exact lc_hours hI h_hours hL hs h0 h6 kk
        · rw [r187_33_28]; exact lc_book hI h_book hL hs h0 h6 kk
        · rw [r187_33_29]; exact lc_open hI h_open hL hs h0 h6 kk
        · rw [r187_33_30]; exact lc_choice hI h_choice hL hs h0 h6 kk
        · rw [r187_33_31]; exact lc_choose hI h_choose hL hs h0 h6 kk
        · rw [r187_33_32]; exact lc_sheet hI h_sheet hL hs h0 h6 kk
        · rw [r187_33_33]; exact lc_write hI h_write hL hs h0 h6 kk
        · rw [r187_33_34]; exact lc_copy hI h_copy hL hs h0 h6 kk
        · rw [r187_33_35]; exact lc_read hI h_read hL hs h0 h6 kk
        · rw [r187_33_36]; exact lc_told hI h_told hL hs h0 h6 kk
      · rw [r187_33_d _ _ _ _ (Or.inr (by omega))]
        exact kk s hs

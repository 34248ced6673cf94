def rI (a : Int) : Prop := -2147483648 ≤ a ∧ a < 2147483648
theorem w32_id {x : Int} (h1 : -2147483648 ≤ x) (h2 : x < 2147483648) : w32 x = x := by unfold w32; omega
/-- a call's whole run, wherever it is made -/
def Call (mid : Nat) (args : List zV) (s : zS) (r : Int) (s1 : zS) : Prop := ∀ (m pc : Nat) (ls st : List zV) (fs : List zFr) (Q : List zV → zS → Prop), Ev ((mid, 0, args, []) :: (m, pc, ls, st) :: fs) s Q = Ev ((m, pc, ls, zI r :: st) :: fs) s1 Q
/-- class and reference answer alike, and what holds between them holds behind both -/
def Pair (I : zS → Prop) (mx mm : Nat) (ax am : List zV) : Prop := ∀ s, I s → ∃ (r : Int) (s1 s2 : zS), Call mx ax s r s1 ∧ Call mm am s1 r s2 ∧ I s2 ∧ s1 110 = s 110 ∧ s1 111 = s 111
theorem zln110 (s : zS) : zln s 110 = s 111 0 0 := rfl
theorem zak110 : zak 110 = 0 := by decide +kernel
theorem w_eq {P : Prop} (h : P) : P = True := eq_true h
def zIs (I : zS → Prop) (L : Nat) : Prop := ∀ s, I s → s 111 0 0 = (L : Int) ∧ ∀ j : Int, 0 ≤ j → j < (L : Int) → rI (s 110 0 j)
/-- pupil -/
def Pr_pupil (I : zS → Prop) : Prop := ∀ a1 a2 a3 : Int, rI a1 → rI a2 → rI a3 → Pair I 72 123 [zR 10 0, zI a1, zI a2, zI a3] [zR 11 0, zI a1, zI a2, zI a3, zU]
/-- teacher -/
def Pr_teacher (I : zS → Prop) : Prop := ∀ a1 a2 : Int, rI a1 → rI a2 → Pair I 73 124 [zR 10 0, zI a1, zI a2] [zR 11 0, zI a1, zI a2]
/-- as -/
def Pr_as (I : zS → Prop) : Prop := ∀ a1 a2 a3 : Int, rI a1 → (a2 = 0 ∨ a2 = 1) → rI a3 → Pair I 74 127 [zR 10 0, zI a1, zI a2, zI a3, zU, zU] [zR 11 0, zI a1, zI a2, zI a3, zU]
/-- of -/
def Pr_of (I : zS → Prop) : Prop := ∀ a1 a2 : Int, rI a1 → rI a2 → Pair I 75 129 [zR 10 0, zI a1, zI a2, zU] [zR 11 0, zI a1, zI a2]
/-- here -/
def Pr_here (I : zS → Prop) : Prop := ∀ a1 a2 : Int, rI a1 → (a2 = 0 ∨ a2 = 1) → Pair I 76 130 [zR 10 0, zI a1, zI a2] [zR 11 0, zI a1, zI a2, zU]
/-- friend -/
def Pr_friend (I : zS → Prop) : Prop := ∀ a1 a2 : Int, rI a1 → rI a2 → Pair I 77 131 [zR 10 0, zI a1, zI a2, zU, zU] [zR 11 0, zI a1, zI a2, zU]
/-- wish -/
def Pr_wish (I : zS → Prop) : Prop := ∀ a1 a2 : Int, rI a1 → rI a2 → Pair I 78 132 [zR 10 0, zI a1, zI a2, zU] [zR 11 0, zI a1, zI a2, zU]
/-- saw -/
def Pr_saw (I : zS → Prop) : Prop := ∀ a1 a2 a3 : Int, rI a1 → rI a2 → rI a3 → Pair I 79 134 [zR 10 0, zI a1, zI a2, zI a3, zU] [zR 11 0, zI a1, zI a2, zI a3]
/-- ill -/
def Pr_ill (I : zS → Prop) : Prop := ∀ a1 a2 : Int, rI a1 → (a2 = 0 ∨ a2 = 1) → Pair I 80 135 [zR 10 0, zI a1, zI a2, zU, zU] [zR 11 0, zI a1, zI a2, zU]
/-- terms -/
def Pr_terms (I : zS → Prop) : Prop := ∀ a1 a2 a3 a4 : Int, rI a1 → rI a2 → rI a3 → rI a4 → Pair I 81 136 [zR 10 0, zI a1, zI a2, zI a3, zI a4, zU] [zR 11 0, zI a1, zI a2, zI a3, zI a4]
/-- level -/
def Pr_level (I : zS → Prop) : Prop := ∀ a1 : Int, rI a1 → Pair I 82 139 [zR 10 0, zI a1, zU] [zR 11 0, zI a1, zU]
/-- may -/
def Pr_may (I : zS → Prop) : Prop := ∀ a1 a2 : Int, rI a1 → rI a2 → Pair I 83 145 [zR 10 0, zI a1, zI a2] [zR 11 0, zI a1, zI a2]
/-- classing -/
def Pr_classing (I : zS → Prop) : Prop := Pair I 84 150 [zR 10 0] [zR 11 0]
/-- noon -/
def Pr_noon (I : zS → Prop) : Prop := Pair I 85 151 [zR 10 0, zU] [zR 11 0, zU, zU]
/-- worth -/
def Pr_worth (I : zS → Prop) : Prop := Pair I 86 152 [zR 10 0] [zR 11 0, zU, zU]
/-- set -/
def Pr_set (I : zS → Prop) : Prop := ∀ a1 : Int, rI a1 → Pair I 87 153 [zR 10 0, zI a1] [zR 11 0, zI a1]
/-- lift -/
def Pr_lift (I : zS → Prop) : Prop := ∀ a1 a2 : Int, rI a1 → rI a2 → Pair I 88 155 [zR 10 0, zI a1, zI a2] [zR 11 0, zI a1, zI a2]
/-- slope -/
def Pr_slope (I : zS → Prop) : Prop := ∀ a1 a2 a3 : Int, rI a1 → rI a2 → rI a3 → Pair I 89 156 [zR 10 0, zI a1, zI a2, zI a3] [zR 11 0, zI a1, zI a2, zI a3]
/-- stop -/
def Pr_stop (I : zS → Prop) : Prop := ∀ a1 a2 : Int, rI a1 → (a2 = 0 ∨ a2 = 1) → Pair I 90 157 [zR 10 0, zI a1, zI a2, zU, zU] [zR 11 0, zI a1, zI a2, zU]
/-- meeting -/
def Pr_meeting (I : zS → Prop) : Prop := ∀ a1 : Int, rI a1 → Pair I 91 158 [zR 10 0, zI a1, zU] [zR 11 0, zI a1, zU]
/-- serves -/
def Pr_serves (I : zS → Prop) : Prop := ∀ a1 : Int, rI a1 → Pair I 92 161 [zR 10 0, zI a1, zU] [zR 11 0, zI a1, zU, zU, zU, zU, zU]
/-- stranded -/
def Pr_stranded (I : zS → Prop) : Prop := ∀ a1 a2 : Int, rI a1 → rI a2 → Pair I 93 162 [zR 10 0, zI a1, zI a2, zU] [zR 11 0, zI a1, zI a2, zU]
/-- name -/
def Pr_name (I : zS → Prop) : Prop := ∀ a1 a2 : Int, rI a1 → rI a2 → Pair I 94 165 [zR 10 0, zI a1, zI a2, zU] [zR 11 0, zI a1, zI a2]
/-- hand -/
def Pr_hand (I : zS → Prop) : Prop := ∀ a1 a2 : Int, rI a1 → rI a2 → Pair I 95 166 [zR 10 0, zI a1, zI a2, zU] [zR 11 0, zI a1, zI a2]
/-- back -/
def Pr_back (I : zS → Prop) : Prop := ∀ a1 : Int, rI a1 → Pair I 96 167 [zR 10 0, zI a1, zU, zU] [zR 11 0, zI a1, zU]
/-- left -/
def Pr_left (I : zS → Prop) : Prop := Pair I 97 168 [zR 10 0] [zR 11 0, zU, zU]
/-- ask -/
def Pr_ask (I : zS → Prop) : Prop := ∀ a1 a2 a3 a4 : Int, rI a1 → rI a2 → rI a3 → rI a4 → Pair I 98 169 [zR 10 0, zI a1, zI a2, zI a3, zI a4] [zR 11 0, zI a1, zI a2, zI a3, zI a4]
/-- hours -/
def Pr_hours (I : zS → Prop) : Prop := ∀ a1 a2 : Int, rI a1 → rI a2 → Pair I 99 170 [zR 10 0, zI a1, zI a2] [zR 11 0, zI a1, zI a2]
/-- book -/
def Pr_book (I : zS → Prop) : Prop := ∀ a1 : Int, rI a1 → Pair I 100 175 [zR 10 0, zI a1, zU] [zR 11 0, zI a1]
/-- open -/
def Pr_open (I : zS → Prop) : Prop := ∀ a1 : Int, rI a1 → Pair I 101 176 [zR 10 0, zI a1, zU, zU] [zR 11 0, zI a1, zU]
/-- choice -/
def Pr_choice (I : zS → Prop) : Prop := ∀ a1 a2 : Int, rI a1 → (a2 = 0 ∨ a2 = 1) → Pair I 102 179 [zR 10 0, zI a1, zI a2, zU] [zR 11 0, zI a1, zI a2, zU]
/-- choose -/
def Pr_choose (I : zS → Prop) : Prop := ∀ a1 : Int, rI a1 → Pair I 103 180 [zR 10 0, zI a1, zU] [zR 11 0, zI a1, zU, zU]
/-- sheet -/
def Pr_sheet (I : zS → Prop) : Prop := ∀ a1 a2 a3 : Int, rI a1 → rI a2 → rI a3 → Pair I 104 182 [zR 10 0, zI a1, zI a2, zI a3, zU] [zR 11 0, zI a1, zI a2, zI a3, zU]
/-- write -/
def Pr_write (I : zS → Prop) : Prop := ∀ a1 a2 a3 : Int, rI a1 → rI a2 → rI a3 → Pair I 105 183 [zR 10 0, zI a1, zI a2, zI a3, zU, zU] [zR 11 0, zI a1, zI a2, zI a3, zU]
/-- copy -/
def Pr_copy (I : zS → Prop) : Prop := ∀ a1 a2 a3 a4 a5 : Int, rI a1 → rI a2 → rI a3 → rI a4 → rI a5 → Pair I 106 184 [zR 10 0, zI a1, zI a2, zI a3, zI a4, zI a5, zU, zU] [zR 11 0, zI a1, zI a2, zI a3, zI a4, zI a5, zU]
/-- read -/
def Pr_read (I : zS → Prop) : Prop := ∀ a1 : Int, rI a1 → Pair I 107 185 [zR 10 0, zI a1, zU, zU] [zR 11 0, zI a1, zU]
/-- told -/
def Pr_told (I : zS → Prop) : Prop := ∀ a1 : Int, rI a1 → Pair I 108 186 [zR 10 0, zI a1] [zR 11 0, zI a1, zU, zU]
theorem lc_pupil {I : zS → Prop} {L : Nat} (hI : zIs I L) (hP : Pr_pupil I) (hL : L ≤ 3072) {s : zS} (hs : I s) {i : Int} (h0 : 0 ≤ i) (h6 : i + 6 ≤ (L : Int)) {fs : List zFr} {Q : List zV → zS → Prop} (kk : ∀ s2, I s2 → Ev ((188, 1447, [zR 110 0, zR 10 0, zR 11 0, zI i], []) :: fs) s2 Q) : Ev ((188, 196, [zR 110 0, zR 10 0, zR 11 0, zI i], []) :: fs) s Q := by
  obtain ⟨hl, hx⟩ := hI s hs
  have w1 : w32 (i + 1) = i + 1 := w32_id (by omega) (by omega)
  have b1 : (zak 110 = 0 ∧ 0 ≤ i + 1 ∧ i + 1 < zln s 110) = True := eq_true ⟨zak110, by omega, by rw [zln110, hl]; omega⟩
  have w2 : w32 (i + 2) = i + 2 := w32_id (by omega) (by omega)
  have b2 : (zak 110 = 0 ∧ 0 ≤ i + 2 ∧ i + 2 < zln s 110) = True := eq_true ⟨zak110, by omega, by rw [zln110, hl]; omega⟩
  have w3 : w32 (i + 3) = i + 3 := w32_id (by omega) (by omega)
  have b3 : (zak 110 = 0 ∧ 0 ≤ i + 3 ∧ i + 3 < zln s 110) = True := eq_true ⟨zak110, by omega, by rw [zln110, hl]; omega⟩
  obtain ⟨r, s1, s2, c1, c2, h2, e1, e2⟩ := hP (s 110 0 (i + 1)) (s 110 0 (i + 2)) (s 110 0 (i + 3)) (hx (i + 1) (by omega) (by omega)) (hx (i + 2) (by omega) (by omega)) (hx (i + 3) (by omega) (by omega)) s hs
  simp only [r188_196, r188_197, r188_198, r188_199, r188_200, r188_201, r188_202, r188_203, r188_204, r188_205, r188_206, r188_207, r188_208, r188_209, r188_210, r188_211, r188_212, w1, w2, w3, b1, b2, b3, true_and]
  rw [c1]
  have d1 : (zak 110 = 0 ∧ 0 ≤ i + 1 ∧ i + 1 < zln s1 110) = True := eq_true ⟨zak110, by omega, by rw [zln110, e2, hl]; omega⟩
  have d2 : (zak 110 = 0 ∧ 0 ≤ i + 2 ∧ i + 2 < zln s1 110) = True := eq_true ⟨zak110, by omega, by rw [zln110, e2, hl]; omega⟩
  have d3 : (zak 110 = 0 ∧ 0 ≤ i + 3 ∧ i + 3 < zln s1 110) = True := eq_true ⟨zak110, by omega, by rw [zln110, e2, hl]; omega⟩
  simp only [r188_215, r188_216, r188_217, r188_218, r188_219, r188_220, r188_221, r188_222, r188_223, r188_224, r188_225, r188_226, r188_227, r188_228, r188_229, r188_230, r188_231, w1, w2, w3, d1, d2, d3, true_and, e1]
  rw [c2]
  simp only [r188_234, r188_237, r188_238, if_true]
  exact kk s2 h2
theorem lc_teacher {I : zS → Prop} {L : Nat} (hI : zIs I L) (hP : Pr_teacher I) (hL : L ≤ 3072) {s : zS} (hs : I s) {i : Int} (h0 : 0 ≤ i) (h6 : i + 6 ≤ (L : Int)) {fs : List zFr} {Q : List zV → zS → Prop} (kk : ∀ s2, I s2 → Ev ((188, 1447, [zR 110 0, zR 10 0, zR 11 0, zI i], []) :: fs) s2 Q) : Ev ((188, 239, [zR 110 0, zR 10 0, zR 11 0, zI i], []) :: fs) s Q := by
  obtain ⟨hl, hx⟩ := hI s hs
  have w1 : w32 (i + 1) = i + 1 := w32_id (by omega) (by omega)
  have b1 : (zak 110 = 0 ∧ 0 ≤ i + 1 ∧ i + 1 < zln s 110) = True := eq_true ⟨zak110, by omega, by rw [zln110, hl]; omega⟩
  have w2 : w32 (i + 2) = i + 2 := w32_id (by omega) (by omega)
  have b2 : (zak 110 = 0 ∧ 0 ≤ i + 2 ∧ i + 2 < zln s 110) = True := eq_true ⟨zak110, by omega, by rw [zln110, hl]; omega⟩
  obtain ⟨r, s1, s2, c1, c2, h2, e1, e2⟩ := hP (s 110 0 (i + 1)) (s 110 0 (i + 2)) (hx (i + 1) (by omega) (by omega)) (hx (i + 2) (by omega) (by omega)) s hs
  simp only [r188_239, r188_240, r188_241, r188_242, r188_243, r188_244, r188_245, r188_246, r188_247, r188_248, r188_249, r188_250, w1, w2, b1, b2, true_and]
  rw [c1]
  have d1 : (zak 110 = 0 ∧ 0 ≤ i + 1 ∧ i + 1 < zln s1 110) = True := eq_true ⟨zak110, by omega, by rw [zln110, e2, hl]; omega⟩
  have d2 : (zak 110 = 0 ∧ 0 ≤ i + 2 ∧ i + 2 < zln s1 110) = True := eq_true ⟨zak110, by omega, by rw [zln110, e2, hl]; omega⟩
  simp only [r188_253, r188_254, r188_255, r188_256, r188_257, r188_258, r188_259, r188_260, r188_261, r188_262, r188_263, r188_264, w1, w2, d1, d2, true_and, e1]
  rw [c2]
  simp only [r188_267, r188_270, r188_271, if_true]
  exact kk s2 h2
theorem lc_as {I : zS → Prop} {L : Nat} (hI : zIs I L) (hP : Pr_as I) (hL : L ≤ 3072) {s : zS} (hs : I s) {i : Int} (h0 : 0 ≤ i) (h6 : i + 6 ≤ (L : Int)) {fs : List zFr} {Q : List zV → zS → Prop} (kk : ∀ s2, I s2 → Ev ((188, 1447, [zR 110 0, zR 10 0, zR 11 0, zI i], []) :: fs) s2 Q) : Ev ((188, 272, [zR 110 0, zR 10 0, zR 11 0, zI i], []) :: fs) s Q := by
  obtain ⟨hl, hx⟩ := hI s hs
  have w1 : w32 (i + 1) = i + 1 := w32_id (by omega) (by omega)
  have b1 : (zak 110 = 0 ∧ 0 ≤ i + 1 ∧ i + 1 < zln s 110) = True := eq_true ⟨zak110, by omega, by rw [zln110, hl]; omega⟩
  have w2 : w32 (i + 2) = i + 2 := w32_id (by omega) (by omega)
  have b2 : (zak 110 = 0 ∧ 0 ≤ i + 2 ∧ i + 2 < zln s 110) = True := eq_true ⟨zak110, by omega, by rw [zln110, hl]; omega⟩
  have w3 : w32 (i + 3) = i + 3 := w32_id (by omega) (by omega)
  have b3 : (zak 110 = 0 ∧ 0 ≤ i + 3 ∧ i + 3 < zln s 110) = True := eq_true ⟨zak110, by omega, by rw [zln110, hl]; omega⟩
  by_cases q2 : s 110 0 (i + 2) = 0
  · have q2 : (s 110 0 (i + 2) = 0) = True := eq_true q2
    obtain ⟨r, s1, s2, c1, c2, h2, e1, e2⟩ := hP (s 110 0 (i + 1)) 0 (s 110 0 (i + 3)) (hx (i + 1) (by omega) (by omega)) (Or.inl rfl) (hx (i + 3) (by omega) (by omega)) s hs
    simp only [r188_272, r188_273, r188_274, r188_275, r188_276, r188_277, r188_278, r188_279, r188_280, r188_281, r188_282, r188_283, r188_286, r188_287, r188_290, r188_291, r188_292, r188_293, r188_294, r188_295, r188_296, w1, w2, w3, b1, b2, b3, true_and, q2, if_true, if_false]
    rw [c1]
    have d1 : (zak 110 = 0 ∧ 0 ≤ i + 1 ∧ i + 1 < zln s1 110) = True := eq_true ⟨zak110, by omega, by rw [zln110, e2, hl]; omega⟩
    have d2 : (zak 110 = 0 ∧ 0 ≤ i + 2 ∧ i + 2 < zln s1 110) = True := eq_true ⟨zak110, by omega, by rw [zln110, e2, hl]; omega⟩
    have d3 : (zak 110 = 0 ∧ 0 ≤ i + 3 ∧ i + 3 < zln s1 110) = True := eq_true ⟨zak110, by omega, by rw [zln110, e2, hl]; omega⟩
    simp only [r188_299, r188_300, r188_301, r188_302, r188_303, r188_304, r188_305, r188_306, r188_307, r188_308, r188_309, r188_310, r188_313, r188_314, r188_317, r188_318, r188_319, r188_320, r188_321, r188_322, r188_323, w1, w2, w3, d1, d2, d3, true_and, e1, q2, if_true, if_false]
    rw [c2]
    simp only [r188_326, r188_329, r188_330, if_true]
    exact kk s2 h2
  · have q2 : (s 110 0 (i + 2) = 0) = False := eq_false q2
    obtain ⟨r, s1, s2, c1, c2, h2, e1, e2⟩ := hP (s 110 0 (i + 1)) 1 (s 110 0 (i + 3)) (hx (i + 1) (by omega) (by omega)) (Or.inr rfl) (hx (i + 3) (by omega) (by omega)) s hs
    simp only [r188_272, r188_273, r188_274, r188_275, r188_276, r188_277, r188_278, r188_279, r188_280, r188_281, r188_282, r188_283, r188_286, r188_287, r188_290, r188_291, r188_292, r188_293, r188_294, r188_295, r188_296, w1, w2, w3, b1, b2, b3, true_and, q2, if_true, if_false]
    rw [c1]
    have d1 : (zak 110 = 0 ∧ 0 ≤ i + 1 ∧ i + 1 < zln s1 110) = True := eq_true ⟨zak110, by omega, by rw [zln110, e2, hl]; omega⟩
    have d2 : (zak 110 = 0 ∧ 0 ≤ i + 2 ∧ i + 2 < zln s1 110) = True := eq_true ⟨zak110, by omega, by rw [zln110, e2, hl]; omega⟩
    have d3 : (zak 110 = 0 ∧ 0 ≤ i + 3 ∧ i + 3 < zln s1 110) = True := eq_true ⟨zak110, by omega, by rw [zln110, e2, hl]; omega⟩
    simp only [r188_299, r188_300, r188_301, r188_302, r188_303, r188_304, r188_305, r188_306, r188_307, r188_308, r188_309, r188_310, r188_313, r188_314, r188_317, r188_318, r188_319, r188_320, r188_321, r188_322, r188_323, w1, w2, w3, d1, d2, d3, true_and, e1, q2, if_true, if_false]
    rw [c2]
    simp only [r188_326, r188_329, r188_330, if_true]
    exact kk s2 h2
theorem lc_of {I : zS → Prop} {L : Nat} (hI : zIs I L) (hP : Pr_of I) (hL : L ≤ 3072) {s : zS} (hs : I s) {i : Int} (h0 : 0 ≤ i) (h6 : i + 6 ≤ (L : Int)) {fs : List zFr} {Q : List zV → zS → Prop} (kk : ∀ s2, I s2 → Ev ((188, 1447, [zR 110 0, zR 10 0, zR 11 0, zI i], []) :: fs) s2 Q) : Ev ((188, 331, [zR 110 0, zR 10 0, zR 11 0, zI i], []) :: fs) s Q := by
  obtain ⟨hl, hx⟩ := hI s hs
  have w1 : w32 (i + 1) = i + 1 := w32_id (by omega) (by omega)
  have b1 : (zak 110 = 0 ∧ 0 ≤ i + 1 ∧ i + 1 < zln s 110) = True := eq_true ⟨zak110, by omega, by rw [zln110, hl]; omega⟩
  have w2 : w32 (i + 2) = i + 2 := w32_id (by omega) (by omega)
  have b2 : (zak 110 = 0 ∧ 0 ≤ i + 2 ∧ i + 2 < zln s 110) = True := eq_true ⟨zak110, by omega, by rw [zln110, hl]; omega⟩
  obtain ⟨r, s1, s2, c1, c2, h2, e1, e2⟩ := hP (s 110 0 (i + 1)) (s 110 0 (i + 2)) (hx (i + 1) (by omega) (by omega)) (hx (i + 2) (by omega) (by omega)) s hs
  simp only [r188_331, r188_332, r188_333, r188_334, r188_335, r188_336, r188_337, r188_338, r188_339, r188_340, r188_341, r188_342, w1, w2, b1, b2, true_and]
  rw [c1]
  have d1 : (zak 110 = 0 ∧ 0 ≤ i + 1 ∧ i + 1 < zln s1 110) = True := eq_true ⟨zak110, by omega, by rw [zln110, e2, hl]; omega⟩
  have d2 : (zak 110 = 0 ∧ 0 ≤ i + 2 ∧ i + 2 < zln s1 110) = True := eq_true ⟨zak110, by omega, by rw [zln110, e2, hl]; omega⟩
  simp only [r188_345, r188_346, r188_347, r188_348, r188_349, r188_350, r188_351, r188_352, r188_353, r188_354, r188_355, r188_356, w1, w2, d1, d2, true_and, e1]
  rw [c2]
  simp only [r188_359, r188_362, r188_363, if_true]
  exact kk s2 h2
theorem lc_here {I : zS → Prop} {L : Nat} (hI : zIs I L) (hP : Pr_here I) (hL : L ≤ 3072) {s : zS} (hs : I s) {i : Int} (h0 : 0 ≤ i) (h6 : i + 6 ≤ (L : Int)) {fs : List zFr} {Q : List zV → zS → Prop} (kk : ∀ s2, I s2 → Ev ((188, 1447, [zR 110 0, zR 10 0, zR 11 0, zI i], []) :: fs) s2 Q) : Ev ((188, 364, [zR 110 0, zR 10 0, zR 11 0, zI i], []) :: fs) s Q := by
  obtain ⟨hl, hx⟩ := hI s hs
  have w1 : w32 (i + 1) = i + 1 := w32_id (by omega) (by omega)
  have b1 : (zak 110 = 0 ∧ 0 ≤ i + 1 ∧ i + 1 < zln s 110) = True := eq_true ⟨zak110, by omega, by rw [zln110, hl]; omega⟩
  have w2 : w32 (i + 2) = i + 2 := w32_id (by omega) (by omega)
  have b2 : (zak 110 = 0 ∧ 0 ≤ i + 2 ∧ i + 2 < zln s 110) = True := eq_true ⟨zak110, by omega, by rw [zln110, hl]; omega⟩
  by_cases q2 : s 110 0 (i + 2) = 0
  · have q2 : (s 110 0 (i + 2) = 0) = True := eq_true q2
    obtain ⟨r, s1, s2, c1, c2, h2, e1, e2⟩ := hP (s 110 0 (i + 1)) 0 (hx (i + 1) (by omega) (by omega)) (Or.inl rfl) s hs
    simp only [r188_364, r188_365, r188_366, r188_367, r188_368, r188_369, r188_370, r188_371, r188_372, r188_373, r188_374, r188_375, r188_378, r188_379, r188_382, r188_383, w1, w2, b1, b2, true_and, q2, if_true, if_false]
    rw [c1]
    have d1 : (zak 110 = 0 ∧ 0 ≤ i + 1 ∧ i + 1 < zln s1 110) = True := eq_true ⟨zak110, by omega, by rw [zln110, e2, hl]; omega⟩
    have d2 : (zak 110 = 0 ∧ 0 ≤ i + 2 ∧ i + 2 < zln s1 110) = True := eq_true ⟨zak110, by omega, by rw [zln110, e2, hl]; omega⟩
    simp only [r188_386, r188_387, r188_388, r188_389, r188_390, r188_391, r188_392, r188_393, r188_394, r188_395, r188_396, r188_397, r188_400, r188_401, r188_404, r188_405, w1, w2, d1, d2, true_and, e1, q2, if_true, if_false]
    rw [c2]
    simp only [r188_408, r188_411, r188_412, if_true]
    exact kk s2 h2
  · have q2 : (s 110 0 (i + 2) = 0) = False := eq_false q2
    obtain ⟨r, s1, s2, c1, c2, h2, e1, e2⟩ := hP (s 110 0 (i + 1)) 1 (hx (i + 1) (by omega) (by omega)) (Or.inr rfl) s hs
    simp only [r188_364, r188_365, r188_366, r188_367, r188_368, r188_369, r188_370, r188_371, r188_372, r188_373, r188_374, r188_375, r188_378, r188_379, r188_382, r188_383, w1, w2, b1, b2, true_and, q2, if_true, if_false]
    rw [c1]
    have d1 : (zak 110 = 0 ∧ 0 ≤ i + 1 ∧ i + 1 < zln s1 110) = True := eq_true ⟨zak110, by omega, by rw [zln110, e2, hl]; omega⟩
    have d2 : (zak 110 = 0 ∧ 0 ≤ i + 2 ∧ i + 2 < zln s1 110) = True := eq_true ⟨zak110, by omega, by rw [zln110, e2, hl]; omega⟩
    simp only [r188_386, r188_387, r188_388, r188_389, r188_390, r188_391, r188_392, r188_393, r188_394, r188_395, r188_396, r188_397, r188_400, r188_401, r188_404, r188_405, w1, w2, d1, d2, true_and, e1, q2, if_true, if_false]
    rw [c2]
    simp only [r188_408, r188_411, r188_412, if_true]
    exact kk s2 h2
theorem lc_friend {I : zS → Prop} {L : Nat} (hI : zIs I L) (hP : Pr_friend I) (hL : L ≤ 3072) {s : zS} (hs : I s) {i : Int} (h0 : 0 ≤ i) (h6 : i + 6 ≤ (L : Int)) {fs : List zFr} {Q : List zV → zS → Prop} (kk : ∀ s2, I s2 → Ev ((188, 1447, [zR 110 0, zR 10 0, zR 11 0, zI i], []) :: fs) s2 Q) : Ev ((188, 413, [zR 110 0, zR 10 0, zR 11 0, zI i], []) :: fs) s Q := by
  obtain ⟨hl, hx⟩ := hI s hs
  have w1 : w32 (i + 1) = i + 1 := w32_id (by omega) (by omega)
  have b1 : (zak 110 = 0 ∧ 0 ≤ i + 1 ∧ i + 1 < zln s 110) = True := eq_true ⟨zak110, by omega, by rw [zln110, hl]; omega⟩
  have w2 : w32 (i + 2) = i + 2 := w32_id (by omega) (by omega)
  have b2 : (zak 110 = 0 ∧ 0 ≤ i + 2 ∧ i + 2 < zln s 110) = True := eq_true ⟨zak110, by omega, by rw [zln110, hl]; omega⟩
  obtain ⟨r, s1, s2, c1, c2, h2, e1, e2⟩ := hP (s 110 0 (i + 1)) (s 110 0 (i + 2)) (hx (i + 1) (by omega) (by omega)) (hx (i + 2) (by omega) (by omega)) s hs
  simp only [r188_413, r188_414, r188_415, r188_416, r188_417, r188_418, r188_419, r188_420, r188_421, r188_422, r188_423, r188_424, w1, w2, b1, b2, true_and]
  rw [c1]
  have d1 : (zak 110 = 0 ∧ 0 ≤ i + 1 ∧ i + 1 < zln s1 110) = True := eq_true ⟨zak110, by omega, by rw [zln110, e2, hl]; omega⟩
  have d2 : (zak 110 = 0 ∧ 0 ≤ i + 2 ∧ i + 2 < zln s1 110) = True := eq_true ⟨zak110, by omega, by rw [zln110, e2, hl]; omega⟩
  simp only [r188_427, r188_428, r188_429, r188_430, r188_431, r188_432, r188_433, r188_434, r188_435, r188_436, r188_437, r188_438, w1, w2, d1, d2, true_and, e1]
  rw [c2]
  simp only [r188_441, r188_444, r188_445, if_true]
  exact kk s2 h2
theorem lc_wish {I : zS → Prop} {L : Nat} (hI : zIs I L) (hP : Pr_wish I) (hL : L ≤ 3072) {s : zS} (hs : I s) {i : Int} (h0 : 0 ≤ i) (h6 : i + 6 ≤ (L : Int)) {fs : List zFr} {Q : List zV → zS → Prop} (kk : ∀ s2, I s2 → Ev ((188, 1447, [zR 110 0, zR 10 0, zR 11 0, zI i], []) :: fs) s2 Q) : Ev ((188, 446, [zR 110 0, zR 10 0, zR 11 0, zI i], []) :: fs) s Q := by
  obtain ⟨hl, hx⟩ := hI s hs
  have w1 : w32 (i + 1) = i + 1 := w32_id (by omega) (by omega)
  have b1 : (zak 110 = 0 ∧ 0 ≤ i + 1 ∧ i + 1 < zln s 110) = True := eq_true ⟨zak110, by omega, by rw [zln110, hl]; omega⟩
  have w2 : w32 (i + 2) = i + 2 := w32_id (by omega) (by omega)
  have b2 : (zak 110 = 0 ∧ 0 ≤ i + 2 ∧ i + 2 < zln s 110) = True := eq_true ⟨zak110, by omega, by rw [zln110, hl]; omega⟩
  obtain ⟨r, s1, s2, c1, c2, h2, e1, e2⟩ := hP (s 110 0 (i + 1)) (s 110 0 (i + 2)) (hx (i + 1) (by omega) (by omega)) (hx (i + 2) (by omega) (by omega)) s hs
  simp only [r188_446, r188_447, r188_448, r188_449, r188_450, r188_451, r188_452, r188_453, r188_454, r188_455, r188_456, r188_457, w1, w2, b1, b2, true_and]
  rw [c1]
  have d1 : (zak 110 = 0 ∧ 0 ≤ i + 1 ∧ i + 1 < zln s1 110) = True := eq_true ⟨zak110, by omega, by rw [zln110, e2, hl]; omega⟩
  have d2 : (zak 110 = 0 ∧ 0 ≤ i + 2 ∧ i + 2 < zln s1 110) = True := eq_true ⟨zak110, by omega, by rw [zln110, e2, hl]; omega⟩
  simp only [r188_460, r188_461, r188_462, r188_463, r188_464, r188_465, r188_466, r188_467, r188_468, r188_469, r188_470, r188_471, w1, w2, d1, d2, true_and, e1]
  rw [c2]
  simp only [r188_474, r188_477, r188_478, if_true]
  exact kk s2 h2
theorem lc_saw {I : zS → Prop} {L : Nat} (hI : zIs I L) (hP : Pr_saw I) (hL : L ≤ 3072) {s : zS} (hs : I s) {i : Int} (h0 : 0 ≤ i) (h6 : i + 6 ≤ (L : Int)) {fs : List zFr} {Q : List zV → zS → Prop} (kk : ∀ s2, I s2 → Ev ((188, 1447, [zR 110 0, zR 10 0, zR 11 0, zI i], []) :: fs) s2 Q) : Ev ((188, 479, [zR 110 0, zR 10 0, zR 11 0, zI i], []) :: fs) s Q := by
  obtain ⟨hl, hx⟩ := hI s hs
  have w1 : w32 (i + 1) = i + 1 := w32_id (by omega) (by omega)
  have b1 : (zak 110 = 0 ∧ 0 ≤ i + 1 ∧ i + 1 < zln s 110) = True := eq_true ⟨zak110, by omega, by rw [zln110, hl]; omega⟩
  have w2 : w32 (i + 2) = i + 2 := w32_id (by omega) (by omega)
  have b2 : (zak 110 = 0 ∧ 0 ≤ i + 2 ∧ i + 2 < zln s 110) = True := eq_true ⟨zak110, by omega, by rw [zln110, hl]; omega⟩
  have w3 : w32 (i + 3) = i + 3 := w32_id (by omega) (by omega)
  have b3 : (zak 110 = 0 ∧ 0 ≤ i + 3 ∧ i + 3 < zln s 110) = True := eq_true ⟨zak110, by omega, by rw [zln110, hl]; omega⟩
  obtain ⟨r, s1, s2, c1, c2, h2, e1, e2⟩ := hP (s 110 0 (i + 1)) (s 110 0 (i + 2)) (s 110 0 (i + 3)) (hx (i + 1) (by omega) (by omega)) (hx (i + 2) (by omega) (by omega)) (hx (i + 3) (by omega) (by omega)) s hs
  simp only [r188_479, r188_480, r188_481, r188_482, r188_483, r188_484, r188_485, r188_486, r188_487, r188_488, r188_489, r188_490, r188_491, r188_492, r188_493, r188_494, r188_495, w1, w2, w3, b1, b2, b3, true_and]
  rw [c1]
  have d1 : (zak 110 = 0 ∧ 0 ≤ i + 1 ∧ i + 1 < zln s1 110) = True := eq_true ⟨zak110, by omega, by rw [zln110, e2, hl]; omega⟩
  have d2 : (zak 110 = 0 ∧ 0 ≤ i + 2 ∧ i + 2 < zln s1 110) = True := eq_true ⟨zak110, by omega, by rw [zln110, e2, hl]; omega⟩
  have d3 : (zak 110 = 0 ∧ 0 ≤ i + 3 ∧ i + 3 < zln s1 110) = True := eq_true ⟨zak110, by omega, by rw [zln110, e2, hl]; omega⟩
  simp only [r188_498, r188_499, r188_500, r188_501, r188_502, r188_503, r188_504, r188_505, r188_506, r188_507, r188_508, r188_509, r188_510, r188_511, r188_512, r188_513, r188_514, w1, w2, w3, d1, d2, d3, true_and, e1]
  rw [c2]
  simp only [r188_517, r188_520, r188_521, if_true]
  exact kk s2 h2
theorem lc_ill {I : zS → Prop} {L : Nat} (hI : zIs I L) (hP : Pr_ill I) (hL : L ≤ 3072) {s : zS} (hs : I s) {i : Int} (h0 : 0 ≤ i) (h6 : i + 6 ≤ (L : Int)) {fs : List zFr} {Q : List zV → zS → Prop} (kk : ∀ s2, I s2 → Ev ((188, 1447, [zR 110 0, zR 10 0, zR 11 0, zI i], []) :: fs) s2 Q) : Ev ((188, 522, [zR 110 0, zR 10 0, zR 11 0, zI i], []) :: fs) s Q := by
  obtain ⟨hl, hx⟩ := hI s hs
  have w1 : w32 (i + 1) = i + 1 := w32_id (by omega) (by omega)
  have b1 : (zak 110 = 0 ∧ 0 ≤ i + 1 ∧ i + 1 < zln s 110) = True := eq_true ⟨zak110, by omega, by rw [zln110, hl]; omega⟩
  have w2 : w32 (i + 2) = i + 2 := w32_id (by omega) (by omega)
  have b2 : (zak 110 = 0 ∧ 0 ≤ i + 2 ∧ i + 2 < zln s 110) = True := eq_true ⟨zak110, by omega, by rw [zln110, hl]; omega⟩
  by_cases q2 : s 110 0 (i + 2) = 0
  · have q2 : (s 110 0 (i + 2) = 0) = True := eq_true q2
    obtain ⟨r, s1, s2, c1, c2, h2, e1, e2⟩ := hP (s 110 0 (i + 1)) 0 (hx (i + 1) (by omega) (by omega)) (Or.inl rfl) s hs
    simp only [r188_522, r188_523, r188_524, r188_525, r188_526, r188_527, r188_528, r188_529, r188_530, r188_531, r188_532, r188_533, r188_536, r188_537, r188_540, r188_541, w1, w2, b1, b2, true_and, q2, if_true, if_false]
    rw [c1]
    have d1 : (zak 110 = 0 ∧ 0 ≤ i + 1 ∧ i + 1 < zln s1 110) = True := eq_true ⟨zak110, by omega, by rw [zln110, e2, hl]; omega⟩
    have d2 : (zak 110 = 0 ∧ 0 ≤ i + 2 ∧ i + 2 < zln s1 110) = True := eq_true ⟨zak110, by omega, by rw [zln110, e2, hl]; omega⟩
    simp only [r188_544, r188_545, r188_546, r188_547, r188_548, r188_549, r188_550, r188_551, r188_552, r188_553, r188_554, r188_555, r188_558, r188_559, r188_562, r188_563, w1, w2, d1, d2, true_and, e1, q2, if_true, if_false]
    rw [c2]
    simp only [r188_566, r188_569, r188_570, if_true]
    exact kk s2 h2
  · have q2 : (s 110 0 (i + 2) = 0) = False := eq_false q2
    obtain ⟨r, s1, s2, c1, c2, h2, e1, e2⟩ := hP (s 110 0 (i + 1)) 1 (hx (i + 1) (by omega) (by omega)) (Or.inr rfl) s hs
    simp only [r188_522, r188_523, r188_524, r188_525, r188_526, r188_527, r188_528, r188_529, r188_530, r188_531, r188_532, r188_533, r188_536, r188_537, r188_540, r188_541, w1, w2, b1, b2, true_and, q2, if_true, if_false]
    rw [c1]
    have d1 : (zak 110 = 0 ∧ 0 ≤ i + 1 ∧ i + 1 < zln s1 110) = True := eq_true ⟨zak110, by omega, by rw [zln110, e2, hl]; omega⟩
    have d2 : (zak 110 = 0 ∧ 0 ≤ i + 2 ∧ i + 2 < zln s1 110) = True := eq_true ⟨zak110, by omega, by rw [zln110, e2, hl]; omega⟩
    simp only [r188_544, r188_545, r188_546, r188_547, r188_548, r188_549, r188_550, r188_551, r188_552, r188_553, r188_554, r188_555, r188_558, r188_559, r188_562, r188_563, w1, w2, d1, d2, true_and, e1, q2, if_true, if_false]
    rw [c2]
    simp only [r188_566, r188_569, r188_570, if_true]
    exact kk s2 h2
theorem lc_terms {I : zS → Prop} {L : Nat} (hI : zIs I L) (hP : Pr_terms I) (hL : L ≤ 3072) {s : zS} (hs : I s) {i : Int} (h0 : 0 ≤ i) (h6 : i + 6 ≤ (L : Int)) {fs : List zFr} {Q : List zV → zS → Prop} (kk : ∀ s2, I s2 → Ev ((188, 1447, [zR 110 0, zR 10 0, zR 11 0, zI i], []) :: fs) s2 Q) : Ev ((188, 571, [zR 110 0, zR 10 0, zR 11 0, zI i], []) :: fs) s Q := by
  obtain ⟨hl, hx⟩ := hI s hs
  have w1 : w32 (i + 1) = i + 1 := w32_id (by omega) (by omega)
  have b1 : (zak 110 = 0 ∧ 0 ≤ i + 1 ∧ i + 1 < zln s 110) = True := eq_true ⟨zak110, by omega, by rw [zln110, hl]; omega⟩
  have w2 : w32 (i + 2) = i + 2 := w32_id (by omega) (by omega)
  have b2 : (zak 110 = 0 ∧ 0 ≤ i + 2 ∧ i + 2 < zln s 110) = True := eq_true ⟨zak110, by omega, by rw [zln110, hl]; omega⟩
  have w3 : w32 (i + 3) = i + 3 := w32_id (by omega) (by omega)
  have b3 : (zak 110 = 0 ∧ 0 ≤ i + 3 ∧ i + 3 < zln s 110) = True := eq_true ⟨zak110, by omega, by rw [zln110, hl]; omega⟩
  have w4 : w32 (i + 4) = i + 4 := w32_id (by omega) (by omega)
  have b4 : (zak 110 = 0 ∧ 0 ≤ i + 4 ∧ i + 4 < zln s 110) = True := eq_true ⟨zak110, by omega, by rw [zln110, hl]; omega⟩
  obtain ⟨r, s1, s2, c1, c2, h2, e1, e2⟩ := hP (s 110 0 (i + 1)) (s 110 0 (i + 2)) (s 110 0 (i + 3)) (s 110 0 (i + 4)) (hx (i + 1) (by omega) (by omega)) (hx (i + 2) (by omega) (by omega)) (hx (i + 3) (by omega) (by omega)) (hx (i + 4) (by omega) (by omega)) s hs
  simp only [r188_571, r188_572, r188_573, r188_574, r188_575, r188_576, r188_577, r188_578, r188_579, r188_580, r188_581, r188_582, r188_583, r188_584, r188_585, r188_586, r188_587, r188_588, r188_589, r188_590, r188_591, r188_592, w1, w2, w3, w4, b1, b2, b3, b4, true_and]
  rw [c1]
  have d1 : (zak 110 = 0 ∧ 0 ≤ i + 1 ∧ i + 1 < zln s1 110) = True := eq_true ⟨zak110, by omega, by rw [zln110, e2, hl]; omega⟩
  have d2 : (zak 110 = 0 ∧ 0 ≤ i + 2 ∧ i + 2 < zln s1 110) = True := eq_true ⟨zak110, by omega, by rw [zln110, e2, hl]; omega⟩
  have d3 : (zak 110 = 0 ∧ 0 ≤ i + 3 ∧ i + 3 < zln s1 110) = True := eq_true ⟨zak110, by omega, by rw [zln110, e2, hl]; omega⟩
  have d4 : (zak 110 = 0 ∧ 0 ≤ i + 4 ∧ i + 4 < zln s1 110) = True := eq_true ⟨zak110, by omega, by rw [zln110, e2, hl]; omega⟩
  simp only [r188_595, r188_596, r188_597, r188_598, r188_599, r188_600, r188_601, r188_602, r188_603, r188_604, r188_605, r188_606, r188_607, r188_608, r188_609, r188_610, r188_611, r188_612, r188_613, r188_614, r188_615, r188_616, w1, w2, w3, w4, d1, d2, d3, d4, true_and, e1]
  rw [c2]
  simp only [r188_619, r188_622, r188_623, if_true]
  exact kk s2 h2
theorem lc_level {I : zS → Prop} {L : Nat} (hI : zIs I L) (hP : Pr_level I) (hL : L ≤ 3072) {s : zS} (hs : I s) {i : Int} (h0 : 0 ≤ i) (h6 : i + 6 ≤ (L : Int)) {fs : List zFr} {Q : List zV → zS → Prop} (kk : ∀ s2, I s2 → Ev ((188, 1447, [zR 110 0, zR 10 0, zR 11 0, zI i], []) :: fs) s2 Q) : Ev ((188, 624, [zR 110 0, zR 10 0, zR 11 0, zI i], []) :: fs) s Q := by
  obtain ⟨hl, hx⟩ := hI s hs
  have w1 : w32 (i + 1) = i + 1 := w32_id (by omega) (by omega)
  have b1 : (zak 110 = 0 ∧ 0 ≤ i + 1 ∧ i + 1 < zln s 110) = True := eq_true ⟨zak110, by omega, by rw [zln110, hl]; omega⟩
  obtain ⟨r, s1, s2, c1, c2, h2, e1, e2⟩ := hP (s 110 0 (i + 1)) (hx (i + 1) (by omega) (by omega)) s hs
  simp only [r188_624, r188_625, r188_626, r188_627, r188_628, r188_629, r188_630, w1, b1, true_and]
  rw [c1]
  have d1 : (zak 110 = 0 ∧ 0 ≤ i + 1 ∧ i + 1 < zln s1 110) = True := eq_true ⟨zak110, by omega, by rw [zln110, e2, hl]; omega⟩
  simp only [r188_633, r188_634, r188_635, r188_636, r188_637, r188_638, r188_639, w1, d1, true_and, e1]
  rw [c2]
  simp only [r188_642, r188_645, r188_646, if_true]
  exact kk s2 h2
theorem lc_may {I : zS → Prop} {L : Nat} (hI : zIs I L) (hP : Pr_may I) (hL : L ≤ 3072) {s : zS} (hs : I s) {i : Int} (h0 : 0 ≤ i) (h6 : i + 6 ≤ (L : Int)) {fs : List zFr} {Q : List zV → zS → Prop} (kk : ∀ s2, I s2 → Ev ((188, 1447, [zR 110 0, zR 10 0, zR 11 0, zI i], []) :: fs) s2 Q) : Ev ((188, 647, [zR 110 0, zR 10 0, zR 11 0, zI i], []) :: fs) s Q := by
  obtain ⟨hl, hx⟩ := hI s hs
  have w1 : w32 (i + 1) = i + 1 := w32_id (by omega) (by omega)
  have b1 : (zak 110 = 0 ∧ 0 ≤ i + 1 ∧ i + 1 < zln s 110) = True := eq_true ⟨zak110, by omega, by rw [zln110, hl]; omega⟩
  have w2 : w32 (i + 2) = i + 2 := w32_id (by omega) (by omega)
  have b2 : (zak 110 = 0 ∧ 0 ≤ i + 2 ∧ i + 2 < zln s 110) = True := eq_true ⟨zak110, by omega, by rw [zln110, hl]; omega⟩
  obtain ⟨r, s1, s2, c1, c2, h2, e1, e2⟩ := hP (s 110 0 (i + 1)) (s 110 0 (i + 2)) (hx (i + 1) (by omega) (by omega)) (hx (i + 2) (by omega) (by omega)) s hs
  simp only [r188_647, r188_648, r188_649, r188_650, r188_651, r188_652, r188_653, r188_654, r188_655, r188_656, r188_657, r188_658, w1, w2, b1, b2, true_and]
  rw [c1]
  have d1 : (zak 110 = 0 ∧ 0 ≤ i + 1 ∧ i + 1 < zln s1 110) = True := eq_true ⟨zak110, by omega, by rw [zln110, e2, hl]; omega⟩
  have d2 : (zak 110 = 0 ∧ 0 ≤ i + 2 ∧ i + 2 < zln s1 110) = True := eq_true ⟨zak110, by omega, by rw [zln110, e2, hl]; omega⟩
  simp only [r188_661, r188_662, r188_663, r188_664, r188_665, r188_666, r188_667, r188_668, r188_669, r188_670, r188_671, r188_672, w1, w2, d1, d2, true_and, e1]
  rw [c2]
  simp only [r188_675, r188_678, r188_679, if_true]
  exact kk s2 h2
theorem lc_classing {I : zS → Prop} {L : Nat} (hI : zIs I L) (hP : Pr_classing I) (hL : L ≤ 3072) {s : zS} (hs : I s) {i : Int} (h0 : 0 ≤ i) (h6 : i + 6 ≤ (L : Int)) {fs : List zFr} {Q : List zV → zS → Prop} (kk : ∀ s2, I s2 → Ev ((188, 1447, [zR 110 0, zR 10 0, zR 11 0, zI i], []) :: fs) s2 Q) : Ev ((188, 680, [zR 110 0, zR 10 0, zR 11 0, zI i], []) :: fs) s Q := by
  obtain ⟨hl, hx⟩ := hI s hs
  obtain ⟨r, s1, s2, c1, c2, h2, e1, e2⟩ := hP  s hs
  simp only [r188_680, r188_681]
  rw [c1]
  simp only [r188_684, r188_685]
  rw [c2]
  simp only [r188_688, r188_691, r188_692, if_true]
  exact kk s2 h2
theorem lc_noon {I : zS → Prop} {L : Nat} (hI : zIs I L) (hP : Pr_noon I) (hL : L ≤ 3072) {s : zS} (hs : I s) {i : Int} (h0 : 0 ≤ i) (h6 : i + 6 ≤ (L : Int)) {fs : List zFr} {Q : List zV → zS → Prop} (kk : ∀ s2, I s2 → Ev ((188, 1447, [zR 110 0, zR 10 0, zR 11 0, zI i], []) :: fs) s2 Q) : Ev ((188, 693, [zR 110 0, zR 10 0, zR 11 0, zI i], []) :: fs) s Q := by
  obtain ⟨hl, hx⟩ := hI s hs
  obtain ⟨r, s1, s2, c1, c2, h2, e1, e2⟩ := hP  s hs
  simp only [r188_693, r188_694]
  rw [c1]
  simp only [r188_697, r188_698]
  rw [c2]
  simp only [r188_701, r188_704, r188_705, if_true]
  exact kk s2 h2
theorem lc_worth {I : zS → Prop} {L : Nat} (hI : zIs I L) (hP : Pr_worth I) (hL : L ≤ 3072) {s : zS} (hs : I s) {i : Int} (h0 : 0 ≤ i) (h6 : i + 6 ≤ (L : Int)) {fs : List zFr} {Q : List zV → zS → Prop} (kk : ∀ s2, I s2 → Ev ((188, 1447, [zR 110 0, zR 10 0, zR 11 0, zI i], []) :: fs) s2 Q) : Ev ((188, 706, [zR 110 0, zR 10 0, zR 11 0, zI i], []) :: fs) s Q := by
  obtain ⟨hl, hx⟩ := hI s hs
  obtain ⟨r, s1, s2, c1, c2, h2, e1, e2⟩ := hP  s hs
  simp only [r188_706, r188_707]
  rw [c1]
  simp only [r188_710, r188_711]
  rw [c2]
  simp only [r188_714, r188_717, r188_718, if_true]
  exact kk s2 h2
theorem lc_set {I : zS → Prop} {L : Nat} (hI : zIs I L) (hP : Pr_set I) (hL : L ≤ 3072) {s : zS} (hs : I s) {i : Int} (h0 : 0 ≤ i) (h6 : i + 6 ≤ (L : Int)) {fs : List zFr} {Q : List zV → zS → Prop} (kk : ∀ s2, I s2 → Ev ((188, 1447, [zR 110 0, zR 10 0, zR 11 0, zI i], []) :: fs) s2 Q) : Ev ((188, 719, [zR 110 0, zR 10 0, zR 11 0, zI i], []) :: fs) s Q := by
  obtain ⟨hl, hx⟩ := hI s hs
  have w1 : w32 (i + 1) = i + 1 := w32_id (by omega) (by omega)
  have b1 : (zak 110 = 0 ∧ 0 ≤ i + 1 ∧ i + 1 < zln s 110) = True := eq_true ⟨zak110, by omega, by rw [zln110, hl]; omega⟩
  obtain ⟨r, s1, s2, c1, c2, h2, e1, e2⟩ := hP (s 110 0 (i + 1)) (hx (i + 1) (by omega) (by omega)) s hs
  simp only [r188_719, r188_720, r188_721, r188_722, r188_723, r188_724, r188_725, w1, b1, true_and]
  rw [c1]
  have d1 : (zak 110 = 0 ∧ 0 ≤ i + 1 ∧ i + 1 < zln s1 110) = True := eq_true ⟨zak110, by omega, by rw [zln110, e2, hl]; omega⟩
  simp only [r188_728, r188_729, r188_730, r188_731, r188_732, r188_733, r188_734, w1, d1, true_and, e1]
  rw [c2]
  simp only [r188_737, r188_740, r188_741, if_true]
  exact kk s2 h2
theorem lc_lift {I : zS → Prop} {L : Nat} (hI : zIs I L) (hP : Pr_lift I) (hL : L ≤ 3072) {s : zS} (hs : I s) {i : Int} (h0 : 0 ≤ i) (h6 : i + 6 ≤ (L : Int)) {fs : List zFr} {Q : List zV → zS → Prop} (kk : ∀ s2, I s2 → Ev ((188, 1447, [zR 110 0, zR 10 0, zR 11 0, zI i], []) :: fs) s2 Q) : Ev ((188, 742, [zR 110 0, zR 10 0, zR 11 0, zI i], []) :: fs) s Q := by
  obtain ⟨hl, hx⟩ := hI s hs
  have w1 : w32 (i + 1) = i + 1 := w32_id (by omega) (by omega)
  have b1 : (zak 110 = 0 ∧ 0 ≤ i + 1 ∧ i + 1 < zln s 110) = True := eq_true ⟨zak110, by omega, by rw [zln110, hl]; omega⟩
  have w2 : w32 (i + 2) = i + 2 := w32_id (by omega) (by omega)
  have b2 : (zak 110 = 0 ∧ 0 ≤ i + 2 ∧ i + 2 < zln s 110) = True := eq_true ⟨zak110, by omega, by rw [zln110, hl]; omega⟩
  obtain ⟨r, s1, s2, c1, c2, h2, e1, e2⟩ := hP (s 110 0 (i + 1)) (s 110 0 (i + 2)) (hx (i + 1) (by omega) (by omega)) (hx (i + 2) (by omega) (by omega)) s hs
  simp only [r188_742, r188_743, r188_744, r188_745, r188_746, r188_747, r188_748, r188_749, r188_750, r188_751, r188_752, r188_753, w1, w2, b1, b2, true_and]
  rw [c1]
  have d1 : (zak 110 = 0 ∧ 0 ≤ i + 1 ∧ i + 1 < zln s1 110) = True := eq_true ⟨zak110, by omega, by rw [zln110, e2, hl]; omega⟩
  have d2 : (zak 110 = 0 ∧ 0 ≤ i + 2 ∧ i + 2 < zln s1 110) = True := eq_true ⟨zak110, by omega, by rw [zln110, e2, hl]; omega⟩
  simp only [r188_756, r188_757, r188_758, r188_759, r188_760, r188_761, r188_762, r188_763, r188_764, r188_765, r188_766, r188_767, w1, w2, d1, d2, true_and, e1]
  rw [c2]
  simp only [r188_770, r188_773, r188_774, if_true]
  exact kk s2 h2
theorem lc_slope {I : zS → Prop} {L : Nat} (hI : zIs I L) (hP : Pr_slope I) (hL : L ≤ 3072) {s : zS} (hs : I s) {i : Int} (h0 : 0 ≤ i) (h6 : i + 6 ≤ (L : Int)) {fs : List zFr} {Q : List zV → zS → Prop} (kk : ∀ s2, I s2 → Ev ((188, 1447, [zR 110 0, zR 10 0, zR 11 0, zI i], []) :: fs) s2 Q) : Ev ((188, 775, [zR 110 0, zR 10 0, zR 11 0, zI i], []) :: fs) s Q := by
  obtain ⟨hl, hx⟩ := hI s hs
  have w1 : w32 (i + 1) = i + 1 := w32_id (by omega) (by omega)
  have b1 : (zak 110 = 0 ∧ 0 ≤ i + 1 ∧ i + 1 < zln s 110) = True := eq_true ⟨zak110, by omega, by rw [zln110, hl]; omega⟩
  have w2 : w32 (i + 2) = i + 2 := w32_id (by omega) (by omega)
  have b2 : (zak 110 = 0 ∧ 0 ≤ i + 2 ∧ i + 2 < zln s 110) = True := eq_true ⟨zak110, by omega, by rw [zln110, hl]; omega⟩
  have w3 : w32 (i + 3) = i + 3 := w32_id (by omega) (by omega)
  have b3 : (zak 110 = 0 ∧ 0 ≤ i + 3 ∧ i + 3 < zln s 110) = True := eq_true ⟨zak110, by omega, by rw [zln110, hl]; omega⟩
  obtain ⟨r, s1, s2, c1, c2, h2, e1, e2⟩ := hP (s 110 0 (i + 1)) (s 110 0 (i + 2)) (s 110 0 (i + 3)) (hx (i + 1) (by omega) (by omega)) (hx (i + 2) (by omega) (by omega)) (hx (i + 3) (by omega) (by omega)) s hs
  simp only [r188_775, r188_776, r188_777, r188_778, r188_779, r188_780, r188_781, r188_782, r188_783, r188_784, r188_785, r188_786, r188_787, r188_788, r188_789, r188_790, r188_791, w1, w2, w3, b1, b2, b3, true_and]
  rw [c1]
  have d1 : (zak 110 = 0 ∧ 0 ≤ i + 1 ∧ i + 1 < zln s1 110) = True := eq_true ⟨zak110, by omega, by rw [zln110, e2, hl]; omega⟩
  have d2 : (zak 110 = 0 ∧ 0 ≤ i + 2 ∧ i + 2 < zln s1 110) = True := eq_true ⟨zak110, by omega, by rw [zln110, e2, hl]; omega⟩
  have d3 : (zak 110 = 0 ∧ 0 ≤ i + 3 ∧ i + 3 < zln s1 110) = True := eq_true ⟨zak110, by omega, by rw [zln110, e2, hl]; omega⟩
  simp only [r188_794, r188_795, r188_796, r188_797, r188_798, r188_799, r188_800, r188_801, r188_802, r188_803, r188_804, r188_805, r188_806, r188_807, r188_808, r188_809, r188_810, w1, w2, w3, d1, d2, d3, true_and, e1]
  rw [c2]
  simp only [r188_813, r188_816, r188_817, if_true]
  exact kk s2 h2
theorem lc_stop {I : zS → Prop} {L : Nat} (hI : zIs I L) (hP : Pr_stop I) (hL : L ≤ 3072) {s : zS} (hs : I s) {i : Int} (h0 : 0 ≤ i) (h6 : i + 6 ≤ (L : Int)) {fs : List zFr} {Q : List zV → zS → Prop} (kk : ∀ s2, I s2 → Ev ((188, 1447, [zR 110 0, zR 10 0, zR 11 0, zI i], []) :: fs) s2 Q) : Ev ((188, 818, [zR 110 0, zR 10 0, zR 11 0, zI i], []) :: fs) s Q := by
  obtain ⟨hl, hx⟩ := hI s hs
  have w1 : w32 (i + 1) = i + 1 := w32_id (by omega) (by omega)
  have b1 : (zak 110 = 0 ∧ 0 ≤ i + 1 ∧ i + 1 < zln s 110) = True := eq_true ⟨zak110, by omega, by rw [zln110, hl]; omega⟩
  have w2 : w32 (i + 2) = i + 2 := w32_id (by omega) (by omega)
  have b2 : (zak 110 = 0 ∧ 0 ≤ i + 2 ∧ i + 2 < zln s 110) = True := eq_true ⟨zak110, by omega, by rw [zln110, hl]; omega⟩
  by_cases q2 : s 110 0 (i + 2) = 0
  · have q2 : (s 110 0 (i + 2) = 0) = True := eq_true q2
    obtain ⟨r, s1, s2, c1, c2, h2, e1, e2⟩ := hP (s 110 0 (i + 1)) 0 (hx (i + 1) (by omega) (by omega)) (Or.inl rfl) s hs
    simp only [r188_818, r188_819, r188_820, r188_821, r188_822, r188_823, r188_824, r188_825, r188_826, r188_827, r188_828, r188_829, r188_832, r188_833, r188_836, r188_837, w1, w2, b1, b2, true_and, q2, if_true, if_false]
    rw [c1]
    have d1 : (zak 110 = 0 ∧ 0 ≤ i + 1 ∧ i + 1 < zln s1 110) = True := eq_true ⟨zak110, by omega, by rw [zln110, e2, hl]; omega⟩
    have d2 : (zak 110 = 0 ∧ 0 ≤ i + 2 ∧ i + 2 < zln s1 110) = True := eq_true ⟨zak110, by omega, by rw [zln110, e2, hl]; omega⟩
    simp only [r188_840, r188_841, r188_842, r188_843, r188_844, r188_845, r188_846, r188_847, r188_848, r188_849, r188_850, r188_851, r188_854, r188_855, r188_858, r188_859, w1, w2, d1, d2, true_and, e1, q2, if_true, if_false]
    rw [c2]
    simp only [r188_862, r188_865, r188_866, if_true]
    exact kk s2 h2
  · have q2 : (s 110 0 (i + 2) = 0) = False := eq_false q2
    obtain ⟨r, s1, s2, c1, c2, h2, e1, e2⟩ := hP (s 110 0 (i + 1)) 1 (hx (i + 1) (by omega) (by omega)) (Or.inr rfl) s hs
    simp only [r188_818, r188_819, r188_820, r188_821, r188_822, r188_823, r188_824, r188_825, r188_826, r188_827, r188_828, r188_829, r188_832, r188_833, r188_836, r188_837, w1, w2, b1, b2, true_and, q2, if_true, if_false]
    rw [c1]
    have d1 : (zak 110 = 0 ∧ 0 ≤ i + 1 ∧ i + 1 < zln s1 110) = True := eq_true ⟨zak110, by omega, by rw [zln110, e2, hl]; omega⟩
    have d2 : (zak 110 = 0 ∧ 0 ≤ i + 2 ∧ i + 2 < zln s1 110) = True := eq_true ⟨zak110, by omega, by rw [zln110, e2, hl]; omega⟩
    simp only [r188_840, r188_841, r188_842, r188_843, r188_844, r188_845, r188_846, r188_847, r188_848, r188_849, r188_850, r188_851, r188_854, r188_855, r188_858, r188_859, w1, w2, d1, d2, true_and, e1, q2, if_true, if_false]
    rw [c2]
    simp only [r188_862, r188_865, r188_866, if_true]
    exact kk s2 h2
theorem lc_meeting {I : zS → Prop} {L : Nat} (hI : zIs I L) (hP : Pr_meeting I) (hL : L ≤ 3072) {s : zS} (hs : I s) {i : Int} (h0 : 0 ≤ i) (h6 : i + 6 ≤ (L : Int)) {fs : List zFr} {Q : List zV → zS → Prop} (kk : ∀ s2, I s2 → Ev ((188, 1447, [zR 110 0, zR 10 0, zR 11 0, zI i], []) :: fs) s2 Q) : Ev ((188, 867, [zR 110 0, zR 10 0, zR 11 0, zI i], []) :: fs) s Q := by
  obtain ⟨hl, hx⟩ := hI s hs
  have w1 : w32 (i + 1) = i + 1 := w32_id (by omega) (by omega)
  have b1 : (zak 110 = 0 ∧ 0 ≤ i + 1 ∧ i + 1 < zln s 110) = True := eq_true ⟨zak110, by omega, by rw [zln110, hl]; omega⟩
  obtain ⟨r, s1, s2, c1, c2, h2, e1, e2⟩ := hP (s 110 0 (i + 1)) (hx (i + 1) (by omega) (by omega)) s hs
  simp only [r188_867, r188_868, r188_869, r188_870, r188_871, r188_872, r188_873, w1, b1, true_and]
  rw [c1]
  have d1 : (zak 110 = 0 ∧ 0 ≤ i + 1 ∧ i + 1 < zln s1 110) = True := eq_true ⟨zak110, by omega, by rw [zln110, e2, hl]; omega⟩
  simp only [r188_876, r188_877, r188_878, r188_879, r188_880, r188_881, r188_882, w1, d1, true_and, e1]
  rw [c2]
  simp only [r188_885, r188_888, r188_889, if_true]
  exact kk s2 h2
theorem lc_serves {I : zS → Prop} {L : Nat} (hI : zIs I L) (hP : Pr_serves I) (hL : L ≤ 3072) {s : zS} (hs : I s) {i : Int} (h0 : 0 ≤ i) (h6 : i + 6 ≤ (L : Int)) {fs : List zFr} {Q : List zV → zS → Prop} (kk : ∀ s2, I s2 → Ev ((188, 1447, [zR 110 0, zR 10 0, zR 11 0, zI i], []) :: fs) s2 Q) : Ev ((188, 890, [zR 110 0, zR 10 0, zR 11 0, zI i], []) :: fs) s Q := by
  obtain ⟨hl, hx⟩ := hI s hs
  have w1 : w32 (i + 1) = i + 1 := w32_id (by omega) (by omega)
  have b1 : (zak 110 = 0 ∧ 0 ≤ i + 1 ∧ i + 1 < zln s 110) = True := eq_true ⟨zak110, by omega, by rw [zln110, hl]; omega⟩
  obtain ⟨r, s1, s2, c1, c2, h2, e1, e2⟩ := hP (s 110 0 (i + 1)) (hx (i + 1) (by omega) (by omega)) s hs
  simp only [r188_890, r188_891, r188_892, r188_893, r188_894, r188_895, r188_896, w1, b1, true_and]
  rw [c1]
  have d1 : (zak 110 = 0 ∧ 0 ≤ i + 1 ∧ i + 1 < zln s1 110) = True := eq_true ⟨zak110, by omega, by rw [zln110, e2, hl]; omega⟩
  simp only [r188_899, r188_900, r188_901, r188_902, r188_903, r188_904, r188_905, w1, d1, true_and, e1]
  rw [c2]
  simp only [r188_908, r188_911, r188_912, if_true]
  exact kk s2 h2
theorem lc_stranded {I : zS → Prop} {L : Nat} (hI : zIs I L) (hP : Pr_stranded I) (hL : L ≤ 3072) {s : zS} (hs : I s) {i : Int} (h0 : 0 ≤ i) (h6 : i + 6 ≤ (L : Int)) {fs : List zFr} {Q : List zV → zS → Prop} (kk : ∀ s2, I s2 → Ev ((188, 1447, [zR 110 0, zR 10 0, zR 11 0, zI i], []) :: fs) s2 Q) : Ev ((188, 913, [zR 110 0, zR 10 0, zR 11 0, zI i], []) :: fs) s Q := by
  obtain ⟨hl, hx⟩ := hI s hs
  have w1 : w32 (i + 1) = i + 1 := w32_id (by omega) (by omega)
  have b1 : (zak 110 = 0 ∧ 0 ≤ i + 1 ∧ i + 1 < zln s 110) = True := eq_true ⟨zak110, by omega, by rw [zln110, hl]; omega⟩
  have w2 : w32 (i + 2) = i + 2 := w32_id (by omega) (by omega)
  have b2 : (zak 110 = 0 ∧ 0 ≤ i + 2 ∧ i + 2 < zln s 110) = True := eq_true ⟨zak110, by omega, by rw [zln110, hl]; omega⟩
  obtain ⟨r, s1, s2, c1, c2, h2, e1, e2⟩ := hP (s 110 0 (i + 1)) (s 110 0 (i + 2)) (hx (i + 1) (by omega) (by omega)) (hx (i + 2) (by omega) (by omega)) s hs
  simp only [r188_913, r188_914, r188_915, r188_916, r188_917, r188_918, r188_919, r188_920, r188_921, r188_922, r188_923, r188_924, w1, w2, b1, b2, true_and]
  rw [c1]
  have d1 : (zak 110 = 0 ∧ 0 ≤ i + 1 ∧ i + 1 < zln s1 110) = True := eq_true ⟨zak110, by omega, by rw [zln110, e2, hl]; omega⟩
  have d2 : (zak 110 = 0 ∧ 0 ≤ i + 2 ∧ i + 2 < zln s1 110) = True := eq_true ⟨zak110, by omega, by rw [zln110, e2, hl]; omega⟩
  simp only [r188_927, r188_928, r188_929, r188_930, r188_931, r188_932, r188_933, r188_934, r188_935, r188_936, r188_937, r188_938, w1, w2, d1, d2, true_and, e1]
  rw [c2]
  simp only [r188_941, r188_944, r188_945, if_true]
  exact kk s2 h2
theorem lc_name {I : zS → Prop} {L : Nat} (hI : zIs I L) (hP : Pr_name I) (hL : L ≤ 3072) {s : zS} (hs : I s) {i : Int} (h0 : 0 ≤ i) (h6 : i + 6 ≤ (L : Int)) {fs : List zFr} {Q : List zV → zS → Prop} (kk : ∀ s2, I s2 → Ev ((188, 1447, [zR 110 0, zR 10 0, zR 11 0, zI i], []) :: fs) s2 Q) : Ev ((188, 946, [zR 110 0, zR 10 0, zR 11 0, zI i], []) :: fs) s Q := by
  obtain ⟨hl, hx⟩ := hI s hs
  have w1 : w32 (i + 1) = i + 1 := w32_id (by omega) (by omega)
  have b1 : (zak 110 = 0 ∧ 0 ≤ i + 1 ∧ i + 1 < zln s 110) = True := eq_true ⟨zak110, by omega, by rw [zln110, hl]; omega⟩
  have w2 : w32 (i + 2) = i + 2 := w32_id (by omega) (by omega)
  have b2 : (zak 110 = 0 ∧ 0 ≤ i + 2 ∧ i + 2 < zln s 110) = True := eq_true ⟨zak110, by omega, by rw [zln110, hl]; omega⟩
  obtain ⟨r, s1, s2, c1, c2, h2, e1, e2⟩ := hP (s 110 0 (i + 1)) (s 110 0 (i + 2)) (hx (i + 1) (by omega) (by omega)) (hx (i + 2) (by omega) (by omega)) s hs
  simp only [r188_946, r188_947, r188_948, r188_949, r188_950, r188_951, r188_952, r188_953, r188_954, r188_955, r188_956, r188_957, w1, w2, b1, b2, true_and]
  rw [c1]
  have d1 : (zak 110 = 0 ∧ 0 ≤ i + 1 ∧ i + 1 < zln s1 110) = True := eq_true ⟨zak110, by omega, by rw [zln110, e2, hl]; omega⟩
  have d2 : (zak 110 = 0 ∧ 0 ≤ i + 2 ∧ i + 2 < zln s1 110) = True := eq_true ⟨zak110, by omega, by rw [zln110, e2, hl]; omega⟩
  simp only [r188_960, r188_961, r188_962, r188_963, r188_964, r188_965, r188_966, r188_967, r188_968, r188_969, r188_970, r188_971, w1, w2, d1, d2, true_and, e1]
  rw [c2]
  simp only [r188_974, r188_977, r188_978, if_true]
  exact kk s2 h2
theorem lc_hand {I : zS → Prop} {L : Nat} (hI : zIs I L) (hP : Pr_hand I) (hL : L ≤ 3072) {s : zS} (hs : I s) {i : Int} (h0 : 0 ≤ i) (h6 : i + 6 ≤ (L : Int)) {fs : List zFr} {Q : List zV → zS → Prop} (kk : ∀ s2, I s2 → Ev ((188, 1447, [zR 110 0, zR 10 0, zR 11 0, zI i], []) :: fs) s2 Q) : Ev ((188, 979, [zR 110 0, zR 10 0, zR 11 0, zI i], []) :: fs) s Q := by
  obtain ⟨hl, hx⟩ := hI s hs
  have w1 : w32 (i + 1) = i + 1 := w32_id (by omega) (by omega)
  have b1 : (zak 110 = 0 ∧ 0 ≤ i + 1 ∧ i + 1 < zln s 110) = True := eq_true ⟨zak110, by omega, by rw [zln110, hl]; omega⟩
  have w2 : w32 (i + 2) = i + 2 := w32_id (by omega) (by omega)
  have b2 : (zak 110 = 0 ∧ 0 ≤ i + 2 ∧ i + 2 < zln s 110) = True := eq_true ⟨zak110, by omega, by rw [zln110, hl]; omega⟩
  obtain ⟨r, s1, s2, c1, c2, h2, e1, e2⟩ := hP (s 110 0 (i + 1)) (s 110 0 (i + 2)) (hx (i + 1) (by omega) (by omega)) (hx (i + 2) (by omega) (by omega)) s hs
  simp only [r188_979, r188_980, r188_981, r188_982, r188_983, r188_984, r188_985, r188_986, r188_987, r188_988, r188_989, r188_990, w1, w2, b1, b2, true_and]
  rw [c1]
  have d1 : (zak 110 = 0 ∧ 0 ≤ i + 1 ∧ i + 1 < zln s1 110) = True := eq_true ⟨zak110, by omega, by rw [zln110, e2, hl]; omega⟩
  have d2 : (zak 110 = 0 ∧ 0 ≤ i + 2 ∧ i + 2 < zln s1 110) = True := eq_true ⟨zak110, by omega, by rw [zln110, e2, hl]; omega⟩
  simp only [r188_993, r188_994, r188_995, r188_996, r188_997, r188_998, r188_999, r188_1000, r188_1001, r188_1002, r188_1003, r188_1004, w1, w2, d1, d2, true_and, e1]
  rw [c2]
  simp only [r188_1007, r188_1010, r188_1011, if_true]
  exact kk s2 h2
theorem lc_back {I : zS → Prop} {L : Nat} (hI : zIs I L) (hP : Pr_back I) (hL : L ≤ 3072) {s : zS} (hs : I s) {i : Int} (h0 : 0 ≤ i) (h6 : i + 6 ≤ (L : Int)) {fs : List zFr} {Q : List zV → zS → Prop} (kk : ∀ s2, I s2 → Ev ((188, 1447, [zR 110 0, zR 10 0, zR 11 0, zI i], []) :: fs) s2 Q) : Ev ((188, 1012, [zR 110 0, zR 10 0, zR 11 0, zI i], []) :: fs) s Q := by
  obtain ⟨hl, hx⟩ := hI s hs
  have w1 : w32 (i + 1) = i + 1 := w32_id (by omega) (by omega)
  have b1 : (zak 110 = 0 ∧ 0 ≤ i + 1 ∧ i + 1 < zln s 110) = True := eq_true ⟨zak110, by omega, by rw [zln110, hl]; omega⟩
  obtain ⟨r, s1, s2, c1, c2, h2, e1, e2⟩ := hP (s 110 0 (i + 1)) (hx (i + 1) (by omega) (by omega)) s hs
  simp only [r188_1012, r188_1013, r188_1014, r188_1015, r188_1016, r188_1017, r188_1018, w1, b1, true_and]
  rw [c1]
  have d1 : (zak 110 = 0 ∧ 0 ≤ i + 1 ∧ i + 1 < zln s1 110) = True := eq_true ⟨zak110, by omega, by rw [zln110, e2, hl]; omega⟩
  simp only [r188_1021, r188_1022, r188_1023, r188_1024, r188_1025, r188_1026, r188_1027, w1, d1, true_and, e1]
  rw [c2]
  simp only [r188_1030, r188_1033, r188_1034, if_true]
  exact kk s2 h2
theorem lc_left {I : zS → Prop} {L : Nat} (hI : zIs I L) (hP : Pr_left I) (hL : L ≤ 3072) {s : zS} (hs : I s) {i : Int} (h0 : 0 ≤ i) (h6 : i + 6 ≤ (L : Int)) {fs : List zFr} {Q : List zV → zS → Prop} (kk : ∀ s2, I s2 → Ev ((188, 1447, [zR 110 0, zR 10 0, zR 11 0, zI i], []) :: fs) s2 Q) : Ev ((188, 1035, [zR 110 0, zR 10 0, zR 11 0, zI i], []) :: fs) s Q := by
  obtain ⟨hl, hx⟩ := hI s hs
  obtain ⟨r, s1, s2, c1, c2, h2, e1, e2⟩ := hP  s hs
  simp only [r188_1035, r188_1036]
  rw [c1]
  simp only [r188_1039, r188_1040]
  rw [c2]
  simp only [r188_1043, r188_1046, r188_1047, if_true]
  exact kk s2 h2
theorem lc_ask {I : zS → Prop} {L : Nat} (hI : zIs I L) (hP : Pr_ask I) (hL : L ≤ 3072) {s : zS} (hs : I s) {i : Int} (h0 : 0 ≤ i) (h6 : i + 6 ≤ (L : Int)) {fs : List zFr} {Q : List zV → zS → Prop} (kk : ∀ s2, I s2 → Ev ((188, 1447, [zR 110 0, zR 10 0, zR 11 0, zI i], []) :: fs) s2 Q) : Ev ((188, 1048, [zR 110 0, zR 10 0, zR 11 0, zI i], []) :: fs) s Q := by
  obtain ⟨hl, hx⟩ := hI s hs
  have w1 : w32 (i + 1) = i + 1 := w32_id (by omega) (by omega)
  have b1 : (zak 110 = 0 ∧ 0 ≤ i + 1 ∧ i + 1 < zln s 110) = True := eq_true ⟨zak110, by omega, by rw [zln110, hl]; omega⟩
  have w2 : w32 (i + 2) = i + 2 := w32_id (by omega) (by omega)
  have b2 : (zak 110 = 0 ∧ 0 ≤ i + 2 ∧ i + 2 < zln s 110) = True := eq_true ⟨zak110, by omega, by rw [zln110, hl]; omega⟩
  have w3 : w32 (i + 3) = i + 3 := w32_id (by omega) (by omega)
  have b3 : (zak 110 = 0 ∧ 0 ≤ i + 3 ∧ i + 3 < zln s 110) = True := eq_true ⟨zak110, by omega, by rw [zln110, hl]; omega⟩
  have w4 : w32 (i + 4) = i + 4 := w32_id (by omega) (by omega)
  have b4 : (zak 110 = 0 ∧ 0 ≤ i + 4 ∧ i + 4 < zln s 110) = True := eq_true ⟨zak110, by omega, by rw [zln110, hl]; omega⟩
  obtain ⟨r, s1, s2, c1, c2, h2, e1, e2⟩ := hP (s 110 0 (i + 1)) (s 110 0 (i + 2)) (s 110 0 (i + 3)) (s 110 0 (i + 4)) (hx (i + 1) (by omega) (by omega)) (hx (i + 2) (by omega) (by omega)) (hx (i + 3) (by omega) (by omega)) (hx (i + 4) (by omega) (by omega)) s hs
  simp only [r188_1048, r188_1049, r188_1050, r188_1051, r188_1052, r188_1053, r188_1054, r188_1055, r188_1056, r188_1057, r188_1058, r188_1059, r188_1060, r188_1061, r188_1062, r188_1063, r188_1064, r188_1065, r188_1066, r188_1067, r188_1068, r188_1069, w1, w2, w3, w4, b1, b2, b3, b4, true_and]
  rw [c1]
  have d1 : (zak 110 = 0 ∧ 0 ≤ i + 1 ∧ i + 1 < zln s1 110) = True := eq_true ⟨zak110, by omega, by rw [zln110, e2, hl]; omega⟩
  have d2 : (zak 110 = 0 ∧ 0 ≤ i + 2 ∧ i + 2 < zln s1 110) = True := eq_true ⟨zak110, by omega, by rw [zln110, e2, hl]; omega⟩
  have d3 : (zak 110 = 0 ∧ 0 ≤ i + 3 ∧ i + 3 < zln s1 110) = True := eq_true ⟨zak110, by omega, by rw [zln110, e2, hl]; omega⟩
  have d4 : (zak 110 = 0 ∧ 0 ≤ i + 4 ∧ i + 4 < zln s1 110) = True := eq_true ⟨zak110, by omega, by rw [zln110, e2, hl]; omega⟩
  simp only [r188_1072, r188_1073, r188_1074, r188_1075, r188_1076, r188_1077, r188_1078, r188_1079, r188_1080, r188_1081, r188_1082, r188_1083, r188_1084, r188_1085, r188_1086, r188_1087, r188_1088, r188_1089, r188_1090, r188_1091, r188_1092, r188_1093, w1, w2, w3, w4, d1, d2, d3, d4, true_and, e1]
  rw [c2]
  simp only [r188_1096, r188_1099, r188_1100, if_true]
  exact kk s2 h2
theorem lc_hours {I : zS → Prop} {L : Nat} (hI : zIs I L) (hP : Pr_hours I) (hL : L ≤ 3072) {s : zS} (hs : I s) {i : Int} (h0 : 0 ≤ i) (h6 : i + 6 ≤ (L : Int)) {fs : List zFr} {Q : List zV → zS → Prop} (kk : ∀ s2, I s2 → Ev ((188, 1447, [zR 110 0, zR 10 0, zR 11 0, zI i], []) :: fs) s2 Q) : Ev ((188, 1101, [zR 110 0, zR 10 0, zR 11 0, zI i], []) :: fs) s Q := by
  obtain ⟨hl, hx⟩ := hI s hs
  have w1 : w32 (i + 1) = i + 1 := w32_id (by omega) (by omega)
  have b1 : (zak 110 = 0 ∧ 0 ≤ i + 1 ∧ i + 1 < zln s 110) = True := eq_true ⟨zak110, by omega, by rw [zln110, hl]; omega⟩
  have w2 : w32 (i + 2) = i + 2 := w32_id (by omega) (by omega)
  have b2 : (zak 110 = 0 ∧ 0 ≤ i + 2 ∧ i + 2 < zln s 110) = True := eq_true ⟨zak110, by omega, by rw [zln110, hl]; omega⟩
  obtain ⟨r, s1, s2, c1, c2, h2, e1, e2⟩ := hP (s 110 0 (i + 1)) (s 110 0 (i + 2)) (hx (i + 1) (by omega) (by omega)) (hx (i + 2) (by omega) (by omega)) s hs
  simp only [r188_1101, r188_1102, r188_1103, r188_1104, r188_1105, r188_1106, r188_1107, r188_1108, r188_1109, r188_1110, r188_1111, r188_1112, w1, w2, b1, b2, true_and]
  rw [c1]
  have d1 : (zak 110 = 0 ∧ 0 ≤ i + 1 ∧ i + 1 < zln s1 110) = True := eq_true ⟨zak110, by omega, by rw [zln110, e2, hl]; omega⟩
  have d2 : (zak 110 = 0 ∧ 0 ≤ i + 2 ∧ i + 2 < zln s1 110) = True := eq_true ⟨zak110, by omega, by rw [zln110, e2, hl]; omega⟩
  simp only [r188_1115, r188_1116, r188_1117, r188_1118, r188_1119, r188_1120, r188_1121, r188_1122, r188_1123, r188_1124, r188_1125, r188_1126, w1, w2, d1, d2, true_and, e1]
  rw [c2]
  simp only [r188_1129, r188_1132, r188_1133, if_true]
  exact kk s2 h2
theorem lc_book {I : zS → Prop} {L : Nat} (hI : zIs I L) (hP : Pr_book I) (hL : L ≤ 3072) {s : zS} (hs : I s) {i : Int} (h0 : 0 ≤ i) (h6 : i + 6 ≤ (L : Int)) {fs : List zFr} {Q : List zV → zS → Prop} (kk : ∀ s2, I s2 → Ev ((188, 1447, [zR 110 0, zR 10 0, zR 11 0, zI i], []) :: fs) s2 Q) : Ev ((188, 1134, [zR 110 0, zR 10 0, zR 11 0, zI i], []) :: fs) s Q := by
  obtain ⟨hl, hx⟩ := hI s hs
  have w1 : w32 (i + 1) = i + 1 := w32_id (by omega) (by omega)
  have b1 : (zak 110 = 0 ∧ 0 ≤ i + 1 ∧ i + 1 < zln s 110) = True := eq_true ⟨zak110, by omega, by rw [zln110, hl]; omega⟩
  obtain ⟨r, s1, s2, c1, c2, h2, e1, e2⟩ := hP (s 110 0 (i + 1)) (hx (i + 1) (by omega) (by omega)) s hs
  simp only [r188_1134, r188_1135, r188_1136, r188_1137, r188_1138, r188_1139, r188_1140, w1, b1, true_and]
  rw [c1]
  have d1 : (zak 110 = 0 ∧ 0 ≤ i + 1 ∧ i + 1 < zln s1 110) = True := eq_true ⟨zak110, by omega, by rw [zln110, e2, hl]; omega⟩
  simp only [r188_1143, r188_1144, r188_1145, r188_1146, r188_1147, r188_1148, r188_1149, w1, d1, true_and, e1]
  rw [c2]
  simp only [r188_1152, r188_1155, r188_1156, if_true]
  exact kk s2 h2
theorem lc_open {I : zS → Prop} {L : Nat} (hI : zIs I L) (hP : Pr_open I) (hL : L ≤ 3072) {s : zS} (hs : I s) {i : Int} (h0 : 0 ≤ i) (h6 : i + 6 ≤ (L : Int)) {fs : List zFr} {Q : List zV → zS → Prop} (kk : ∀ s2, I s2 → Ev ((188, 1447, [zR 110 0, zR 10 0, zR 11 0, zI i], []) :: fs) s2 Q) : Ev ((188, 1157, [zR 110 0, zR 10 0, zR 11 0, zI i], []) :: fs) s Q := by
  obtain ⟨hl, hx⟩ := hI s hs
  have w1 : w32 (i + 1) = i + 1 := w32_id (by omega) (by omega)
  have b1 : (zak 110 = 0 ∧ 0 ≤ i + 1 ∧ i + 1 < zln s 110) = True := eq_true ⟨zak110, by omega, by rw [zln110, hl]; omega⟩
  obtain ⟨r, s1, s2, c1, c2, h2, e1, e2⟩ := hP (s 110 0 (i + 1)) (hx (i + 1) (by omega) (by omega)) s hs
  simp only [r188_1157, r188_1158, r188_1159, r188_1160, r188_1161, r188_1162, r188_1163, w1, b1, true_and]
  rw [c1]
  have d1 : (zak 110 = 0 ∧ 0 ≤ i + 1 ∧ i + 1 < zln s1 110) = True := eq_true ⟨zak110, by omega, by rw [zln110, e2, hl]; omega⟩
  simp only [r188_1166, r188_1167, r188_1168, r188_1169, r188_1170, r188_1171, r188_1172, w1, d1, true_and, e1]
  rw [c2]
  simp only [r188_1175, r188_1178, r188_1179, if_true]
  exact kk s2 h2
theorem lc_choice {I : zS → Prop} {L : Nat} (hI : zIs I L) (hP : Pr_choice I) (hL : L ≤ 3072) {s : zS} (hs : I s) {i : Int} (h0 : 0 ≤ i) (h6 : i + 6 ≤ (L : Int)) {fs : List zFr} {Q : List zV → zS → Prop} (kk : ∀ s2, I s2 → Ev ((188, 1447, [zR 110 0, zR 10 0, zR 11 0, zI i], []) :: fs) s2 Q) : Ev ((188, 1180, [zR 110 0, zR 10 0, zR 11 0, zI i], []) :: fs) s Q := by
  obtain ⟨hl, hx⟩ := hI s hs
  have w1 : w32 (i + 1) = i + 1 := w32_id (by omega) (by omega)
  have b1 : (zak 110 = 0 ∧ 0 ≤ i + 1 ∧ i + 1 < zln s 110) = True := eq_true ⟨zak110, by omega, by rw [zln110, hl]; omega⟩
  have w2 : w32 (i + 2) = i + 2 := w32_id (by omega) (by omega)
  have b2 : (zak 110 = 0 ∧ 0 ≤ i + 2 ∧ i + 2 < zln s 110) = True := eq_true ⟨zak110, by omega, by rw [zln110, hl]; omega⟩
  by_cases q2 : s 110 0 (i + 2) = 0
  · have q2 : (s 110 0 (i + 2) = 0) = True := eq_true q2
    obtain ⟨r, s1, s2, c1, c2, h2, e1, e2⟩ := hP (s 110 0 (i + 1)) 0 (hx (i + 1) (by omega) (by omega)) (Or.inl rfl) s hs
    simp only [r188_1180, r188_1181, r188_1182, r188_1183, r188_1184, r188_1185, r188_1186, r188_1187, r188_1188, r188_1189, r188_1190, r188_1191, r188_1194, r188_1195, r188_1198, r188_1199, w1, w2, b1, b2, true_and, q2, if_true, if_false]
    rw [c1]
    have d1 : (zak 110 = 0 ∧ 0 ≤ i + 1 ∧ i + 1 < zln s1 110) = True := eq_true ⟨zak110, by omega, by rw [zln110, e2, hl]; omega⟩
    have d2 : (zak 110 = 0 ∧ 0 ≤ i + 2 ∧ i + 2 < zln s1 110) = True := eq_true ⟨zak110, by omega, by rw [zln110, e2, hl]; omega⟩
    simp only [r188_1202, r188_1203, r188_1204, r188_1205, r188_1206, r188_1207, r188_1208, r188_1209, r188_1210, r188_1211, r188_1212, r188_1213, r188_1216, r188_1217, r188_1220, r188_1221, w1, w2, d1, d2, true_and, e1, q2, if_true, if_false]
    rw [c2]
    simp only [r188_1224, r188_1227, r188_1228, if_true]
    exact kk s2 h2
  · have q2 : (s 110 0 (i + 2) = 0) = False := eq_false q2
    obtain ⟨r, s1, s2, c1, c2, h2, e1, e2⟩ := hP (s 110 0 (i + 1)) 1 (hx (i + 1) (by omega) (by omega)) (Or.inr rfl) s hs
    simp only [r188_1180, r188_1181, r188_1182, r188_1183, r188_1184, r188_1185, r188_1186, r188_1187, r188_1188, r188_1189, r188_1190, r188_1191, r188_1194, r188_1195, r188_1198, r188_1199, w1, w2, b1, b2, true_and, q2, if_true, if_false]
    rw [c1]
    have d1 : (zak 110 = 0 ∧ 0 ≤ i + 1 ∧ i + 1 < zln s1 110) = True := eq_true ⟨zak110, by omega, by rw [zln110, e2, hl]; omega⟩
    have d2 : (zak 110 = 0 ∧ 0 ≤ i + 2 ∧ i + 2 < zln s1 110) = True := eq_true ⟨zak110, by omega, by rw [zln110, e2, hl]; omega⟩
    simp only [r188_1202, r188_1203, r188_1204, r188_1205, r188_1206, r188_1207, r188_1208, r188_1209, r188_1210, r188_1211, r188_1212, r188_1213, r188_1216, r188_1217, r188_1220, r188_1221, w1, w2, d1, d2, true_and, e1, q2, if_true, if_false]
    rw [c2]
    simp only [r188_1224, r188_1227, r188_1228, if_true]
    exact kk s2 h2
theorem lc_choose {I : zS → Prop} {L : Nat} (hI : zIs I L) (hP : Pr_choose I) (hL : L ≤ 3072) {s : zS} (hs : I s) {i : Int} (h0 : 0 ≤ i) (h6 : i + 6 ≤ (L : Int)) {fs : List zFr} {Q : List zV → zS → Prop} (kk : ∀ s2, I s2 → Ev ((188, 1447, [zR 110 0, zR 10 0, zR 11 0, zI i], []) :: fs) s2 Q) : Ev ((188, 1229, [zR 110 0, zR 10 0, zR 11 0, zI i], []) :: fs) s Q := by
  obtain ⟨hl, hx⟩ := hI s hs
  have w1 : w32 (i + 1) = i + 1 := w32_id (by omega) (by omega)
  have b1 : (zak 110 = 0 ∧ 0 ≤ i + 1 ∧ i + 1 < zln s 110) = True := eq_true ⟨zak110, by omega, by rw [zln110, hl]; omega⟩
  obtain ⟨r, s1, s2, c1, c2, h2, e1, e2⟩ := hP (s 110 0 (i + 1)) (hx (i + 1) (by omega) (by omega)) s hs
  simp only [r188_1229, r188_1230, r188_1231, r188_1232, r188_1233, r188_1234, r188_1235, w1, b1, true_and]
  rw [c1]
  have d1 : (zak 110 = 0 ∧ 0 ≤ i + 1 ∧ i + 1 < zln s1 110) = True := eq_true ⟨zak110, by omega, by rw [zln110, e2, hl]; omega⟩
  simp only [r188_1238, r188_1239, r188_1240, r188_1241, r188_1242, r188_1243, r188_1244, w1, d1, true_and, e1]
  rw [c2]
  simp only [r188_1247, r188_1250, r188_1251, if_true]
  exact kk s2 h2
theorem lc_sheet {I : zS → Prop} {L : Nat} (hI : zIs I L) (hP : Pr_sheet I) (hL : L ≤ 3072) {s : zS} (hs : I s) {i : Int} (h0 : 0 ≤ i) (h6 : i + 6 ≤ (L : Int)) {fs : List zFr} {Q : List zV → zS → Prop} (kk : ∀ s2, I s2 → Ev ((188, 1447, [zR 110 0, zR 10 0, zR 11 0, zI i], []) :: fs) s2 Q) : Ev ((188, 1252, [zR 110 0, zR 10 0, zR 11 0, zI i], []) :: fs) s Q := by
  obtain ⟨hl, hx⟩ := hI s hs
  have w1 : w32 (i + 1) = i + 1 := w32_id (by omega) (by omega)
  have b1 : (zak 110 = 0 ∧ 0 ≤ i + 1 ∧ i + 1 < zln s 110) = True := eq_true ⟨zak110, by omega, by rw [zln110, hl]; omega⟩
  have w2 : w32 (i + 2) = i + 2 := w32_id (by omega) (by omega)
  have b2 : (zak 110 = 0 ∧ 0 ≤ i + 2 ∧ i + 2 < zln s 110) = True := eq_true ⟨zak110, by omega, by rw [zln110, hl]; omega⟩
  have w3 : w32 (i + 3) = i + 3 := w32_id (by omega) (by omega)
  have b3 : (zak 110 = 0 ∧ 0 ≤ i + 3 ∧ i + 3 < zln s 110) = True := eq_true ⟨zak110, by omega, by rw [zln110, hl]; omega⟩
  obtain ⟨r, s1, s2, c1, c2, h2, e1, e2⟩ := hP (s 110 0 (i + 1)) (s 110 0 (i + 2)) (s 110 0 (i + 3)) (hx (i + 1) (by omega) (by omega)) (hx (i + 2) (by omega) (by omega)) (hx (i + 3) (by omega) (by omega)) s hs
  simp only [r188_1252, r188_1253, r188_1254, r188_1255, r188_1256, r188_1257, r188_1258, r188_1259, r188_1260, r188_1261, r188_1262, r188_1263, r188_1264, r188_1265, r188_1266, r188_1267, r188_1268, w1, w2, w3, b1, b2, b3, true_and]
  rw [c1]
  have d1 : (zak 110 = 0 ∧ 0 ≤ i + 1 ∧ i + 1 < zln s1 110) = True := eq_true ⟨zak110, by omega, by rw [zln110, e2, hl]; omega⟩
  have d2 : (zak 110 = 0 ∧ 0 ≤ i + 2 ∧ i + 2 < zln s1 110) = True := eq_true ⟨zak110, by omega, by rw [zln110, e2, hl]; omega⟩
  have d3 : (zak 110 = 0 ∧ 0 ≤ i + 3 ∧ i + 3 < zln s1 110) = True := eq_true ⟨zak110, by omega, by rw [zln110, e2, hl]; omega⟩
  simp only [r188_1271, r188_1272, r188_1273, r188_1274, r188_1275, r188_1276, r188_1277, r188_1278, r188_1279, r188_1280, r188_1281, r188_1282, r188_1283, r188_1284, r188_1285, r188_1286, r188_1287, w1, w2, w3, d1, d2, d3, true_and, e1]
  rw [c2]
  simp only [r188_1290, r188_1293, r188_1294, if_true]
  exact kk s2 h2
theorem lc_write {I : zS → Prop} {L : Nat} (hI : zIs I L) (hP : Pr_write I) (hL : L ≤ 3072) {s : zS} (hs : I s) {i : Int} (h0 : 0 ≤ i) (h6 : i + 6 ≤ (L : Int)) {fs : List zFr} {Q : List zV → zS → Prop} (kk : ∀ s2, I s2 → Ev ((188, 1447, [zR 110 0, zR 10 0, zR 11 0, zI i], []) :: fs) s2 Q) : Ev ((188, 1295, [zR 110 0, zR 10 0, zR 11 0, zI i], []) :: fs) s Q := by
  obtain ⟨hl, hx⟩ := hI s hs
  have w1 : w32 (i + 1) = i + 1 := w32_id (by omega) (by omega)
  have b1 : (zak 110 = 0 ∧ 0 ≤ i + 1 ∧ i + 1 < zln s 110) = True := eq_true ⟨zak110, by omega, by rw [zln110, hl]; omega⟩
  have w2 : w32 (i + 2) = i + 2 := w32_id (by omega) (by omega)
  have b2 : (zak 110 = 0 ∧ 0 ≤ i + 2 ∧ i + 2 < zln s 110) = True := eq_true ⟨zak110, by omega, by rw [zln110, hl]; omega⟩
  have w3 : w32 (i + 3) = i + 3 := w32_id (by omega) (by omega)
  have b3 : (zak 110 = 0 ∧ 0 ≤ i + 3 ∧ i + 3 < zln s 110) = True := eq_true ⟨zak110, by omega, by rw [zln110, hl]; omega⟩
  obtain ⟨r, s1, s2, c1, c2, h2, e1, e2⟩ := hP (s 110 0 (i + 1)) (s 110 0 (i + 2)) (s 110 0 (i + 3)) (hx (i + 1) (by omega) (by omega)) (hx (i + 2) (by omega) (by omega)) (hx (i + 3) (by omega) (by omega)) s hs
  simp only [r188_1295, r188_1296, r188_1297, r188_1298, r188_1299, r188_1300, r188_1301, r188_1302, r188_1303, r188_1304, r188_1305, r188_1306, r188_1307, r188_1308, r188_1309, r188_1310, r188_1311, w1, w2, w3, b1, b2, b3, true_and]
  rw [c1]
  have d1 : (zak 110 = 0 ∧ 0 ≤ i + 1 ∧ i + 1 < zln s1 110) = True := eq_true ⟨zak110, by omega, by rw [zln110, e2, hl]; omega⟩
  have d2 : (zak 110 = 0 ∧ 0 ≤ i + 2 ∧ i + 2 < zln s1 110) = True := eq_true ⟨zak110, by omega, by rw [zln110, e2, hl]; omega⟩
  have d3 : (zak 110 = 0 ∧ 0 ≤ i + 3 ∧ i + 3 < zln s1 110) = True := eq_true ⟨zak110, by omega, by rw [zln110, e2, hl]; omega⟩
  simp only [r188_1314, r188_1315, r188_1316, r188_1317, r188_1318, r188_1319, r188_1320, r188_1321, r188_1322, r188_1323, r188_1324, r188_1325, r188_1326, r188_1327, r188_1328, r188_1329, r188_1330, w1, w2, w3, d1, d2, d3, true_and, e1]
  rw [c2]
  simp only [r188_1333, r188_1336, r188_1337, if_true]
  exact kk s2 h2
theorem lc_copy {I : zS → Prop} {L : Nat} (hI : zIs I L) (hP : Pr_copy I) (hL : L ≤ 3072) {s : zS} (hs : I s) {i : Int} (h0 : 0 ≤ i) (h6 : i + 6 ≤ (L : Int)) {fs : List zFr} {Q : List zV → zS → Prop} (kk : ∀ s2, I s2 → Ev ((188, 1447, [zR 110 0, zR 10 0, zR 11 0, zI i], []) :: fs) s2 Q) : Ev ((188, 1338, [zR 110 0, zR 10 0, zR 11 0, zI i], []) :: fs) s Q := by
  obtain ⟨hl, hx⟩ := hI s hs
  have w1 : w32 (i + 1) = i + 1 := w32_id (by omega) (by omega)
  have b1 : (zak 110 = 0 ∧ 0 ≤ i + 1 ∧ i + 1 < zln s 110) = True := eq_true ⟨zak110, by omega, by rw [zln110, hl]; omega⟩
  have w2 : w32 (i + 2) = i + 2 := w32_id (by omega) (by omega)
  have b2 : (zak 110 = 0 ∧ 0 ≤ i + 2 ∧ i + 2 < zln s 110) = True := eq_true ⟨zak110, by omega, by rw [zln110, hl]; omega⟩
  have w3 : w32 (i + 3) = i + 3 := w32_id (by omega) (by omega)
  have b3 : (zak 110 = 0 ∧ 0 ≤ i + 3 ∧ i + 3 < zln s 110) = True := eq_true ⟨zak110, by omega, by rw [zln110, hl]; omega⟩
  have w4 : w32 (i + 4) = i + 4 := w32_id (by omega) (by omega)
  have b4 : (zak 110 = 0 ∧ 0 ≤ i + 4 ∧ i + 4 < zln s 110) = True := eq_true ⟨zak110, by omega, by rw [zln110, hl]; omega⟩
  have w5 : w32 (i + 5) = i + 5 := w32_id (by omega) (by omega)
  have b5 : (zak 110 = 0 ∧ 0 ≤ i + 5 ∧ i + 5 < zln s 110) = True := eq_true ⟨zak110, by omega, by rw [zln110, hl]; omega⟩
  obtain ⟨r, s1, s2, c1, c2, h2, e1, e2⟩ := hP (s 110 0 (i + 1)) (s 110 0 (i + 2)) (s 110 0 (i + 3)) (s 110 0 (i + 4)) (s 110 0 (i + 5)) (hx (i + 1) (by omega) (by omega)) (hx (i + 2) (by omega) (by omega)) (hx (i + 3) (by omega) (by omega)) (hx (i + 4) (by omega) (by omega)) (hx (i + 5) (by omega) (by omega)) s hs
  simp only [r188_1338, r188_1339, r188_1340, r188_1341, r188_1342, r188_1343, r188_1344, r188_1345, r188_1346, r188_1347, r188_1348, r188_1349, r188_1350, r188_1351, r188_1352, r188_1353, r188_1354, r188_1355, r188_1356, r188_1357, r188_1358, r188_1359, r188_1360, r188_1361, r188_1362, r188_1363, r188_1364, w1, w2, w3, w4, w5, b1, b2, b3, b4, b5, true_and]
  rw [c1]
  have d1 : (zak 110 = 0 ∧ 0 ≤ i + 1 ∧ i + 1 < zln s1 110) = True := eq_true ⟨zak110, by omega, by rw [zln110, e2, hl]; omega⟩
  have d2 : (zak 110 = 0 ∧ 0 ≤ i + 2 ∧ i + 2 < zln s1 110) = True := eq_true ⟨zak110, by omega, by rw [zln110, e2, hl]; omega⟩
  have d3 : (zak 110 = 0 ∧ 0 ≤ i + 3 ∧ i + 3 < zln s1 110) = True := eq_true ⟨zak110, by omega, by rw [zln110, e2, hl]; omega⟩
  have d4 : (zak 110 = 0 ∧ 0 ≤ i + 4 ∧ i + 4 < zln s1 110) = True := eq_true ⟨zak110, by omega, by rw [zln110, e2, hl]; omega⟩
  have d5 : (zak 110 = 0 ∧ 0 ≤ i + 5 ∧ i + 5 < zln s1 110) = True := eq_true ⟨zak110, by omega, by rw [zln110, e2, hl]; omega⟩
  simp only [r188_1367, r188_1368, r188_1369, r188_1370, r188_1371, r188_1372, r188_1373, r188_1374, r188_1375, r188_1376, r188_1377, r188_1378, r188_1379, r188_1380, r188_1381, r188_1382, r188_1383, r188_1384, r188_1385, r188_1386, r188_1387, r188_1388, r188_1389, r188_1390, r188_1391, r188_1392, r188_1393, w1, w2, w3, w4, w5, d1, d2, d3, d4, d5, true_and, e1]
  rw [c2]
  simp only [r188_1396, r188_1399, r188_1400, if_true]
  exact kk s2 h2
theorem lc_read {I : zS → Prop} {L : Nat} (hI : zIs I L) (hP : Pr_read I) (hL : L ≤ 3072) {s : zS} (hs : I s) {i : Int} (h0 : 0 ≤ i) (h6 : i + 6 ≤ (L : Int)) {fs : List zFr} {Q : List zV → zS → Prop} (kk : ∀ s2, I s2 → Ev ((188, 1447, [zR 110 0, zR 10 0, zR 11 0, zI i], []) :: fs) s2 Q) : Ev ((188, 1401, [zR 110 0, zR 10 0, zR 11 0, zI i], []) :: fs) s Q := by
  obtain ⟨hl, hx⟩ := hI s hs
  have w1 : w32 (i + 1) = i + 1 := w32_id (by omega) (by omega)
  have b1 : (zak 110 = 0 ∧ 0 ≤ i + 1 ∧ i + 1 < zln s 110) = True := eq_true ⟨zak110, by omega, by rw [zln110, hl]; omega⟩
  obtain ⟨r, s1, s2, c1, c2, h2, e1, e2⟩ := hP (s 110 0 (i + 1)) (hx (i + 1) (by omega) (by omega)) s hs
  simp only [r188_1401, r188_1402, r188_1403, r188_1404, r188_1405, r188_1406, r188_1407, w1, b1, true_and]
  rw [c1]
  have d1 : (zak 110 = 0 ∧ 0 ≤ i + 1 ∧ i + 1 < zln s1 110) = True := eq_true ⟨zak110, by omega, by rw [zln110, e2, hl]; omega⟩
  simp only [r188_1410, r188_1411, r188_1412, r188_1413, r188_1414, r188_1415, r188_1416, w1, d1, true_and, e1]
  rw [c2]
  simp only [r188_1419, r188_1422, r188_1423, if_true]
  exact kk s2 h2
theorem lc_told {I : zS → Prop} {L : Nat} (hI : zIs I L) (hP : Pr_told I) (hL : L ≤ 3072) {s : zS} (hs : I s) {i : Int} (h0 : 0 ≤ i) (h6 : i + 6 ≤ (L : Int)) {fs : List zFr} {Q : List zV → zS → Prop} (kk : ∀ s2, I s2 → Ev ((188, 1447, [zR 110 0, zR 10 0, zR 11 0, zI i], []) :: fs) s2 Q) : Ev ((188, 1424, [zR 110 0, zR 10 0, zR 11 0, zI i], []) :: fs) s Q := by
  obtain ⟨hl, hx⟩ := hI s hs
  have w1 : w32 (i + 1) = i + 1 := w32_id (by omega) (by omega)
  have b1 : (zak 110 = 0 ∧ 0 ≤ i + 1 ∧ i + 1 < zln s 110) = True := eq_true ⟨zak110, by omega, by rw [zln110, hl]; omega⟩
  obtain ⟨r, s1, s2, c1, c2, h2, e1, e2⟩ := hP (s 110 0 (i + 1)) (hx (i + 1) (by omega) (by omega)) s hs
  simp only [r188_1424, r188_1425, r188_1426, r188_1427, r188_1428, r188_1429, r188_1430, w1, b1, true_and]
  rw [c1]
  have d1 : (zak 110 = 0 ∧ 0 ≤ i + 1 ∧ i + 1 < zln s1 110) = True := eq_true ⟨zak110, by omega, by rw [zln110, e2, hl]; omega⟩
  simp only [r188_1433, r188_1434, r188_1435, r188_1436, r188_1437, r188_1438, r188_1439, w1, d1, true_and, e1]
  rw [c2]
  simp only [r188_1442, r188_1445, r188_1446, if_true]
  exact kk s2 h2
theorem zand63 (x : Int) : 0 ≤ zand x 63 ∧ zand x 63 < 64 := by
  unfold zand
  obtain ⟨j, hj, e⟩ := pk_andE (Int32.ofInt x) (m := 63) 6 (by decide)
  rw [show Int32.ofInt 63 = (63 : Int32) from rfl, e, nI_toInt (by omega)]
  omega
theorem law_loop {I : zS → Prop} {L : Nat} (hI : zIs I L) (hL : L ≤ 3072) (h_pupil : Pr_pupil I) (h_teacher : Pr_teacher I) (h_as : Pr_as I) (h_of : Pr_of I) (h_here : Pr_here I) (h_friend : Pr_friend I) (h_wish : Pr_wish I) (h_saw : Pr_saw I) (h_ill : Pr_ill I) (h_terms : Pr_terms I) (h_level : Pr_level I) (h_may : Pr_may I) (h_classing : Pr_classing I) (h_noon : Pr_noon I) (h_worth : Pr_worth I) (h_set : Pr_set I) (h_lift : Pr_lift I) (h_slope : Pr_slope I) (h_stop : Pr_stop I) (h_meeting : Pr_meeting I) (h_serves : Pr_serves I) (h_stranded : Pr_stranded I) (h_name : Pr_name I) (h_hand : Pr_hand I) (h_back : Pr_back I) (h_left : Pr_left I) (h_ask : Pr_ask I) (h_hours : Pr_hours I) (h_book : Pr_book I) (h_open : Pr_open I) (h_choice : Pr_choice I) (h_choose : Pr_choose I) (h_sheet : Pr_sheet I) (h_write : Pr_write I) (h_copy : Pr_copy I) (h_read : Pr_read I) (h_told : Pr_told I) : ∀ (n : Nat) (i : Int) (s : zS), 0 ≤ i → (L : Int) + 6 - i ≤ (n : Int) → i ≤ (L : Int) → I s → Ev [(188, 18, [zR 110 0, zR 10 0, zR 11 0, zI i], []), (999, 0, [], [])] s (fun st _ => st = [zI 1]) := by
  intro n
  induction n with
  | zero => intro i s h0 hn hi hs; omega
  | succ n ih =>
    intro i s h0 hn hi hs
    obtain ⟨hl, hx⟩ := hI s hs
    have a1 : (zak 110 ≤ 3 ∧ 0 ≤ (L : Int)) = True := eq_true ⟨by rw [zak110]; omega, by omega⟩
    have w1 : w32 ((L : Int) - 6) = (L : Int) - 6 := w32_id (by omega) (by omega)
    simp only [r188_18, r188_19, r188_20, r188_21, r188_23, r188_24, r188_27, r188_28, r188_29, r188_30, r188_32, a1, true_and, zln110, hl, w1]
    by_cases he : (L : Int) - 6 < i
    · rw [if_pos he]
      simp only [r188_1453, r188_1454, ev_end]
      simp
    · rw [if_neg he]
      have h6 : i + 6 ≤ (L : Int) := by omega
      have b1 : (zak 110 = 0 ∧ 0 ≤ i ∧ i < (L : Int)) = True := eq_true ⟨zak110, by omega, by omega⟩
      simp only [b1, true_and]
      have hz := zand63 (s 110 0 i)
      have kk : ∀ s2, I s2 → Ev [(188, 1447, [zR 110 0, zR 10 0, zR 11 0, zI i], []), (999, 0, [], [])] s2 (fun st _ => st = [zI 1]) := by
        intro s2 h2
        have w2 : w32 (i + 6) = i + 6 := w32_id (by omega) (by omega)
        simp only [r188_1447, r188_1450, w2, zclr_R]
        by_cases hL6 : i + 6 ≤ (L : Int)
        · exact ih (i + 6) s2 (by omega) (by omega) hL6 h2
        · omega
      generalize zand (s 110 0 i) 63 = k at hz ⊢
      by_cases hk : k < 37
      · rcases (show k = 0 ∨ k = 1 ∨ k = 2 ∨ k = 3 ∨ k = 4 ∨ k = 5 ∨ k = 6 ∨ k = 7 ∨ k = 8 ∨ k = 9 ∨ k = 10 ∨ k = 11 ∨ k = 12 ∨ k = 13 ∨ k = 14 ∨ k = 15 ∨ k = 16 ∨ k = 17 ∨ k = 18 ∨ k = 19 ∨ k = 20 ∨ k = 21 ∨ k = 22 ∨ k = 23 ∨ k = 24 ∨ k = 25 ∨ k = 26 ∨ k = 27 ∨ k = 28 ∨ k = 29 ∨ k = 30 ∨ k = 31 ∨ k = 32 ∨ k = 33 ∨ k = 34 ∨ k = 35 ∨ k = 36 by omega) with rfl | rfl | rfl | rfl | rfl | rfl | rfl | rfl | rfl | rfl | rfl | rfl | rfl | rfl | rfl | rfl | rfl | rfl | rfl | rfl | rfl | rfl | rfl | rfl | rfl | rfl | rfl | rfl | rfl | rfl | rfl | rfl | rfl | rfl | rfl | rfl | rfl
        · rw [r188_33_0]; exact lc_pupil hI h_pupil hL hs h0 h6 kk
        · rw [r188_33_1]; exact lc_teacher hI h_teacher hL hs h0 h6 kk
        · rw [r188_33_2]; exact lc_as hI h_as hL hs h0 h6 kk
        · rw [r188_33_3]; exact lc_of hI h_of hL hs h0 h6 kk
        · rw [r188_33_4]; exact lc_here hI h_here hL hs h0 h6 kk
        · rw [r188_33_5]; exact lc_friend hI h_friend hL hs h0 h6 kk
        · rw [r188_33_6]; exact lc_wish hI h_wish hL hs h0 h6 kk
        · rw [r188_33_7]; exact lc_saw hI h_saw hL hs h0 h6 kk
        · rw [r188_33_8]; exact lc_ill hI h_ill hL hs h0 h6 kk
        · rw [r188_33_9]; exact lc_terms hI h_terms hL hs h0 h6 kk
        · rw [r188_33_10]; exact lc_level hI h_level hL hs h0 h6 kk
        · rw [r188_33_11]; exact lc_may hI h_may hL hs h0 h6 kk
        · rw [r188_33_12]; exact lc_classing hI h_classing hL hs h0 h6 kk
        · rw [r188_33_13]; exact lc_noon hI h_noon hL hs h0 h6 kk
        · rw [r188_33_14]; exact lc_worth hI h_worth hL hs h0 h6 kk
        · rw [r188_33_15]; exact lc_set hI h_set hL hs h0 h6 kk
        · rw [r188_33_16]; exact lc_lift hI h_lift hL hs h0 h6 kk
        · rw [r188_33_17]; exact lc_slope hI h_slope hL hs h0 h6 kk
        · rw [r188_33_18]; exact lc_stop hI h_stop hL hs h0 h6 kk
        · rw [r188_33_19]; exact lc_meeting hI h_meeting hL hs h0 h6 kk
        · rw [r188_33_20]; exact lc_serves hI h_serves hL hs h0 h6 kk
        · rw [r188_33_21]; exact lc_stranded hI h_stranded hL hs h0 h6 kk
        · rw [r188_33_22]; exact lc_name hI h_name hL hs h0 h6 kk
        · rw [r188_33_23]; exact lc_hand hI h_hand hL hs h0 h6 kk
        · rw [r188_33_24]; exact lc_back hI h_back hL hs h0 h6 kk
        · rw [r188_33_25]; exact lc_left hI h_left hL hs h0 h6 kk
        · rw [r188_33_26]; exact lc_ask hI h_ask hL hs h0 h6 kk
        · rw [r188_33_27]; exact lc_hours hI h_hours hL hs h0 h6 kk
        · rw [r188_33_28]; exact lc_book hI h_book hL hs h0 h6 kk
        · rw [r188_33_29]; exact lc_open hI h_open hL hs h0 h6 kk
        · rw [r188_33_30]; exact lc_choice hI h_choice hL hs h0 h6 kk
        · rw [r188_33_31]; exact lc_choose hI h_choose hL hs h0 h6 kk
        · rw [r188_33_32]; exact lc_sheet hI h_sheet hL hs h0 h6 kk
        · rw [r188_33_33]; exact lc_write hI h_write hL hs h0 h6 kk
        · rw [r188_33_34]; exact lc_copy hI h_copy hL hs h0 h6 kk
        · rw [r188_33_35]; exact lc_read hI h_read hL hs h0 h6 kk
        · rw [r188_33_36]; exact lc_told hI h_told hL hs h0 h6 kk
      · rw [r188_33_d _ _ _ _ (Or.inr (by omega))]
        exact kk s hs

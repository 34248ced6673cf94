/-! the start, and the claim -/
def zhas (g n : Nat) : Bool := (List.range n).all (fun i => (List.range 115).any (fun k => decide (zn k = (g, i))))
theorem zi_at {L : Nat} {xs : Nat → Int32} {s : zS} (h : zInit L xs s) (g n : Nat) (hz : zhas g n = true) (hl : lg g ≤ 50) (i : Int) (i0 : 0 ≤ i) (i1 : i < n) (j : Int) (j0 : 0 ≤ j) (j1 : j < lg g) : s g i j = zini g j.toNat := by
  obtain ⟨-, h2, -⟩ := h
  unfold zhas at hz
  have a := List.all_eq_true.mp hz i.toNat (List.mem_range.mpr (by omega))
  obtain ⟨k, k1, k2⟩ := List.any_eq_true.mp a
  have e := of_decide_eq_true k2
  have := h2 k (List.mem_range.mp k1) (by rw [e]; exact hl) j.toNat (by rw [e]; show j.toNat < lg g; omega)
  unfold znm at this
  rw [e] at this
  simp only [Int.toNat_of_nonneg i0, Int.toNat_of_nonneg j0] at this
  exact this
theorem zini_a {g j : Nat} (h1 : 13 ≤ g) (h2 : zak g ≤ 2) : zini g j = 0 := by
  have e : zsk g j = zak g := by
    unfold zsk
    rw [show Nat.ble g 12 = false from Bool.eq_false_iff.mpr (fun z => by have := Nat.le_of_ble_eq_true z; omega)]
    rfl
  unfold zini
  rw [e, if_neg (by omega), if_neg (by omega), if_neg (by omega), if_neg (by omega), if_neg (by omega)]
theorem zi_a {L : Nat} {xs : Nat → Int32} {s : zS} (h : zInit L xs s) (g n : Nat) (hz : zhas g n = true) (hl : lg g ≤ 50) (h1 : 13 ≤ g) (h2 : zak g ≤ 2) (i : Int) (i0 : 0 ≤ i) (i1 : i < n) (j : Int) (j0 : 0 ≤ j) (j1 : j < lg g) : s g i j = 0 := by
  rw [zi_at h g n hz hl i i0 i1 j j0 j1]
  exact zini_a h1 h2
theorem Inv_0 {L : Nat} {xs : Nat → Int32} {s : zS} (h : zInit L xs s) : Inv L s := by
  obtain ⟨-, -, h3, h4, h5, h6⟩ := id h
  have k10 := fun (j : Int) (j0 : 0 ≤ j) (j1 : j < lg 10) => zi_at h 10 1 (by decide +kernel) (by decide +kernel) 0 (by omega) (by omega) j j0 j1
  have k11 := fun (j : Int) (j0 : 0 ≤ j) (j1 : j < lg 11) => zi_at h 11 1 (by decide +kernel) (by decide +kernel) 0 (by omega) (by omega) j j0 j1
  have k6 := fun (j : Int) (j0 : 0 ≤ j) (j1 : j < lg 6) => zi_at h 6 1 (by decide +kernel) (by decide +kernel) 0 (by omega) (by omega) j j0 j1
  have k3 := fun (j : Int) (j0 : 0 ≤ j) (j1 : j < lg 3) => zi_at h 3 1 (by decide +kernel) (by decide +kernel) 0 (by omega) (by omega) j j0 j1
  have k1 := fun (j : Int) (j0 : 0 ≤ j) (j1 : j < lg 1) => zi_at h 1 1 (by decide +kernel) (by decide +kernel) 0 (by omega) (by omega) j j0 j1
  have k5 := fun (i : Int) (i0 : 0 ≤ i) (i1 : i < 10) (j : Int) (j0 : 0 ≤ j) (j1 : j < lg 5) => zi_at h 5 10 (by decide +kernel) (by decide +kernel) i i0 i1 j j0 j1
  have k8 := fun (i : Int) (i0 : 0 ≤ i) (i1 : i < 5) (j : Int) (j0 : 0 ≤ j) (j1 : j < lg 8) => zi_at h 8 5 (by decide +kernel) (by decide +kernel) i i0 i1 j j0 j1
  have k9 := fun (i : Int) (i0 : 0 ≤ i) (i1 : i < 6) (j : Int) (j0 : 0 ≤ j) (j1 : j < lg 9) => zi_at h 9 6 (by decide +kernel) (by decide +kernel) i i0 i1 j j0 j1
  have k12 := fun (i : Int) (i0 : 0 ≤ i) (i1 : i < 8) (j : Int) (j0 : 0 ≤ j) (j1 : j < lg 12) => zi_at h 12 8 (by decide +kernel) (by decide +kernel) i i0 i1 j j0 j1
  have k0 := fun (i : Int) (i0 : 0 ≤ i) (i1 : i < 10) (j : Int) (j0 : 0 ≤ j) (j1 : j < lg 0) => zi_at h 0 10 (by decide +kernel) (by decide +kernel) i i0 i1 j j0 j1
  have k7 := fun (i : Int) (i0 : 0 ≤ i) (i1 : i < 4) (j : Int) (j0 : 0 ≤ j) (j1 : j < lg 7) => zi_at h 7 4 (by decide +kernel) (by decide +kernel) i i0 i1 j j0 j1
  have k54 := fun (i : Int) (i0 : 0 ≤ i) (i1 : i < 4) (j : Int) (j0 : 0 ≤ j) (j1 : j < lg 54) => zi_a h 54 4 (by decide +kernel) (by decide +kernel) (by omega) (by decide +kernel) i i0 i1 j j0 j1
  have k81 := fun (j : Int) (j0 : 0 ≤ j) (j1 : j < lg 81) => zi_a h 81 1 (by decide +kernel) (by decide +kernel) (by omega) (by decide +kernel) 0 (by omega) (by omega) j j0 j1
  have k86 := fun (j : Int) (j0 : 0 ≤ j) (j1 : j < lg 86) => zi_a h 86 1 (by decide +kernel) (by decide +kernel) (by omega) (by decide +kernel) 0 (by omega) (by omega) j j0 j1
  have k87 := fun (j : Int) (j0 : 0 ≤ j) (j1 : j < lg 87) => zi_a h 87 1 (by decide +kernel) (by decide +kernel) (by omega) (by decide +kernel) 0 (by omega) (by omega) j j0 j1
  have k93 := fun (j : Int) (j0 : 0 ≤ j) (j1 : j < lg 93) => zi_a h 93 1 (by decide +kernel) (by decide +kernel) (by omega) (by decide +kernel) 0 (by omega) (by omega) j j0 j1
  have k98 := fun (j : Int) (j0 : 0 ≤ j) (j1 : j < lg 98) => zi_a h 98 1 (by decide +kernel) (by decide +kernel) (by omega) (by decide +kernel) 0 (by omega) (by omega) j j0 j1
  have k99 := fun (j : Int) (j0 : 0 ≤ j) (j1 : j < lg 99) => zi_a h 99 1 (by decide +kernel) (by decide +kernel) (by omega) (by decide +kernel) 0 (by omega) (by omega) j j0 j1
  have k100 := fun (j : Int) (j0 : 0 ≤ j) (j1 : j < lg 100) => zi_a h 100 1 (by decide +kernel) (by decide +kernel) (by omega) (by decide +kernel) 0 (by omega) (by omega) j j0 j1
  have k101 := fun (j : Int) (j0 : 0 ≤ j) (j1 : j < lg 101) => zi_a h 101 1 (by decide +kernel) (by decide +kernel) (by omega) (by decide +kernel) 0 (by omega) (by omega) j j0 j1
  have l0 : lg 0 = 5 := by decide +kernel
  have l1 : lg 1 = 5 := by decide +kernel
  have l3 : lg 3 = 6 := by decide +kernel
  have l5 : lg 5 = 9 := by decide +kernel
  have l6 : lg 6 = 10 := by decide +kernel
  have l7 : lg 7 = 3 := by decide +kernel
  have l8 : lg 8 = 6 := by decide +kernel
  have l9 : lg 9 = 4 := by decide +kernel
  have l10 : lg 10 = 6 := by decide +kernel
  have l12 : lg 12 = 4 := by decide +kernel
  have l54 : lg 54 = 10 := by decide +kernel
  have l81 : lg 81 = 10 := by decide +kernel
  have l86 : lg 86 = 5 := by decide +kernel
  have l87 : lg 87 = 5 := by decide +kernel
  have l93 : lg 93 = 6 := by decide +kernel
  have l98 : lg 98 = 10 := by decide +kernel
  have l99 : lg 99 = 4 := by decide +kernel
  have l100 : lg 100 = 4 := by decide +kernel
  have l101 : lg 101 = 40 := by decide +kernel
  have l11 : 13 ≤ lg 11 := by decide +kernel
  have m0 : s 11 0 0 = 0 := (k11 0 (by omega) (by omega)).trans (by decide +kernel)
  have m1 : s 11 0 1 = 0 := (k11 1 (by omega) (by omega)).trans (by decide +kernel)
  have m2 : s 11 0 2 = 0 := (k11 2 (by omega) (by omega)).trans (by decide +kernel)
  have m3 : s 11 0 3 = 0 := (k11 3 (by omega) (by omega)).trans (by decide +kernel)
  have m4 : s 11 0 4 = 0 := (k11 4 (by omega) (by omega)).trans (by decide +kernel)
  have m5 : s 11 0 5 = 0 := (k11 5 (by omega) (by omega)).trans (by decide +kernel)
  have m6 : s 11 0 6 = 6 := (k11 6 (by omega) (by omega)).trans (by decide +kernel)
  have m7 : s 11 0 7 = 90 := (k11 7 (by omega) (by omega)).trans (by decide +kernel)
  have m8 : s 11 0 8 = 2 := (k11 8 (by omega) (by omega)).trans (by decide +kernel)
  have m9 : s 11 0 9 = 1 := (k11 9 (by omega) (by omega)).trans (by decide +kernel)
  have m10 : s 11 0 10 = 0 := (k11 10 (by omega) (by omega)).trans (by decide +kernel)
  have m11 : s 11 0 11 = 2 := (k11 11 (by omega) (by omega)).trans (by decide +kernel)
  have m12 : s 11 0 12 = 4 := (k11 12 (by omega) (by omega)).trans (by decide +kernel)
  have n5 : s 10 0 5 = 0 := (k10 5 (by omega) (by omega)).trans (by decide +kernel)
  have o1 : s 6 0 1 = 0 := (k6 1 (by omega) (by omega)).trans (by decide +kernel)
  have o3 : s 6 0 3 = 0 := (k6 3 (by omega) (by omega)).trans (by decide +kernel)
  have o4 : s 6 0 4 = 0 := (k6 4 (by omega) (by omega)).trans (by decide +kernel)
  have o5 : s 6 0 5 = 6 := (k6 5 (by omega) (by omega)).trans (by decide +kernel)
  have o6 : s 6 0 6 = 90 := (k6 6 (by omega) (by omega)).trans (by decide +kernel)
  have o7 : s 6 0 7 = 2 := (k6 7 (by omega) (by omega)).trans (by decide +kernel)
  have o8 : s 6 0 8 = 1 := (k6 8 (by omega) (by omega)).trans (by decide +kernel)
  have p1 : s 3 0 1 = 0 := (k3 1 (by omega) (by omega)).trans (by decide +kernel)
  have p3 : s 3 0 3 = 0 := (k3 3 (by omega) (by omega)).trans (by decide +kernel)
  have p4 : s 3 0 4 = 0 := (k3 4 (by omega) (by omega)).trans (by decide +kernel)
  have q1 : s 1 0 1 = 0 := (k1 1 (by omega) (by omega)).trans (by decide +kernel)
  have q2 : s 1 0 2 = 2 := (k1 2 (by omega) (by omega)).trans (by decide +kernel)
  have q3 : s 1 0 3 = 4 := (k1 3 (by omega) (by omega)).trans (by decide +kernel)
  have c0 : s 108 0 0 = 1 := h3 0 (by omega)
  have c1 : s 108 0 1 = 3 := h3 1 (by omega)
  have c2 : s 108 0 2 = 5 := h3 2 (by omega)
  have c3 : s 108 0 3 = 11 := h3 3 (by omega)
  have d0 : s 109 0 0 = 1 := h4 0 (by omega)
  have d1 : s 109 0 1 = 3 := h4 1 (by omega)
  have d2 : s 109 0 2 = 5 := h4 2 (by omega)
  have d3 : s 109 0 3 = 13 := h4 3 (by omega)
  refine ⟨⟨h5, fun j j0 j1 => ?_⟩, ⟨⟨c0, c1, c2, c3⟩, d0, d1, d2, d3⟩, ⟨by omega, by omega, by omega⟩, ⟨by omega, by omega, by omega⟩, ⟨by omega, by omega, by omega⟩, ⟨by omega, by omega, by omega⟩, ⟨by omega, by omega, by omega⟩, ⟨by omega, by omega, by omega⟩, ⟨⟨by omega, by omega, by omega⟩, ⟨by omega, by omega, by omega⟩, ⟨by omega, by omega, by omega⟩, ⟨by omega, by omega, by omega⟩⟩, ⟨by omega, by omega, by omega⟩, ⟨by omega, by omega, by omega, by omega, by omega⟩, fun p p0 p1 => by omega, fun p p0 p1 => ?_, ⟨by omega, by omega, fun p p0 => ?_⟩, fun t t0 t1 => by omega, fun t t0 t1 => ?_, ⟨fun i i0 i1 => by omega, fun i i0 i1 => ?_, fun i i0 i1 => ?_⟩, ⟨fun i i0 i1 => by omega, fun i i0 i1 => ?_⟩, ⟨fun i i0 i1 => by omega, fun i i0 i1 => ?_⟩, fun i i0 i1 => ?_⟩
  · have e := h6 j.toNat (by omega)
    rw [Int.toNat_of_nonneg j0] at e
    rw [e]
    exact ⟨Int32.le_toInt _, Int32.toInt_lt _⟩
  · rw [m0] at p0
    exact ⟨(k5 p p0 p1 3 (by omega) (by omega)).trans (by decide +kernel), (k5 p p0 p1 4 (by omega) (by omega)).trans (by decide +kernel), (k5 p p0 p1 5 (by omega) (by omega)).trans (by decide +kernel), (k5 p p0 p1 7 (by omega) (by omega)).trans (by decide +kernel), (k5 p p0 p1 8 (by omega) (by omega)).trans (by decide +kernel), k81 p p0 (by omega)⟩
  · rw [o4]
    exact ⟨fun z => absurd z (bi_0 p), fun z => by omega⟩
  · rw [m1] at t0
    exact ⟨(k8 t t0 t1 2 (by omega) (by omega)).trans (by decide +kernel), (k8 t t0 t1 3 (by omega) (by omega)).trans (by decide +kernel), (k8 t t0 t1 4 (by omega) (by omega)).trans (by decide +kernel), (k8 t t0 t1 5 (by omega) (by omega)).trans (by decide +kernel), k86 t t0 (by omega), k87 t t0 (by omega)⟩
  · exact (k9 i i0 i1 2 (by omega) (by omega)).trans (by decide +kernel)
  · rw [m2] at i0
    exact ⟨(k9 i i0 i1 3 (by omega) (by omega)).trans (by decide +kernel), k93 i i0 (by omega)⟩
  · exact (k12 i i0 i1 3 (by omega) (by omega)).trans (by decide +kernel)
  · rw [m4] at i0
    exact ⟨(k0 i i0 i1 4 (by omega) (by omega)).trans (by decide +kernel), k98 i i0 (by omega)⟩
  · have a0 := (k7 i i0 i1 0 (by omega) (by omega)).trans (show zini 7 (0 : Int).toNat = 0 by decide +kernel)
    have a1 := (k7 i i0 i1 1 (by omega) (by omega)).trans (show zini 7 (1 : Int).toNat = 0 by decide +kernel)
    have a2 := k99 i i0 (by omega)
    have a3 := k100 i i0 (by omega)
    refine ⟨by omega, by omega, fun j j0 j1 => ?_⟩
    rw [k54 i i0 i1 j j0 (by omega), k101 (10 * i + j) (by omega) (by omega)]
    exact ⟨rfl, by omega, by omega⟩
theorem z_law : zLaw := by
  intro L xs s hL h
  exact law_loop (zIs_Inv L) hL (pr_pupil L) (pr_teacher L) (pr_as L) (pr_of L) (pr_here L) (pr_friend L) (pr_wish L) (pr_saw L) (pr_ill L) (pr_terms L) (pr_level L) (pr_may L) (pr_classing L) (pr_noon L) (pr_worth L) (pr_set L) (pr_lift L) (pr_slope L) (pr_stop L) (pr_meeting L) (pr_serves L) (pr_stranded L) (pr_name L) (pr_hand L) (pr_back L) (pr_left L) (pr_ask L) (pr_hours L) (pr_book L) (pr_open L) (pr_choice L) (pr_choose L) (pr_sheet L) (pr_write L) (pr_copy L) (pr_read L) (pr_told L) (L + 6) 0 s (by omega) (by omega) (by omega) (Inv_0 h)

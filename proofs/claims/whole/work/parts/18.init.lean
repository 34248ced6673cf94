/-! the two constructors, run by the kernel -/
def zc0 : zS := fun g i k => if g = 108 ∧ i = 0 then z108 k.toNat else if g = 109 ∧ i = 0 then z109 k.toNat else if g = 111 then -1 else 0
/-- what a slot holds when both objects are made (rows of at most 50) -/
def zini (g j : Nat) : Int :=
  if 3 ≤ zsk g j then 1
  else if g = 5 then (if j = 4 then 9 else if j = 5 then -1 else if j = 8 then -1 else 0)
  else if g = 6 then (if j = 5 then 6 else if j = 6 then 90 else if j = 7 then 2 else if j = 8 then 1 else 0)
  else if g = 1 then (if j = 2 then 2 else if j = 3 then 4 else 0)
  else if g = 11 then (if j = 6 then 6 else if j = 7 then 90 else if j = 8 then 2 else if j = 9 then 1 else if j = 11 then 2 else if j = 12 then 4 else 0)
  else 0
def zchk (o : Option (Nat × List zV × List zV × zS)) : Bool := match o with
  | some (pc, al, st, s) => decide (pc = 18) && decide (al = [zR 110 0, zR 10 0, zR 11 0, zI 0]) && decide (st = []) && decide (zcnt s = 115) && (List.range 115).all (fun k => Nat.ble 51 (lg (zn k).1) || (List.range (lg (zn k).1)).all (fun j => decide (s (znm k).1 (znm k).2 j = zini (zn k).1 j)))
  | none => false
set_option maxRecDepth 1000000 in
theorem zrun0 : zchk (zpt false 700 10 188 0 [zR 110 0, zU, zU, zU] [] zc0) = true := by decide +kernel
theorem zrun1 : ∃ s, zpt false 700 10 188 0 [zR 110 0, zU, zU, zU] [] zc0 = some (18, [zR 110 0, zR 10 0, zR 11 0, zI 0], [], s) ∧ zcnt s = 115 ∧ ∀ k, k < 115 → lg (zn k).1 ≤ 50 → ∀ j, j < lg (zn k).1 → s (znm k).1 (znm k).2 j = zini (zn k).1 j := by
  have h := zrun0
  cases e : zpt false 700 10 188 0 [zR 110 0, zU, zU, zU] [] zc0 with
  | none => rw [e] at h; cases h
  | some w =>
    obtain ⟨pc, al, st, s⟩ := w
    rw [e] at h
    unfold zchk at h
    simp only [Bool.and_eq_true, decide_eq_true_eq] at h
    obtain ⟨⟨⟨⟨h1, h2⟩, h3⟩, h4⟩, h5⟩ := h
    subst h1; subst h2; subst h3
    refine ⟨s, rfl, h4, fun k hk hl j hj => ?_⟩
    have := List.all_eq_true.mp h5 k (List.mem_range.mpr hk)
    rw [Bool.or_eq_true] at this
    rcases this with h6 | h6
    · have := zlt' h6
      omega
    · exact decide_eq_true_eq.mp (List.all_eq_true.mp h6 j (List.mem_range.mpr hj))

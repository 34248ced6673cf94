/-! rules: what a run is, an instruction at a time -/
abbrev Ev (fs : List zFr) (s : zS) (Q : List zV → zS → Prop) : Prop := zEv true fs s Q
section EV
variable {m pc pc' len b mm : Nat} {ls ls' st st' argsL rest : List zV} {fs : List zFr} {s s' : zS} {Q : List zV → zS → Prop} {i : Instr} {a : Int}
theorem ev_a (hz : zi m pc = some (i, len, a, b)) (hr : zret m i st = none) (hc : zcal i a st = none) (ha : zact true m pc ls st s i a b = some (pc', ls', st', s')) : Ev ((m, pc, ls, st) :: fs) s Q = Ev ((m, pc', ls', st') :: fs) s' Q := by
  apply propext
  constructor
  · rintro ⟨n, h⟩
    cases n with
    | zero => exact h.elim
    | succ n =>
      unfold zrn at h
      rw [hz] at h
      dsimp only at h
      rw [hr] at h
      dsimp only at h
      rw [hc] at h
      dsimp only at h
      rw [ha] at h
      exact ⟨n, h⟩
  · rintro ⟨n, h⟩
    refine ⟨n + 1, ?_⟩
    unfold zrn
    rw [hz]
    dsimp only
    rw [hr]
    dsimp only
    rw [hc]
    dsimp only
    rw [ha]
    exact h
theorem ev_n (hz : zi m pc = some (i, len, a, b)) (hr : zret m i st = none) (hc : zcal i a st = none) (ha : zact true m pc ls st s i a b = none) : Ev ((m, pc, ls, st) :: fs) s Q = False := by
  apply propext
  constructor
  · rintro ⟨n, h⟩
    cases n with
    | zero => exact h.elim
    | succ n =>
      unfold zrn at h
      rw [hz] at h
      dsimp only at h
      rw [hr] at h
      dsimp only at h
      rw [hc] at h
      dsimp only at h
      rw [ha] at h
      exact h
  · exact fun h => h.elim
theorem ev_call (hz : zi m pc = some (i, len, a, b)) (hr : zret m i st = none) (hc : zcal i a st = some (mm, argsL, rest)) : Ev ((m, pc, ls, st) :: fs) s Q = Ev ((mm, 0, zpad (znl mm) argsL, []) :: (m, pc + 3, ls, rest) :: fs) s Q := by
  apply propext
  constructor
  · rintro ⟨n, h⟩
    cases n with
    | zero => exact h.elim
    | succ n =>
      unfold zrn at h
      rw [hz] at h
      dsimp only at h
      rw [hr] at h
      dsimp only at h
      rw [hc] at h
      exact ⟨n, h⟩
  · rintro ⟨n, h⟩
    refine ⟨n + 1, ?_⟩
    unfold zrn
    rw [hz]
    dsimp only
    rw [hr]
    dsimp only
    rw [hc]
    exact h
theorem ev_call2 {al2 : List zV} (argsL : List zV) (hz : zi m pc = some (i, len, a, b)) (hr : zret m i st = none) (hc : zcal i a st = some (mm, argsL, rest)) (hp : zpad (znl mm) argsL = al2) : Ev ((m, pc, ls, st) :: fs) s Q = Ev ((mm, 0, al2, []) :: (m, pc + 3, ls, rest) :: fs) s Q := by
  rw [ev_call hz hr hc, hp]
theorem ev_ret {m' : Nat} {v : Option zV} (hz : zi m pc = some (i, len, a, b)) (hr : zret m i st = some v) : Ev ((m, pc, ls, st) :: (m', pc', ls', st') :: fs) s Q = Ev ((m', pc', ls', v.toList ++ st') :: fs) s Q := by
  apply propext
  constructor
  · rintro ⟨n, h⟩
    cases n with
    | zero => exact h.elim
    | succ n =>
      unfold zrn at h
      rw [hz] at h
      dsimp only at h
      rw [hr] at h
      exact ⟨n, h⟩
  · rintro ⟨n, h⟩
    refine ⟨n + 1, ?_⟩
    unfold zrn
    rw [hz]
    dsimp only
    rw [hr]
    exact h
theorem ev_retz {m' : Nat} {x : Int} (hz : zi m pc = some (.ireturn, len, a, b)) (hk : zrk m = 1) : Ev ((m, pc, ls, [zI x]) :: (m', pc', ls', st') :: fs) s Q = ((x = 0 ∨ x = 1) ∧ Ev ((m', pc', ls', zI x :: st') :: fs) s Q) := by
  by_cases hx : x = 0 ∨ x = 1
  · rw [ev_ret (v := some (zI x)) hz (by unfold zret; dsimp only; rw [hk, if_pos hx]; rfl)]
    exact propext ⟨fun h => ⟨hx, h⟩, fun h => h.2⟩
  · rw [ev_n hz (by unfold zret; dsimp only; rw [hk, if_neg hx]; rfl) rfl rfl]
    exact propext ⟨fun h => h.elim, fun h => hx h.1⟩
theorem ev_end : Ev [(999, 0, ls, st)] s Q = Q st s := by
  apply propext
  constructor
  · rintro ⟨n, h⟩
    cases n with
    | zero => exact h.elim
    | succ n =>
      have h : (999 : Nat) = 999 ∧ Q st s := h
      exact h.2
  · intro h
    exact ⟨1, rfl, h⟩
/-- a step with a condition -/
theorem ev_c {c : Prop} [Decidable c] (hz : zi m pc = some (i, len, a, b)) (hr : zret m i st = none) (hc : zcal i a st = none) (ha : zact true m pc ls st s i a b = if c then some (pc', ls', st', s') else none) : Ev ((m, pc, ls, st) :: fs) s Q = (c ∧ Ev ((m, pc', ls', st') :: fs) s' Q) := by
  by_cases h : c
  · rw [if_pos h] at ha
    rw [ev_a hz hr hc ha]
    exact propext ⟨fun q => ⟨h, q⟩, fun q => q.2⟩
  · rw [if_neg h] at ha
    rw [ev_n hz hr hc ha]
    exact propext ⟨fun q => q.elim, fun q => h q.1⟩
theorem ev_d {c : Prop} [Decidable c] (hz : zi m pc = some (i, len, a, b)) (hr : zret m i st = none) (hc : zcal i a st = none) (ha : zact true m pc ls st s i a b = if c then none else some (pc', ls', st', s')) : Ev ((m, pc, ls, st) :: fs) s Q = ((¬ c) ∧ Ev ((m, pc', ls', st') :: fs) s' Q) := by
  by_cases h : c
  · rw [if_pos h] at ha
    rw [ev_n hz hr hc ha]
    exact propext ⟨fun q => q.elim, fun q => q.1 h⟩
  · rw [if_neg h] at ha
    rw [ev_a hz hr hc ha]
    exact propext ⟨fun q => ⟨h, q⟩, fun q => q.2⟩
/-- a branch -/
theorem ev_b {c : Prop} [Decidable c] {t1 t2 : Nat} (hz : zi m pc = some (i, len, a, b)) (hr : zret m i st = none) (hc : zcal i a st = none) (ha : zact true m pc ls st s i a b = some (bif decide c then t1 else t2, ls', st', s')) : Ev ((m, pc, ls, st) :: fs) s Q = if c then Ev ((m, t1, ls', st') :: fs) s' Q else Ev ((m, t2, ls', st') :: fs) s' Q := by
  rw [ev_a hz hr hc ha]
  by_cases h : c
  · rw [decide_eq_true h, if_pos h]; rfl
  · rw [decide_eq_false h, if_neg h]; rfl
end EV
theorem zclr_I (x : Int) : zclr (zI x) = zI x := rfl
theorem zclr_L (x : Int) : zclr (zL x) = zU := rfl
theorem zclr_R (g : Nat) (i : Int) : zclr (zR g i) = zR g i := rfl
theorem zclr_U : zclr zU = zU := rfl
section EV2
variable {m pc pc' len b mm : Nat} {ls ls' st st' argsL rest : List zV} {fs : List zFr} {s s' : zS} {Q : List zV → zS → Prop} {i : Instr} {a : Int}
theorem ev_acmpn {x y off : Int} (hz : zi m pc = some (.if_acmp .ne off, len, a, b)) : Ev ((m, pc, ls, zR 0 y :: zR 0 x :: st) :: fs) s Q = if ¬ x = y then Ev ((m, b, ls, st) :: fs) s Q else Ev ((m, pc + 3, ls, st) :: fs) s Q := by
  rw [ev_a (pc' := bif !(decide (((0, x) : Nat × Int) = (0, y))) then b else pc + 3) hz rfl rfl rfl]
  by_cases h : x = y
  · subst h; simp
  · have : ¬ ((0, x) : Nat × Int) = (0, y) := fun z => h (congrArg Prod.snd z)
    rw [decide_eq_false this, if_pos h]
    rfl
theorem ev_acmp {x y off : Int} (hz : zi m pc = some (.if_acmp .eq off, len, a, b)) : Ev ((m, pc, ls, zR 0 y :: zR 0 x :: st) :: fs) s Q = if x = y then Ev ((m, b, ls, st) :: fs) s Q else Ev ((m, pc + 3, ls, st) :: fs) s Q := by
  rw [ev_a (pc' := bif (decide (((0, x) : Nat × Int) = (0, y))) then b else pc + 3) hz rfl rfl rfl]
  by_cases h : x = y
  · subst h; simp
  · have : ¬ ((0, x) : Nat × Int) = (0, y) := fun z => h (congrArg Prod.snd z)
    rw [decide_eq_false this, if_neg h]
    rfl
theorem ev_alen {g : Nat} {j : Int} (hz : zi m pc = some (.arraylength, len, a, b)) : Ev ((m, pc, ls, zR g j :: st) :: fs) s Q = ((zak g ≤ 3 ∧ 0 ≤ zln s g) ∧ Ev ((m, pc + 1, ls, zI (zln s g) :: st) :: fs) s Q) := by
  refine ev_c (c := zak g ≤ 3 ∧ 0 ≤ zln s g) hz rfl rfl ?_
  show (bif Nat.ble (zak g) 3 && decide (0 ≤ zln s g) then _ else none) = _
  by_cases h : zak g ≤ 3
  · rw [zbl h]
    by_cases h2 : 0 ≤ zln s g
    · rw [decide_eq_true h2, if_pos ⟨h, h2⟩]; rfl
    · rw [decide_eq_false h2, if_neg (fun z => h2 z.2)]; rfl
  · rw [zbln (by omega), if_neg (fun z => h z.1)]; rfl
theorem ev_tsd {dflt lo hi x : Int} {offs : Array Int} (hz : zi m pc = some (.tableswitch dflt lo hi offs, len, a, b)) (h : x < lo ∨ hi < x) (ht : (pc : Int) + dflt = (pc' : Int)) : Ev ((m, pc, ls, zI x :: st) :: fs) s Q = Ev ((m, pc', ls, st) :: fs) s Q := by
  have e : zts pc dflt lo hi offs x = (pc' : Int) := by unfold zts; rw [if_pos h, ht]
  refine ev_a hz rfl rfl ?_
  show (if 0 ≤ zts pc dflt lo hi offs x then _ else none) = _
  rw [if_pos (by rw [e]; omega), e]
  rfl
end EV2

/-! a run of the little machine is a run of the machine -/
abbrev zWm (m : Nat) : List Cond := Cond.code (zy m) (zb m) (znl m) (zrt m) :: zgw
theorem zgw_good (w : Cond) (h : w ∈ zgw) : goodWord w = true := (List.mem_filter.mp h).2
theorem zgoodIn {ws : List Cond} (h : ∀ w ∈ ws, w ∈ zgw) : GoodIn zgw ws := fun w hw => ⟨h w hw, good_of_word (zgw_good w (h w hw))⟩
theorem zm_f (m : Nat) (h : m < zmids) : Cond.code (zy m) (zb m) (znl m) (zrt m) ∈ zgw ∧ Cond.initialized (zy m).cls ∈ zgw ∧ (zkd m = 1 → Cond.static (zy m) ∈ zgw) ∧ (zkd m ≠ 1 → Cond.instanceMethod (zy m) ∈ zgw) ∧ (zkd m = 0 → Cond.selects (zy m).cls (zy m) (zy m) ∈ zgw) := by
  have := zk_m_all m h
  unfold zk_m at this
  simp only [Bool.and_eq_true, Bool.or_eq_true, decide_eq_true_eq] at this
  obtain ⟨⟨⟨h1, h2⟩, h3⟩, h4⟩ := this
  refine ⟨zat_in h1, zat_in h2, fun k => ?_, fun k => ?_, fun k => ?_⟩
  · rw [if_pos k] at h3; exact zat_in h3
  · rw [if_neg k] at h3; exact zat_in h3
  · rcases h4 with h4 | h4
    · exact absurd k h4
    · exact zat_in h4
theorem zm_n (m : Nat) (h : m < 189) : plainName (zy m).cls = true ∧ ((zy m).cls ≠ "java/lang/invoke/MethodHandle" ∧ (zy m).cls ≠ "java/lang/invoke/VarHandle" ∧ (parseMethodDescriptor (zy m).desc).map (fun d => d.parameters.length) = some (znp m)) ∧ (zy m).cls = zcl (zcn m) ∧ (zkd m = 2 → (zy m).name = "<init>") ∧ (zkd m = 1 ∨ zcn m < 12) := by
  have := List.all_eq_true.mp zk_n_all m (List.mem_range.mpr h)
  unfold zk_n at this
  simp only [Bool.and_eq_true, Bool.or_eq_true, decide_eq_true_eq, beq_iff_eq] at this
  obtain ⟨⟨⟨⟨h1, h2⟩, h3⟩, h4⟩, h5⟩ := this
  refine ⟨h1, h2, h3, fun k => zk_ctor0 m h k, h5⟩
theorem zrt2 : ∀ m, m < 188 → zkd m = 2 → zrt m = none := by decide +kernel
theorem zrk_f : ∀ m, m < 188 → (zrk m = 0 → zrt m = some .int) ∧ (zrk m = 1 → zrt m = some .boolean) ∧ (zrk m = 2 → zrt m = some .long) ∧ (zrk m = 4 → zrt m = none) ∧ (zrk m = 3 → (match zrt m with | some t => t.isReference | none => false) = true) := by decide +kernel
theorem zca_f {b : Bool} {a : Int} {st args rest : List zV} {m : Nat} (h : zca b a st = some (m, args, rest)) : a < 900 ∧ a.toNat = m ∧ args = (st.take (znp m + (bif Nat.beq (zkd m) 1 then 0 else 1))).reverse ∧ rest = st.drop (znp m + (bif Nat.beq (zkd m) 1 then 0 else 1)) ∧ znp m + (bif Nat.beq (zkd m) 1 then 0 else 1) ≤ st.length ∧ zwsum rest ≤ 8 ∧ (zxa args).length ≤ znl m ∧ (b = true → ∃ (r : Nat × Int) (t : List zV), args = .inr (.inr (.inl r)) :: t ∧ tg r.1 = zcn m ∧ r.1 ≤ 12) := by
  unfold zca at h
  obtain ⟨h1, h⟩ := zbif h
  obtain ⟨h2, h⟩ := zbif h
  have h1 := decide_eq_true_eq.mp h1
  simp only [Bool.and_eq_true] at h2
  have f1 := zlt' h2.1.1
  have f2 := zlt' h2.1.2
  have f3 := zlt' h2.2
  cases b with
  | false =>
    have e := Option.some.inj h
    have e1 : a.toNat = m := congrArg Prod.fst e
    have e2 := congrArg (fun z => z.2.1) e
    have e3 := congrArg (fun z => z.2.2) e
    dsimp only at e2 e3
    rw [e1] at e2 e3 f1 f2 f3
    exact ⟨h1, e1, e2.symm, e3.symm, f1, by rw [← e3]; exact f2, by rw [← e2]; exact f3, fun z => by cases z⟩
  | true =>
    dsimp only [cond_true] at h
    split at h
    · rename_i r t hargs
      obtain ⟨h3, h⟩ := zbif h
      rw [Bool.and_eq_true] at h3
      have e := Option.some.inj h
      have e1 : a.toNat = m := congrArg Prod.fst e
      have e2 := congrArg (fun z => z.2.1) e
      have e3 := congrArg (fun z => z.2.2) e
      dsimp only at e2 e3
      rw [e1] at e2 e3 f1 f2 f3 h3 hargs
      rw [e2] at hargs
      exact ⟨h1, e1, e2.symm, e3.symm, f1, by rw [← e3]; exact f2, by rw [← e2]; exact f3, fun _ => ⟨r, t, hargs, zbt h3.1, zlt' h3.2⟩⟩
    · cases h
theorem zll_sl (ad : Nat → Int → Nat) : ∀ l : List zV, (lg_sl (l.map (zcv ad))).length = (zxa l).length
  | [] => rfl
  | v :: t => by
    have ih := zll_sl ad t
    unfold lg_sl at ih ⊢
    rcases v with x | x | r | u
    · show (_ :: _).length = (_ :: _).length
      rw [List.length_cons, List.length_cons]; exact congrArg (· + 1) ih
    · show (_ :: _ :: _).length = (_ :: _ :: _).length
      rw [List.length_cons, List.length_cons, List.length_cons, List.length_cons]; exact congrArg (· + 1 + 1) ih
    · show (_ :: _).length = (_ :: _).length
      rw [List.length_cons, List.length_cons]; exact congrArg (· + 1) ih
    · show (_ :: _).length = (_ :: _).length
      rw [List.length_cons, List.length_cons]; exact congrArg (· + 1) ih
theorem zpad_mem (ad : Nat → Int → Nat) (n : Nat) : ∀ (l : List zV) (k i : Nat) (v : zV), (zxa l ++ List.replicate n zU)[i]? = some v → v ≠ zU → (k + i, zcv ad v) ∈ lv_args k (l.map (zcv ad))
  | [], k, i, v, h, hv => by
    have h : (List.replicate n zU)[i]? = some v := h
    rw [List.getElem?_replicate] at h
    split at h
    · exact absurd (Option.some.inj h).symm hv
    · cases h
  | w :: t, k, i, v, h, hv => by
    rcases w with x | x | r | u
    · have ih := zpad_mem ad n t (k + 1)
      show _ ∈ (k, _) :: lv_args (k + 1) _
      cases i with
      | zero => cases h; exact List.mem_cons_self
      | succ i => rw [show k + (i + 1) = k + 1 + i by omega]; exact List.mem_cons_of_mem _ (ih i v h hv)
    · have ih := zpad_mem ad n t (k + 2)
      show _ ∈ (k, _) :: lv_args (k + 2) _
      match i, h with
      | 0, h => cases h; exact List.mem_cons_self
      | 1, h => exact absurd (Option.some.inj h).symm hv
      | i + 2, h => rw [show k + (i + 2) = k + 2 + i by omega]; exact List.mem_cons_of_mem _ (ih i v h hv)
    · have ih := zpad_mem ad n t (k + 1)
      show _ ∈ (k, _) :: lv_args (k + 1) _
      cases i with
      | zero => cases h; exact List.mem_cons_self
      | succ i => rw [show k + (i + 1) = k + 1 + i by omega]; exact List.mem_cons_of_mem _ (ih i v h hv)
    · have ih := zpad_mem ad n t (k + 1)
      show _ ∈ (k, _) :: lv_args (k + 1) _
      cases i with
      | zero => cases h; exact absurd rfl hv
      | succ i => rw [show k + (i + 1) = k + 1 + i by omega]; exact List.mem_cons_of_mem _ (ih i v h hv)
theorem zLr_entry {ad : Nat → Int → Nat} {l : List zV} {n : Nat} (h : (zxa l).length ≤ n) : zLr ad ((lg_sl (l.map (zcv ad)) ++ List.replicate (n - (lg_sl (l.map (zcv ad))).length) Slot.unset).toArray) n (zpad n l) := by
  have hl := lv_entry (l.map (zcv ad)) (n := n) (by rw [zll_sl]; exact h)
  refine ⟨hl.1, hl.2.1, ?_, fun i v hi hv => ?_⟩
  · unfold zpad
    rw [List.length_append, List.length_replicate]
    omega
  · have := zpad_mem ad _ l 0 i v hi hv
    rw [Nat.zero_add] at this
    exact hl.2.2 _ this
theorem zpad_ok {n k : Nat} : ∀ {l : List zV}, (∀ v ∈ l, zov n v) → ∀ v ∈ zpad k l, zov n v := by
  intro l h v hv
  unfold zpad at hv
  rcases List.mem_append.mp hv with hv | hv
  · have key : ∀ (l : List zV), (∀ v ∈ l, zov n v) → ∀ v ∈ zxa l, zov n v := by
      intro l
      induction l with
      | nil => intro _ v hv; cases hv
      | cons w t ih =>
        intro h v hv
        obtain ⟨h1, h2⟩ := List.forall_mem_cons.mp h
        rcases w with x | x | r | u
        · rcases List.mem_cons.mp hv with hv | hv
          · rw [hv]; exact h1
          · exact ih h2 v hv
        · rcases List.mem_cons.mp hv with hv | hv
          · rw [hv]; exact h1
          · rcases List.mem_cons.mp hv with hv | hv
            · rw [hv]; exact trivial
            · exact ih h2 v hv
        · rcases List.mem_cons.mp hv with hv | hv
          · rw [hv]; exact h1
          · exact ih h2 v hv
        · rcases List.mem_cons.mp hv with hv | hv
          · rw [hv]; exact trivial
          · exact ih h2 v hv
    exact key l h v hv
  · rw [List.eq_of_mem_replicate hv]; exact trivial
/-- the world at a state -/
def zBU (ph : Bool) (D : va_G) (dA : Nat → ClassId) (A : Nat → Prop) (L : Nat) (xs : Nat → Int32) (ad : Nat → Int → Nat) (s : zS) (U : State) : Prop :=
  va_P D vwCl (zws ph dA ad s) U.heap ∧ va_D A (zws ph dA ad s) ∧ zoks ph s ∧ zsta L xs s ∧ va_K D vwCl (ztys dA) U ∧ (∀ w ∈ zbw, va_Nw w U) ∧ zSt ad A L xs U U.heap ∧ (∀ q, U.heap.size ≤ q → A q) ∧ zAO U
theorem zbw_mv {u U : State} (hW : u.WarmedH U.vm) {w : Cond} (hw : w ∈ zbw) (h : va_Nw w u) : va_Nw w U := by
  have hb := (List.mem_filter.mp hw).2
  cases w with
  | methodLinkNest => exact va_Nw.warmM hW h
  | fieldLinkNest => exact va_Nw.warmF hW h
  | arrayOver t =>
    cases t with
    | object C => exact va_AO.moved hW.alike h
    | _ => cases hb
  | _ => cases hb
theorem zbw_same {u U : State} (hv : u.vm = U.vm) {w : Cond} (hw : w ∈ zbw) (h : va_Nw w u) : va_Nw w U := by
  have hb := (List.mem_filter.mp hw).2
  cases w with
  | methodLinkNest => exact va_Nw.same rfl hv h
  | fieldLinkNest => exact va_Nw.same rfl hv h
  | arrayOver t =>
    cases t with
    | object C => exact va_AO.moved (by rw [hv]; exact Vm.Alike.refl _) h
    | _ => cases hb
  | _ => cases hb
theorem zSt.mv {ad ad' : Nat → Int → Nat} {A : Nat → Prop} {L : Nat} {xs : Nat → Int32} {u U : State} {H H1 : Heap} (h : zSt ad A L xs u H) (hvm : u.vm.Alike U.vm) (hq : ∀ q : Nat, q < H.size → ¬ A q → H1[q]? = H[q]?) (hz : H.size ≤ H1.size) (he : ∀ g : Nat, 108 ≤ g → ad' g 0 = ad g 0) : zSt ad' A L xs U H1 := by
  obtain ⟨⟨h1, h2⟩, ⟨h3, h4⟩, h5, h6, h7⟩ := h
  unfold zSt
  rw [he 108 (by omega), he 109 (by omega), he 110 (by omega)]
  exact ⟨⟨(h1.kept hq).moved hvm, (h2.kept hq).moved hvm⟩, ⟨(h3.kept hq).moved hvm, (h4.kept hq).moved hvm⟩, (h5.kept (hq _ h6 h7)).moved hvm, by omega, h7⟩
section ZSIM
variable {ph : Bool} {D : va_G} {dA : Nat → ClassId} {A : Nat → Prop} {L : Nat} {xs : Nat → Int32}
theorem zBU_of {p : Program} {R : Room} {s0 : State} {M : MethodId} {args : Array Value} {meth : Method} {c : Code} {mm : Nat} {ad ad' : Nat → Int → Nat} {s : zS} {H : Heap} {locs : List Loc} (C : zCt p R s0 M args meth c mm D dA A) (T : zSt ad A L xs s0 s0.heap) (X : zAt ph D dA A L xs s0.heap ad' s H locs) (he : ∀ g : Nat, 108 ≤ g → ad' g 0 = ad g 0) (U : State) (hU : U.heap = H) (hW : s0.WarmedH U.vm) : zBU ph D dA A L xs ad' s U := by
  obtain ⟨hx, hb, hml, hown, hts, hnm, hfr, hlo, hK, hNw, hA, hAO⟩ := C
  obtain ⟨x1, x2, x3, x4, x5⟩ := X
  refine ⟨by rw [hU]; exact x1, x2, x4, x5, va_K.moved hW.alike hK, fun w hw => zbw_mv hW hw (hNw w hw), by rw [hU]; exact T.mv hW.alike x3.2.1 x3.1 he, fun q hq => hA q (by rw [hU] at hq; exact Nat.le_trans x3.1 hq), hAO.moved hW.alike⟩
theorem zBU_blind {av : List Value} {ad : Nat → Int → Nat} {s : zS} : FrameBlind (va_Pc av (zBU ph D dA A L xs ad s)) := by
  intro a U g mk h
  obtain ⟨h0, h1, h2, h3, h4, h5, h6, h7, h8, h9⟩ := h
  exact ⟨h0, h1, h2, h3, h4, va_K.moved (u := U) (U := U.calling g mk a) (Vm.Alike.refl U.vm) h5, fun w hw => zbw_same (u := U) (U := U.calling g mk a) rfl hw (h6 w hw), h7.mv (u := U) (U := U.calling g mk a) (H := U.heap) (H1 := U.heap) (Vm.Alike.refl U.vm) (fun _ _ _ => rfl) (Nat.le_refl _) (fun _ _ => rfl), h8, zAO.moved (u := U) (U := U.calling g mk a) (Vm.Alike.refl U.vm) h9⟩
/-- what a method's end is -/
def zQc (ph : Bool) (D : va_G) (dA : Nat → ClassId) (A : Nat → Prop) (L : Nat) (xs : Nat → Int32) (ad : Nat → Int → Nat) (n : Nat) (v : Option zV) (s' : zS) : Array Value → State → Outcome → State → Prop := fun _ st oc t =>
  (∃ u : Nat → Int → Nat, oc = .returned (v.map (zcv u)) ∧ zext n ad u ∧ zBU ph D dA A L xs u s' t ∧ ∀ w ∈ v.toList, zov (zcnt s') w) ∧ va_F A st t
theorem z_callx {p : Program} {l : Launch} {e : Env} {R : Room} {s0 : State} {M : MethodId} {args : Array Value} {below : List Frame} {meth : Method} {c : Code} {H : Heap} {locs : List Loc} {cells slots mc ms pc n : Nat} {ls : Array Slot} {rest st0 : List Value} {a : Array Value} {Q : State → Prop} {ad : Nat → Int → Nat} {v : Option zV} {s' : zS}
    (hr : va_Run p l e R s0 M args below meth c H locs cells slots mc ms (F0 M pc ls st0) rest (zQc ph D dA A L xs ad n v s' a) A) (hS : va_S A s0.heap H locs)
    (kk : ∀ (u : Nat → Int → Nat) (t : State) (H1 : Heap) (locs1 : List Loc), t.heap = H1 → s0.vm.Alike t.vm → zext n ad u → zBU ph D dA A L xs u s' t → (∀ w ∈ v.toList, zov (zcnt s') w) → va_S A s0.heap H1 locs1 → W p l e R s0 M args below meth c H1 locs1 (cells + mc) (slots + ms) Q (F0 M (pc + 3) ls ((v.map (zcv u)).toList ++ rest))) : W p l e R s0 M args below meth c H locs cells slots Q (F0 M pc ls st0) := by
  intro T hT X
  obtain ⟨v1, st₀, t, T', L1, h0, X', hL, e1, e2, ⟨⟨u, hv, he, hb, hvo⟩, hz, hk⟩, st⟩ := hr T hT X
  cases hv
  rw [h0] at hz hk
  obtain ⟨t2, a1, b1⟩ := kk u t T'.heap (locs ++ L1) e1.symm (by rw [← e2]; exact X'.warmed.alike) he hb hvo
    ⟨Nat.le_trans hS.1 (by rw [e1]; exact hz), fun q h1 h2 => by rw [e1, hk q (Nat.lt_of_lt_of_le h1 hS.1) h2]; exact hS.2.1 q h1 h2, fun q hq => by
      rcases List.mem_append.mp hq with h | h
      · exact hS.2.2 q h
      · exact hL q h⟩ T' rfl X'
  exact ⟨t2, st t2 a1, b1⟩
theorem zret_f {m : Nat} {i : Instr} {st : List zV} {v : Option zV} (h : zret m i st = some v) : st = v.toList ∧ ((i = .ireturn ∧ ∃ x, v = some (.inl x) ∧ (zrk m = 0 ∨ (zrk m = 1 ∧ (x = 0 ∨ x = 1)))) ∨ (i = .lreturn ∧ zrk m = 2 ∧ ∃ x, v = some (.inr (.inl x))) ∨ (i = .areturn ∧ zrk m = 3 ∧ ∃ r, v = some (.inr (.inr (.inl r)))) ∨ (i = .return_ ∧ zrk m = 4 ∧ v = none)) := by
  unfold zret at h
  split at h
  · split at h
    · rename_i x
      by_cases k0 : zrk m = 0
      · rw [show Nat.beq (zrk m) 0 = true by rw [k0]; rfl, cond_true] at h
        cases h
        exact ⟨rfl, Or.inl ⟨rfl, x, rfl, Or.inl k0⟩⟩
      · rw [zbq k0, cond_false] at h
        obtain ⟨k1, h⟩ := zbif h
        obtain ⟨hx, h⟩ := zif h
        cases h
        exact ⟨rfl, Or.inl ⟨rfl, x, rfl, Or.inr ⟨zbt k1, hx⟩⟩⟩
    · cases h
  · split at h
    · obtain ⟨k1, h⟩ := zbif h
      cases h
      exact ⟨rfl, Or.inr (Or.inl ⟨rfl, zbt k1, _, rfl⟩)⟩
    · cases h
  · split at h
    · obtain ⟨k1, h⟩ := zbif h
      cases h
      exact ⟨rfl, Or.inr (Or.inr (Or.inl ⟨rfl, zbt k1, _, rfl⟩))⟩
    · cases h
  · split at h
    · obtain ⟨k1, h⟩ := zbif h
      cases h
      exact ⟨rfl, Or.inr (Or.inr (Or.inr ⟨rfl, zbt k1, rfl⟩))⟩
    · cases h
  · cases h
def zSim (l : Launch) (ph : Bool) (D : va_G) (dA : Nat → ClassId) (A : Nat → Prop) (L : Nat) (xs : Nat → Int32) (N : Nat) : Prop :=
  ∀ (mm pc : Nat) (al st : List zV) (s : zS) (v : Option zV) (s' : zS), zbs ph N mm pc al st s = some (v, s') →
  ∀ (p : Program) (e : Env) (R : Room) (s0 : State) (M : MethodId) (args : Array Value) (below : List Frame) (meth : Method) (c : Code) (Q : State → Prop) (n0 : Nat) (ad : Nat → Int → Nat) (H : Heap) (locs : List Loc) (ls : Array Slot),
  zCt p R s0 M args meth c mm D dA A → zSt ad A L xs s0 s0.heap → zAt ph D dA A L xs s0.heap ad s H locs → zLr ad ls (znl mm) al → (∀ v ∈ al, zov (zcnt s) v) → (∀ v ∈ st, zov (zcnt s) v) → n0 ≤ zcnt s → zcnt s' - n0 ≤ R.cells → zsl (zcnt s') - zsl n0 ≤ R.slots →
  (∀ (ad' : Nat → Int → Nat) (H' : Heap) (locs' : List Loc) (ls' : Array Slot) (pc' : Nat) (i : Instr), zext (zcnt s) ad ad' → zAt ph D dA A L xs s0.heap ad' s' H' locs' → decode (zb mm) pc' = .ok (i, 1) → zret mm i v.toList = some v → (∀ w ∈ v.toList, zov (zcnt s') w) → W p l e R s0 M args below meth c H' locs' (zcnt s' - n0) (zsl (zcnt s') - zsl n0) Q (F0 M pc' ls' (v.toList.map (zcv ad')))) →
  W p l e R s0 M args below meth c H locs (zcnt s - n0) (zsl (zcnt s) - zsl n0) Q (F0 M pc ls (st.map (zcv ad)))
/-- a method's contract, out of its run -/
theorem z_met {l : Launch} {N : Nat} (ih : zSim l ph D dA A L xs N) {m2 : Nat} (hm : m2 < zmids) {argsL : List zV} {s s1 : zS} {v1 : Option zV} {ad : Nat → Int → Nat} (hb : zbs ph N m2 0 (zpad (znl m2) argsL) [] s = some (v1, s1)) (hlen : (zxa argsL).length ≤ znl m2) (hok : ∀ v ∈ argsL, zov (zcnt s) v) :
    Met l (zy m2) (zWm m2) { frames := zfr m2, cells := zcnt s1 - zcnt s, slots := zsl (zcnt s1) - zsl (zcnt s), locals := zlo m2 } (va_Pc (argsL.map (zcv ad)) (zBU ph D dA A L xs ad s)) (zQc ph D dA A L xs ad (zcnt s) v1 s1) (zcnt s1 - zcnt s) (zsl (zcnt s1) - zsl (zcnt s)) A := by
  have hz : zmids = 188 := rfl
  refine Met.ofW (cc := zb m2) (maxL := znl m2) (ret := zrt m2) (zm_n m2 (by omega)).1 rfl ?_
  intro p e s0 M args below meth c s₁ B hml hv
  obtain ⟨rfl, b1, b2, b3, b4, b5, b6, b7, b8, b9⟩ := hv
  have hx := B.exec
  have hby := B.bytes
  have hr := B.returns
  have hlocks := B.notSynchronized
  have hts0 := atoms_spec (ws := zWm m2) B.pre
  have hown : s0.vm.findClass (zy m2).cls = some M.cls := findClass_of_methodNamed B.named
  have hnm : meth.name = (zy m2).name := (name_of_methodNamed B.named B.method).1
  have C : zCt p (headSpec (zWm m2) { frames := zfr m2, cells := zcnt s1 - zcnt s, slots := zsl (zcnt s1) - zsl (zcnt s), locals := zlo m2 }).room s0 M (argsL.map (zcv ad)).toArray meth c m2 D dA A :=
    ⟨hx, hby, hml, by rw [← (zm_n m2 (by omega)).2.2.1]; exact hown, fun w hw => hts0 w (List.mem_cons_of_mem _ hw), fun _ => hnm, Nat.le_refl _, Nat.le_refl _, b5, b6, b8, b9⟩
  rw [lg_entry_eq]
  have key := ih m2 0 (zpad (znl m2) argsL) [] s v1 s1 hb p e (headSpec (zWm m2) { frames := zfr m2, cells := zcnt s1 - zcnt s, slots := zsl (zcnt s1) - zsl (zcnt s), locals := zlo m2 }).room s0 M (argsL.map (zcv ad)).toArray below meth c (MQ below (zQc ph D dA A L xs ad (zcnt s) v1 s1) (argsL.map (zcv ad)).toArray s0 (zcnt s1 - zcnt s) (zsl (zcnt s1) - zsl (zcnt s)) A) (zcnt s) ad s0.heap [] _ C b7 ⟨b1, b2, va_S.rf, b3, b4⟩ (zLr_entry hlen) (zpad_ok hok) (fun v hv => by cases hv) (Nat.le_refl _) (Nat.le_refl _) (Nat.le_refl _) ?_
  · rw [Nat.sub_self, Nat.sub_self] at key
    exact key
  · intro ad' H' locs' ls' pc' i he X hd hret hvo
    have hq : ∀ t : State, t.heap = H' → s0.WarmedH t.vm → zQc ph D dA A L xs ad (zcnt s) v1 s1 (argsL.map (zcv ad)).toArray s0 (.returned (v1.map (zcv ad'))) t := fun t ht hW => ⟨⟨ad', rfl, he, zBU_of C b7 X he.2 t ht hW, hvo⟩, X.2.2.1.F ht⟩
    obtain ⟨-, hk⟩ := zret_f hret
    have hzf := zrk_f m2 hm
    rcases hk with ⟨rfl, x, rfl, hk⟩ | ⟨rfl, hk, x, rfl⟩ | ⟨rfl, hk, r, rfl⟩ | ⟨rfl, hk, rfl⟩
    · rcases hk with hk | ⟨hk, hx1⟩
      · exact W.iret (v := Int32.ofInt x) hx hby (by rw [hr, hzf.1 hk]) hq X.2.2.1.2.2 hd
      · exact W.zret (v := Int32.ofInt x) (ty := .boolean) hx hby (by rw [hr, hzf.2.1 hk]) (znb hx1).1 hq X.2.2.1.2.2 hd
    · exact W.lret (v := Int64.ofInt x) hx hby (by rw [hr, hzf.2.2.1 hk]) hq X.2.2.1.2.2 hd
    · have hz3 := hzf.2.2.2.2 hk
      cases hrt : zrt m2 with
      | none => rw [hrt] at hz3; cases hz3
      | some t =>
        rw [hrt] at hz3
        cases t with
        | object n => exact W.aret (v := .ref (ad' r.1 r.2)) (rt := .object n) hx hby (by rw [hr, hrt]) (Or.inl ⟨n, rfl⟩) (Or.inr ⟨_, rfl⟩) hq X.2.2.1.2.2 hd
        | array t => exact W.aret (v := .ref (ad' r.1 r.2)) (rt := .array t) hx hby (by rw [hr, hrt]) (Or.inr ⟨t, rfl⟩) (Or.inr ⟨_, rfl⟩) hq X.2.2.1.2.2 hd
        | _ => cases hz3
    · exact W.vret hx hby (by rw [hr, hzf.2.2.2.1 hk]) hq X.2.2.1.2.2 hd
end ZSIM

theorem zbif {α : Type} {c : Bool} {x : Option α} {y : α} (h : (bif c then x else none) = some y) : c = true ∧ x = some y := by
  cases c with
  | false => cases h
  | true => exact ⟨rfl, h⟩
theorem zif {α : Type} {c : Prop} [Decidable c] {x : Option α} {y : α} (h : (if c then x else none) = some y) : c ∧ x = some y := by
  by_cases hc : c
  · rw [if_pos hc] at h; exact ⟨hc, h⟩
  · rw [if_neg hc] at h; cases h
theorem zifn {α : Type} {c : Prop} [Decidable c] {x : Option α} {y : α} (h : (if c then none else x) = some y) : ¬ c ∧ x = some y := by
  by_cases hc : c
  · rw [if_pos hc] at h; cases h
  · rw [if_neg hc] at h; exact ⟨hc, h⟩
theorem zbt {a b : Nat} (h : Nat.beq a b = true) : a = b := Nat.eq_of_beq_eq_true h
theorem zlt' {a b : Nat} (h : Nat.ble a b = true) : a ≤ b := Nat.le_of_ble_eq_true h
def zAO (U : State) : Prop := (Cond.arrayOver (.array .long)).before #[] U = true
theorem zAO.moved {u U : State} (hvm : u.vm.Alike U.vm) (h : zAO u) : zAO U := Jvm.Stand.arrayOver_alikeB hvm h
def zCt (p : Program) (R : Room) (s0 : State) (M : MethodId) (args : Array Value) (meth : Method) (c : Code) (mm : Nat) (D : va_G) (dA : Nat → ClassId) (A : Nat → Prop) : Prop :=
  p.tables.exec = Jvm.exec ∧ c.code = zb mm ∧ c.maxLocals = znl mm ∧ s0.vm.findClass (zcl (zcn mm)) = some M.cls ∧ (∀ w ∈ zgw, w.before args s0 = true) ∧ (zkd mm = 2 → meth.name = (zy mm).name) ∧ zfr mm ≤ R.frames ∧ zlo mm ≤ R.locals ∧ va_K D vwCl (ztys dA) s0 ∧ (∀ w ∈ zbw, va_Nw w s0) ∧ (∀ q, s0.heap.size ≤ q → A q) ∧ zAO s0
def zSt (ad : Nat → Int → Nat) (A : Nat → Prop) (L : Nat) (xs : Nat → Int32) (U : State) (H : Heap) : Prop :=
  (va_Z "SnowSchool" "PUPIL_KINDS" "[I" (.ref (ad 108 0)) A U H ∧ va_T .int (ad 108 0) 4 (fun j => .int (Int32.ofInt (z108 j))) A U H) ∧ (va_Z "SnowSchool" "TEACHER_KINDS" "[I" (.ref (ad 109 0)) A U H ∧ va_T .int (ad 109 0) 4 (fun j => .int (Int32.ofInt (z109 j))) A U H) ∧ va_X (ad 110 0) L xs U H ∧ ad 110 0 < H.size ∧ ¬ A (ad 110 0)
def zAt (ph : Bool) (D : va_G) (dA : Nat → ClassId) (A : Nat → Prop) (L : Nat) (xs : Nat → Int32) (H0 : Heap) (ad : Nat → Int → Nat) (s : zS) (H : Heap) (locs : List Loc) : Prop :=
  va_P D vwCl (zws ph dA ad s) H ∧ va_D A (zws ph dA ad s) ∧ va_S A H0 H locs ∧ zoks ph s ∧ zsta L xs s
abbrev zKt (p : Program) (l : Launch) (e : Env) (R : Room) (s0 : State) (M : MethodId) (args : Array Value) (below : List Frame) (meth : Method) (c : Code) (Q : State → Prop) (ph : Bool) (D : va_G) (dA : Nat → ClassId) (A : Nat → Prop) (L : Nat) (xs : Nat → Int32) (mm n0 : Nat) (s : zS) (ad : Nat → Int → Nat) (pc' : Nat) (al' st' : List zV) (s' : zS) : Prop :=
  ∀ (ad' : Nat → Int → Nat) (H' : Heap) (locs' : List Loc) (ls' : Array Slot), zext (zcnt s) ad ad' → zAt ph D dA A L xs s0.heap ad' s' H' locs' → zLr ad' ls' (znl mm) al' → (∀ v ∈ al', zov (zcnt s') v) → (∀ v ∈ st', zov (zcnt s') v) → W p l e R s0 M args below meth c H' locs' (zcnt s' - n0) (zsl (zcnt s') - zsl n0) Q (F0 M pc' ls' (st'.map (zcv ad')))
theorem z_live {n : Nat} {r : Nat × Int} (h : zov n (.inr (.inr (.inl r)))) (hg : r.1 ≤ 107) : ∃ q, q < n ∧ q < zN ∧ znm q = r := by
  rcases h with h | h | h | h
  · exact h
  · subst h; omega
  · subst h; omega
  · subst h; omega
theorem zws_obj {ph : Bool} {dA : Nat → ClassId} {ad : Nat → Int → Nat} {s : zS} {q : Nat} {r : Nat × Int} (hq : q < zcnt s) (hr : znm q = r) (hg : r.1 ≤ 12) : (zws ph dA ad s)[q]? = some (ad r.1 r.2, .inr (tg r.1, (List.range (lg r.1)).map (zfv ph ad (s r.1 r.2) r))) := by
  rw [zws_at hq]
  unfold zwk zcell
  rw [hr, zbl hg]
  rfl
theorem zws_arr {ph : Bool} {dA : Nat → ClassId} {ad : Nat → Int → Nat} {s : zS} {q : Nat} {r : Nat × Int} (hq : q < zcnt s) (hr : znm q = r) (hg : 12 < r.1) : (zws ph dA ad s)[q]? = some (ad r.1 r.2, .inl (dA (tg r.1), lg r.1, zar ph ad (s r.1 r.2) r)) := by
  rw [zws_at hq]
  unfold zwk zcell
  rw [hr, zbln hg]
  rfl
theorem zar_i {ph : Bool} {ad : Nat → Int → Nat} {f : Int → Int} {r : Nat × Int} (h : zak r.1 ≤ 1) : zar ph ad f r = .inl (fun j => Int32.ofInt (f j)) := by
  unfold zar
  rw [zbl h]
  rfl
theorem zar_l {ph : Bool} {ad : Nat → Int → Nat} {f : Int → Int} {r : Nat × Int} (h : zak r.1 = 2) : zar ph ad f r = .inr (.inl (fun j => Int64.ofInt (f j))) := by
  unfold zar
  rw [h]
  rfl
theorem zar_q {ph : Bool} {ad : Nat → Int → Nat} {f : Int → Int} {r : Nat × Int} (h : zak r.1 = 3) : zar ph ad f r = .inr (.inr (.inr (.inr (fun j => bif (ph || decide (f j = 1)) && Nat.ble (j + 1) (lg r.1) then some (ad (zra r.1) j) else none)))) := by
  unfold zar
  rw [h]
  rfl
/-- an array's name: not an object's -/
theorem zarr_g {r : Nat × Int} {q : Nat} (hq : q < zN) (hr : znm q = r) (h : zak r.1 ≤ 3) : 12 < r.1 := by
  subst hr
  apply Nat.lt_of_not_le
  intro hg
  have key : ∀ g, g < 13 → zak g = 9 := by decide +kernel
  rw [key _ (by omega)] at h
  omega
theorem zarr_f {r : Nat × Int} {q : Nat} (hq : q < zN) (hr : znm q = r) (hg : 12 < r.1) : zak r.1 < 4 ∧ tg r.1 ∈ zarr ∧ zat (tg r.1) = (if zak r.1 = 0 then .int else if zak r.1 = 1 then .boolean else if zak r.1 = 2 then .long else if r.1 = 43 then .array .long else .object (zcl (tg r.1 - 30))) ∧ lg r.1 < 10000 := by
  subst hr
  obtain ⟨h1, h2, h3⟩ := zarr_ok q hq hg
  exact ⟨h1, h2, h3, zlg_small q hq⟩
theorem zln_g {s : zS} {g : Nat} (h : g ≤ 107) : zln s g = (lg g : Int) := by
  unfold zln
  rw [zbq (show g ≠ 110 by omega), zbln (show g < 108 by omega)]
  rfl
section ZS
variable {p : Program} {l : Launch} {e : Env} {R : Room} {s0 : State} {M : MethodId} {args : Array Value} {below : List Frame} {meth : Method} {c : Code} {Q : State → Prop}
variable {ph : Bool} {D : va_G} {dA : Nat → ClassId} {A : Nat → Prop} {L : Nat} {xs : Nat → Int32} {mm n0 pc pc' len bb : Nat} {a : Int} {i : Instr} {ad : Nat → Int → Nat} {s s' : zS} {H : Heap} {locs : List Loc} {ls : Array Slot} {al al' st st' : List zV}
theorem zs_iload_n {k : Fin 4} (C : zCt p R s0 M args meth c mm D dA A) (T : zSt ad A L xs s0 s0.heap) (X : zAt ph D dA A L xs s0.heap ad s H locs) (hl : zLr ad ls (znl mm) al) (ho : ∀ v ∈ al, zov (zcnt s) v) (hs : ∀ v ∈ st, zov (zcnt s) v) (hz : zi mm pc = some (.iload_n k, len, a, bb)) (ha : zact ph mm pc al st s (.iload_n k) a bb = some (pc', al', st', s')) (hn : n0 ≤ zcnt s) (hRc : zcnt s' - n0 ≤ R.cells) (hRs : zsl (zcnt s') - zsl n0 ≤ R.slots)
    (kk : zKt p l e R s0 M args below meth c Q ph D dA A L xs mm n0 s ad pc' al' st' s') : W p l e R s0 M args below meth c H locs (zcnt s - n0) (zsl (zcnt s) - zsl n0) Q (F0 M pc ls (st.map (zcv ad))) := by
  obtain ⟨hx, hb, hml, hown, hts, hnm, hfr, hlo, hK, hNw, hA, hAO⟩ := C
  have hd := z_dec hz
  have e2 := z_ec2 hz
  obtain rfl : len = 1 := z_len hz (by intros; intro z; cases z)
  dsimp only [zact] at ha
  cases hv : zld al k.val with
  | inl y => rw [hv] at ha; cases ha; exact lv_iload_n hx hb hd rfl (hl.get hv (by intro z; cases z)) (kk ad H locs ls zext.rf X hl ho (List.forall_mem_cons.mpr ⟨(by
      have hm : zI y ∈ al := by
        have : al.getD k.val zU = zI y := hv
        rw [List.getD_eq_getElem?_getD] at this
        cases hq : al[k.val]? with
        | none => rw [hq] at this; cases this
        | some w => rw [hq] at this; cases this; exact List.mem_of_getElem? hq
      exact ho _ hm), hs⟩))
  | inr y => rw [hv] at ha; cases ha
theorem zs_iload {k : Nat} (C : zCt p R s0 M args meth c mm D dA A) (T : zSt ad A L xs s0 s0.heap) (X : zAt ph D dA A L xs s0.heap ad s H locs) (hl : zLr ad ls (znl mm) al) (ho : ∀ v ∈ al, zov (zcnt s) v) (hs : ∀ v ∈ st, zov (zcnt s) v) (hz : zi mm pc = some (.iload k, len, a, bb)) (ha : zact ph mm pc al st s (.iload k) a bb = some (pc', al', st', s')) (hn : n0 ≤ zcnt s) (hRc : zcnt s' - n0 ≤ R.cells) (hRs : zsl (zcnt s') - zsl n0 ≤ R.slots)
    (kk : zKt p l e R s0 M args below meth c Q ph D dA A L xs mm n0 s ad pc' al' st' s') : W p l e R s0 M args below meth c H locs (zcnt s - n0) (zsl (zcnt s) - zsl n0) Q (F0 M pc ls (st.map (zcv ad))) := by
  obtain ⟨hx, hb, hml, hown, hts, hnm, hfr, hlo, hK, hNw, hA, hAO⟩ := C
  have hd := z_dec hz
  have e2 := z_ec2 hz
  obtain rfl : len = 2 := z_len hz (by intros; intro z; cases z)
  dsimp only [zact] at ha
  cases hv : zld al k with
  | inl y => rw [hv] at ha; cases ha; exact lv_iload hx hb hd  (hl.get hv (by intro z; cases z)) (kk ad H locs ls zext.rf X hl ho (List.forall_mem_cons.mpr ⟨(by
      have hm : zI y ∈ al := by
        have : al.getD k zU = zI y := hv
        rw [List.getD_eq_getElem?_getD] at this
        cases hq : al[k]? with
        | none => rw [hq] at this; cases this
        | some w => rw [hq] at this; cases this; exact List.mem_of_getElem? hq
      exact ho _ hm), hs⟩))
  | inr y => rw [hv] at ha; cases ha
theorem zs_lload_n {k : Fin 4} (C : zCt p R s0 M args meth c mm D dA A) (T : zSt ad A L xs s0 s0.heap) (X : zAt ph D dA A L xs s0.heap ad s H locs) (hl : zLr ad ls (znl mm) al) (ho : ∀ v ∈ al, zov (zcnt s) v) (hs : ∀ v ∈ st, zov (zcnt s) v) (hz : zi mm pc = some (.lload_n k, len, a, bb)) (ha : zact ph mm pc al st s (.lload_n k) a bb = some (pc', al', st', s')) (hn : n0 ≤ zcnt s) (hRc : zcnt s' - n0 ≤ R.cells) (hRs : zsl (zcnt s') - zsl n0 ≤ R.slots)
    (kk : zKt p l e R s0 M args below meth c Q ph D dA A L xs mm n0 s ad pc' al' st' s') : W p l e R s0 M args below meth c H locs (zcnt s - n0) (zsl (zcnt s) - zsl n0) Q (F0 M pc ls (st.map (zcv ad))) := by
  obtain ⟨hx, hb, hml, hown, hts, hnm, hfr, hlo, hK, hNw, hA, hAO⟩ := C
  have hd := z_dec hz
  have e2 := z_ec2 hz
  obtain rfl : len = 1 := z_len hz (by intros; intro z; cases z)
  dsimp only [zact] at ha
  cases hv : zld al k.val with
  | inl y => rw [hv] at ha; cases ha
  | inr y => 
    rcases y with y | y
    · rw [hv] at ha; cases ha
      exact lv_lload_n hx hb hd rfl (hl.get hv (by intro z; cases z)) (kk ad H locs ls zext.rf X hl ho (List.forall_mem_cons.mpr ⟨(by
      have hm : zL y ∈ al := by
        have : al.getD k.val zU = zL y := hv
        rw [List.getD_eq_getElem?_getD] at this
        cases hq : al[k.val]? with
        | none => rw [hq] at this; cases this
        | some w => rw [hq] at this; cases this; exact List.mem_of_getElem? hq
      exact ho _ hm), hs⟩))
    · rw [hv] at ha; cases ha
theorem zs_lload {k : Nat} (C : zCt p R s0 M args meth c mm D dA A) (T : zSt ad A L xs s0 s0.heap) (X : zAt ph D dA A L xs s0.heap ad s H locs) (hl : zLr ad ls (znl mm) al) (ho : ∀ v ∈ al, zov (zcnt s) v) (hs : ∀ v ∈ st, zov (zcnt s) v) (hz : zi mm pc = some (.lload k, len, a, bb)) (ha : zact ph mm pc al st s (.lload k) a bb = some (pc', al', st', s')) (hn : n0 ≤ zcnt s) (hRc : zcnt s' - n0 ≤ R.cells) (hRs : zsl (zcnt s') - zsl n0 ≤ R.slots)
    (kk : zKt p l e R s0 M args below meth c Q ph D dA A L xs mm n0 s ad pc' al' st' s') : W p l e R s0 M args below meth c H locs (zcnt s - n0) (zsl (zcnt s) - zsl n0) Q (F0 M pc ls (st.map (zcv ad))) := by
  obtain ⟨hx, hb, hml, hown, hts, hnm, hfr, hlo, hK, hNw, hA, hAO⟩ := C
  have hd := z_dec hz
  have e2 := z_ec2 hz
  obtain rfl : len = 2 := z_len hz (by intros; intro z; cases z)
  dsimp only [zact] at ha
  cases hv : zld al k with
  | inl y => rw [hv] at ha; cases ha
  | inr y => 
    rcases y with y | y
    · rw [hv] at ha; cases ha
      exact lv_lload hx hb hd  (hl.get hv (by intro z; cases z)) (kk ad H locs ls zext.rf X hl ho (List.forall_mem_cons.mpr ⟨(by
      have hm : zL y ∈ al := by
        have : al.getD k zU = zL y := hv
        rw [List.getD_eq_getElem?_getD] at this
        cases hq : al[k]? with
        | none => rw [hq] at this; cases this
        | some w => rw [hq] at this; cases this; exact List.mem_of_getElem? hq
      exact ho _ hm), hs⟩))
    · rw [hv] at ha; cases ha
theorem zs_aload_n {k : Fin 4} (C : zCt p R s0 M args meth c mm D dA A) (T : zSt ad A L xs s0 s0.heap) (X : zAt ph D dA A L xs s0.heap ad s H locs) (hl : zLr ad ls (znl mm) al) (ho : ∀ v ∈ al, zov (zcnt s) v) (hs : ∀ v ∈ st, zov (zcnt s) v) (hz : zi mm pc = some (.aload_n k, len, a, bb)) (ha : zact ph mm pc al st s (.aload_n k) a bb = some (pc', al', st', s')) (hn : n0 ≤ zcnt s) (hRc : zcnt s' - n0 ≤ R.cells) (hRs : zsl (zcnt s') - zsl n0 ≤ R.slots)
    (kk : zKt p l e R s0 M args below meth c Q ph D dA A L xs mm n0 s ad pc' al' st' s') : W p l e R s0 M args below meth c H locs (zcnt s - n0) (zsl (zcnt s) - zsl n0) Q (F0 M pc ls (st.map (zcv ad))) := by
  obtain ⟨hx, hb, hml, hown, hts, hnm, hfr, hlo, hK, hNw, hA, hAO⟩ := C
  have hd := z_dec hz
  have e2 := z_ec2 hz
  obtain rfl : len = 1 := z_len hz (by intros; intro z; cases z)
  dsimp only [zact] at ha
  cases hv : zld al k.val with
  | inl y => rw [hv] at ha; cases ha
  | inr y => 
    rcases y with y | y | y
    · rw [hv] at ha; cases ha
    · rw [hv] at ha; cases ha
      exact lv_aload_n hx hb hd rfl (hl.get hv (by intro z; cases z)) (kk ad H locs ls zext.rf X hl ho (List.forall_mem_cons.mpr ⟨(by
      have hm : zR y.1 y.2 ∈ al := by
        have : al.getD k.val zU = zR y.1 y.2 := hv
        rw [List.getD_eq_getElem?_getD] at this
        cases hq : al[k.val]? with
        | none => rw [hq] at this; cases this
        | some w => rw [hq] at this; cases this; exact List.mem_of_getElem? hq
      exact ho _ hm), hs⟩))
    · rw [hv] at ha; cases ha
theorem zs_aload {k : Nat} (C : zCt p R s0 M args meth c mm D dA A) (T : zSt ad A L xs s0 s0.heap) (X : zAt ph D dA A L xs s0.heap ad s H locs) (hl : zLr ad ls (znl mm) al) (ho : ∀ v ∈ al, zov (zcnt s) v) (hs : ∀ v ∈ st, zov (zcnt s) v) (hz : zi mm pc = some (.aload k, len, a, bb)) (ha : zact ph mm pc al st s (.aload k) a bb = some (pc', al', st', s')) (hn : n0 ≤ zcnt s) (hRc : zcnt s' - n0 ≤ R.cells) (hRs : zsl (zcnt s') - zsl n0 ≤ R.slots)
    (kk : zKt p l e R s0 M args below meth c Q ph D dA A L xs mm n0 s ad pc' al' st' s') : W p l e R s0 M args below meth c H locs (zcnt s - n0) (zsl (zcnt s) - zsl n0) Q (F0 M pc ls (st.map (zcv ad))) := by
  obtain ⟨hx, hb, hml, hown, hts, hnm, hfr, hlo, hK, hNw, hA, hAO⟩ := C
  have hd := z_dec hz
  have e2 := z_ec2 hz
  obtain rfl : len = 2 := z_len hz (by intros; intro z; cases z)
  dsimp only [zact] at ha
  cases hv : zld al k with
  | inl y => rw [hv] at ha; cases ha
  | inr y => 
    rcases y with y | y | y
    · rw [hv] at ha; cases ha
    · rw [hv] at ha; cases ha
      exact lv_aload hx hb hd  (hl.get hv (by intro z; cases z)) (kk ad H locs ls zext.rf X hl ho (List.forall_mem_cons.mpr ⟨(by
      have hm : zR y.1 y.2 ∈ al := by
        have : al.getD k zU = zR y.1 y.2 := hv
        rw [List.getD_eq_getElem?_getD] at this
        cases hq : al[k]? with
        | none => rw [hq] at this; cases this
        | some w => rw [hq] at this; cases this; exact List.mem_of_getElem? hq
      exact ho _ hm), hs⟩))
    · rw [hv] at ha; cases ha
theorem zs_istore_n {k : Fin 4} (C : zCt p R s0 M args meth c mm D dA A) (T : zSt ad A L xs s0 s0.heap) (X : zAt ph D dA A L xs s0.heap ad s H locs) (hl : zLr ad ls (znl mm) al) (ho : ∀ v ∈ al, zov (zcnt s) v) (hs : ∀ v ∈ st, zov (zcnt s) v) (hz : zi mm pc = some (.istore_n k, len, a, bb)) (ha : zact ph mm pc al st s (.istore_n k) a bb = some (pc', al', st', s')) (hn : n0 ≤ zcnt s) (hRc : zcnt s' - n0 ≤ R.cells) (hRs : zsl (zcnt s') - zsl n0 ≤ R.slots)
    (kk : zKt p l e R s0 M args below meth c Q ph D dA A L xs mm n0 s ad pc' al' st' s') : W p l e R s0 M args below meth c H locs (zcnt s - n0) (zsl (zcnt s) - zsl n0) Q (F0 M pc ls (st.map (zcv ad))) := by
  obtain ⟨hx, hb, hml, hown, hts, hnm, hfr, hlo, hK, hNw, hA, hAO⟩ := C
  have hd := z_dec hz
  have e2 := z_ec2 hz
  obtain rfl : len = 1 := z_len hz (by intros; intro z; cases z)
  dsimp only [zact] at ha
  split at ha
  · rename_i x t
    obtain ⟨hk, ha⟩ := zbif ha
    cases ha
    have hk := zlt' hk
    have h1 := hs _ List.mem_cons_self
    have h2 := (List.forall_mem_cons.mp hs).2
    exact lv_istore_n hx hb hd rfl hl.has (by rw [← hl.2.2.1]; omega) rfl (fun ls' h' => kk ad H locs ls' zext.rf X (hl.put (v := zI x) (by omega) h') (zst_ok ho h1) h2)
  · cases ha
theorem zs_istore {k : Nat} (C : zCt p R s0 M args meth c mm D dA A) (T : zSt ad A L xs s0 s0.heap) (X : zAt ph D dA A L xs s0.heap ad s H locs) (hl : zLr ad ls (znl mm) al) (ho : ∀ v ∈ al, zov (zcnt s) v) (hs : ∀ v ∈ st, zov (zcnt s) v) (hz : zi mm pc = some (.istore k, len, a, bb)) (ha : zact ph mm pc al st s (.istore k) a bb = some (pc', al', st', s')) (hn : n0 ≤ zcnt s) (hRc : zcnt s' - n0 ≤ R.cells) (hRs : zsl (zcnt s') - zsl n0 ≤ R.slots)
    (kk : zKt p l e R s0 M args below meth c Q ph D dA A L xs mm n0 s ad pc' al' st' s') : W p l e R s0 M args below meth c H locs (zcnt s - n0) (zsl (zcnt s) - zsl n0) Q (F0 M pc ls (st.map (zcv ad))) := by
  obtain ⟨hx, hb, hml, hown, hts, hnm, hfr, hlo, hK, hNw, hA, hAO⟩ := C
  have hd := z_dec hz
  have e2 := z_ec2 hz
  obtain rfl : len = 2 := z_len hz (by intros; intro z; cases z)
  dsimp only [zact] at ha
  split at ha
  · rename_i x t
    obtain ⟨hk, ha⟩ := zbif ha
    cases ha
    have hk := zlt' hk
    have h1 := hs _ List.mem_cons_self
    have h2 := (List.forall_mem_cons.mp hs).2
    exact lv_istore hx hb hd hl.has (by rw [← hl.2.2.1]; omega) rfl (fun ls' h' => kk ad H locs ls' zext.rf X (hl.put (v := zI x) (by omega) h') (zst_ok ho h1) h2)
  · cases ha
theorem zs_astore_n {k : Fin 4} (C : zCt p R s0 M args meth c mm D dA A) (T : zSt ad A L xs s0 s0.heap) (X : zAt ph D dA A L xs s0.heap ad s H locs) (hl : zLr ad ls (znl mm) al) (ho : ∀ v ∈ al, zov (zcnt s) v) (hs : ∀ v ∈ st, zov (zcnt s) v) (hz : zi mm pc = some (.astore_n k, len, a, bb)) (ha : zact ph mm pc al st s (.astore_n k) a bb = some (pc', al', st', s')) (hn : n0 ≤ zcnt s) (hRc : zcnt s' - n0 ≤ R.cells) (hRs : zsl (zcnt s') - zsl n0 ≤ R.slots)
    (kk : zKt p l e R s0 M args below meth c Q ph D dA A L xs mm n0 s ad pc' al' st' s') : W p l e R s0 M args below meth c H locs (zcnt s - n0) (zsl (zcnt s) - zsl n0) Q (F0 M pc ls (st.map (zcv ad))) := by
  obtain ⟨hx, hb, hml, hown, hts, hnm, hfr, hlo, hK, hNw, hA, hAO⟩ := C
  have hd := z_dec hz
  have e2 := z_ec2 hz
  obtain rfl : len = 1 := z_len hz (by intros; intro z; cases z)
  dsimp only [zact] at ha
  split at ha
  · rename_i x t
    obtain ⟨hk, ha⟩ := zbif ha
    cases ha
    have hk := zlt' hk
    have h1 := hs _ List.mem_cons_self
    have h2 := (List.forall_mem_cons.mp hs).2
    exact lv_astore_n hx hb hd rfl hl.has (by rw [← hl.2.2.1]; omega) rfl (fun ls' h' => kk ad H locs ls' zext.rf X (hl.put (v := zR x.1 x.2) (by omega) h') (zst_ok ho h1) h2)
  · cases ha
theorem zs_astore {k : Nat} (C : zCt p R s0 M args meth c mm D dA A) (T : zSt ad A L xs s0 s0.heap) (X : zAt ph D dA A L xs s0.heap ad s H locs) (hl : zLr ad ls (znl mm) al) (ho : ∀ v ∈ al, zov (zcnt s) v) (hs : ∀ v ∈ st, zov (zcnt s) v) (hz : zi mm pc = some (.astore k, len, a, bb)) (ha : zact ph mm pc al st s (.astore k) a bb = some (pc', al', st', s')) (hn : n0 ≤ zcnt s) (hRc : zcnt s' - n0 ≤ R.cells) (hRs : zsl (zcnt s') - zsl n0 ≤ R.slots)
    (kk : zKt p l e R s0 M args below meth c Q ph D dA A L xs mm n0 s ad pc' al' st' s') : W p l e R s0 M args below meth c H locs (zcnt s - n0) (zsl (zcnt s) - zsl n0) Q (F0 M pc ls (st.map (zcv ad))) := by
  obtain ⟨hx, hb, hml, hown, hts, hnm, hfr, hlo, hK, hNw, hA, hAO⟩ := C
  have hd := z_dec hz
  have e2 := z_ec2 hz
  obtain rfl : len = 2 := z_len hz (by intros; intro z; cases z)
  dsimp only [zact] at ha
  split at ha
  · rename_i x t
    obtain ⟨hk, ha⟩ := zbif ha
    cases ha
    have hk := zlt' hk
    have h1 := hs _ List.mem_cons_self
    have h2 := (List.forall_mem_cons.mp hs).2
    exact lv_astore hx hb hd hl.has (by rw [← hl.2.2.1]; omega) rfl (fun ls' h' => kk ad H locs ls' zext.rf X (hl.put (v := zR x.1 x.2) (by omega) h') (zst_ok ho h1) h2)
  · cases ha
theorem zs_lstore {k : Nat} (C : zCt p R s0 M args meth c mm D dA A) (T : zSt ad A L xs s0 s0.heap) (X : zAt ph D dA A L xs s0.heap ad s H locs) (hl : zLr ad ls (znl mm) al) (ho : ∀ v ∈ al, zov (zcnt s) v) (hs : ∀ v ∈ st, zov (zcnt s) v) (hz : zi mm pc = some (.lstore k, len, a, bb)) (ha : zact ph mm pc al st s (.lstore k) a bb = some (pc', al', st', s')) (hn : n0 ≤ zcnt s) (hRc : zcnt s' - n0 ≤ R.cells) (hRs : zsl (zcnt s') - zsl n0 ≤ R.slots)
    (kk : zKt p l e R s0 M args below meth c Q ph D dA A L xs mm n0 s ad pc' al' st' s') : W p l e R s0 M args below meth c H locs (zcnt s - n0) (zsl (zcnt s) - zsl n0) Q (F0 M pc ls (st.map (zcv ad))) := by
  obtain ⟨hx, hb, hml, hown, hts, hnm, hfr, hlo, hK, hNw, hA, hAO⟩ := C
  have hd := z_dec hz
  have e2 := z_ec2 hz
  obtain rfl : len = 2 := z_len hz (by intros; intro z; cases z)
  dsimp only [zact] at ha
  split at ha
  · rename_i x t
    obtain ⟨hk, ha⟩ := zbif ha
    cases ha
    have hk := zlt' hk
    have h1 := hs _ List.mem_cons_self
    have h2 := (List.forall_mem_cons.mp hs).2
    exact lv_lstore hx hb hd hl.has (by rw [← hl.2.2.1]; omega) rfl (fun ls' h' => kk ad H locs ls' zext.rf X (hl.put2 (v := zL x) (by omega) h') (fun v hv => by
      rcases List.mem_or_eq_of_mem_set hv with hv | hv
      · exact zst_ok ho h1 v hv
      · subst hv; exact trivial) h2)
  · cases ha
theorem zs_iinc {k : Nat} {n : Int} (C : zCt p R s0 M args meth c mm D dA A) (T : zSt ad A L xs s0 s0.heap) (X : zAt ph D dA A L xs s0.heap ad s H locs) (hl : zLr ad ls (znl mm) al) (ho : ∀ v ∈ al, zov (zcnt s) v) (hs : ∀ v ∈ st, zov (zcnt s) v) (hz : zi mm pc = some (.iinc k n, len, a, bb)) (ha : zact ph mm pc al st s (.iinc k n) a bb = some (pc', al', st', s')) (hn : n0 ≤ zcnt s) (hRc : zcnt s' - n0 ≤ R.cells) (hRs : zsl (zcnt s') - zsl n0 ≤ R.slots)
    (kk : zKt p l e R s0 M args below meth c Q ph D dA A L xs mm n0 s ad pc' al' st' s') : W p l e R s0 M args below meth c H locs (zcnt s - n0) (zsl (zcnt s) - zsl n0) Q (F0 M pc ls (st.map (zcv ad))) := by
  obtain ⟨hx, hb, hml, hown, hts, hnm, hfr, hlo, hK, hNw, hA, hAO⟩ := C
  have hd := z_dec hz
  have e2 := z_ec2 hz
  obtain rfl : len = 3 := z_len hz (by intros; intro z; cases z)
  dsimp only [zact] at ha
  split at ha
  · rename_i x hv
    obtain ⟨hk, ha⟩ := zbif ha
    cases ha
    have hk := zlt' hk
    have hm : al[k]? = some (zI x) := by
      have : al.getD k zU = zI x := hv
      rw [List.getD_eq_getElem?_getD] at this
      cases hq : al[k]? with
      | none => rw [hq] at this; cases this
      | some w => rw [hq] at this; cases this; rfl
    obtain ⟨j, hj⟩ := List.getElem?_of_mem (zll_mem (ad := ad) (k := 0).mpr ⟨k, zI x, hm, (by intro z; cases z), rfl⟩)
    rw [Nat.zero_add] at hj
    refine lv_iinc hx hb (k := j) (x := Int32.ofInt x) (v := Int32.ofInt (w32 (x + n))) hd hl.has hj ?_ (by rw [← hl.2.2.1]; omega) rfl (fun ls' h' => kk ad H locs ls' zext.rf X (hl.put (v := zI (w32 (x + n))) (by omega) h') (zst_ok ho (zr_w32 _)) hs)
    rw [zn_w32, Int32.ofInt_add]
  · cases ha
theorem zs_iconst {n : Int} (C : zCt p R s0 M args meth c mm D dA A) (T : zSt ad A L xs s0 s0.heap) (X : zAt ph D dA A L xs s0.heap ad s H locs) (hl : zLr ad ls (znl mm) al) (ho : ∀ v ∈ al, zov (zcnt s) v) (hs : ∀ v ∈ st, zov (zcnt s) v) (hz : zi mm pc = some (.iconst n, len, a, bb)) (ha : zact ph mm pc al st s (.iconst n) a bb = some (pc', al', st', s')) (hn : n0 ≤ zcnt s) (hRc : zcnt s' - n0 ≤ R.cells) (hRs : zsl (zcnt s') - zsl n0 ≤ R.slots)
    (kk : zKt p l e R s0 M args below meth c Q ph D dA A L xs mm n0 s ad pc' al' st' s') : W p l e R s0 M args below meth c H locs (zcnt s - n0) (zsl (zcnt s) - zsl n0) Q (F0 M pc ls (st.map (zcv ad))) := by
  obtain ⟨hx, hb, hml, hown, hts, hnm, hfr, hlo, hK, hNw, hA, hAO⟩ := C
  have hd := z_dec hz
  have e2 := z_ec2 hz
  obtain rfl : len = 1 := z_len hz (by intros; intro z; cases z)
  cases ha
  have h9 := decide_eq_true_eq.mp e2
  exact lv_iconst hx hb hd rfl (kk ad H locs ls zext.rf X hl ho (List.forall_mem_cons.mpr ⟨(by constructor <;> omega), hs⟩))
theorem zs_bipush {n : Int} (C : zCt p R s0 M args meth c mm D dA A) (T : zSt ad A L xs s0 s0.heap) (X : zAt ph D dA A L xs s0.heap ad s H locs) (hl : zLr ad ls (znl mm) al) (ho : ∀ v ∈ al, zov (zcnt s) v) (hs : ∀ v ∈ st, zov (zcnt s) v) (hz : zi mm pc = some (.bipush n, len, a, bb)) (ha : zact ph mm pc al st s (.bipush n) a bb = some (pc', al', st', s')) (hn : n0 ≤ zcnt s) (hRc : zcnt s' - n0 ≤ R.cells) (hRs : zsl (zcnt s') - zsl n0 ≤ R.slots)
    (kk : zKt p l e R s0 M args below meth c Q ph D dA A L xs mm n0 s ad pc' al' st' s') : W p l e R s0 M args below meth c H locs (zcnt s - n0) (zsl (zcnt s) - zsl n0) Q (F0 M pc ls (st.map (zcv ad))) := by
  obtain ⟨hx, hb, hml, hown, hts, hnm, hfr, hlo, hK, hNw, hA, hAO⟩ := C
  have hd := z_dec hz
  have e2 := z_ec2 hz
  obtain rfl : len = 2 := z_len hz (by intros; intro z; cases z)
  cases ha
  have h9 := decide_eq_true_eq.mp e2
  exact lv_bipush hx hb hd (zn_b (decide_eq_true_eq.mp e2).1 (decide_eq_true_eq.mp e2).2) (kk ad H locs ls zext.rf X hl ho (List.forall_mem_cons.mpr ⟨(by constructor <;> omega), hs⟩))
theorem zs_sipush {n : Int} (C : zCt p R s0 M args meth c mm D dA A) (T : zSt ad A L xs s0 s0.heap) (X : zAt ph D dA A L xs s0.heap ad s H locs) (hl : zLr ad ls (znl mm) al) (ho : ∀ v ∈ al, zov (zcnt s) v) (hs : ∀ v ∈ st, zov (zcnt s) v) (hz : zi mm pc = some (.sipush n, len, a, bb)) (ha : zact ph mm pc al st s (.sipush n) a bb = some (pc', al', st', s')) (hn : n0 ≤ zcnt s) (hRc : zcnt s' - n0 ≤ R.cells) (hRs : zsl (zcnt s') - zsl n0 ≤ R.slots)
    (kk : zKt p l e R s0 M args below meth c Q ph D dA A L xs mm n0 s ad pc' al' st' s') : W p l e R s0 M args below meth c H locs (zcnt s - n0) (zsl (zcnt s) - zsl n0) Q (F0 M pc ls (st.map (zcv ad))) := by
  obtain ⟨hx, hb, hml, hown, hts, hnm, hfr, hlo, hK, hNw, hA, hAO⟩ := C
  have hd := z_dec hz
  have e2 := z_ec2 hz
  obtain rfl : len = 3 := z_len hz (by intros; intro z; cases z)
  cases ha
  have h9 := decide_eq_true_eq.mp e2
  exact lv_sipush hx hb hd (zn_s (decide_eq_true_eq.mp e2).1 (decide_eq_true_eq.mp e2).2) (kk ad H locs ls zext.rf X hl ho (List.forall_mem_cons.mpr ⟨(by constructor <;> omega), hs⟩))
theorem zs_ldc {n : Nat} (C : zCt p R s0 M args meth c mm D dA A) (T : zSt ad A L xs s0 s0.heap) (X : zAt ph D dA A L xs s0.heap ad s H locs) (hl : zLr ad ls (znl mm) al) (ho : ∀ v ∈ al, zov (zcnt s) v) (hs : ∀ v ∈ st, zov (zcnt s) v) (hz : zi mm pc = some (.ldc n, len, a, bb)) (ha : zact ph mm pc al st s (.ldc n) a bb = some (pc', al', st', s')) (hn : n0 ≤ zcnt s) (hRc : zcnt s' - n0 ≤ R.cells) (hRs : zsl (zcnt s') - zsl n0 ≤ R.slots)
    (kk : zKt p l e R s0 M args below meth c Q ph D dA A L xs mm n0 s ad pc' al' st' s') : W p l e R s0 M args below meth c H locs (zcnt s - n0) (zsl (zcnt s) - zsl n0) Q (F0 M pc ls (st.map (zcv ad))) := by
  obtain ⟨hx, hb, hml, hown, hts, hnm, hfr, hlo, hK, hNw, hA, hAO⟩ := C
  have hd := z_dec hz
  have e2 := z_ec2 hz
  obtain rfl : len = 2 := z_len hz (by intros; intro z; cases z)
  cases ha
  obtain ⟨h8, h9⟩ := Bool.and_eq_true_iff.mp e2
  have h9 := beq_iff_eq.mp h9
  exact lv_ldc hx hb hown (hts _ (z_cs h8)) hd (kk ad H locs ls zext.rf X hl ho (List.forall_mem_cons.mpr ⟨(by rw [← h9]; exact zr_ti _), hs⟩))
theorem zs_ldc_w {n : Nat} (C : zCt p R s0 M args meth c mm D dA A) (T : zSt ad A L xs s0 s0.heap) (X : zAt ph D dA A L xs s0.heap ad s H locs) (hl : zLr ad ls (znl mm) al) (ho : ∀ v ∈ al, zov (zcnt s) v) (hs : ∀ v ∈ st, zov (zcnt s) v) (hz : zi mm pc = some (.ldc_w n, len, a, bb)) (ha : zact ph mm pc al st s (.ldc_w n) a bb = some (pc', al', st', s')) (hn : n0 ≤ zcnt s) (hRc : zcnt s' - n0 ≤ R.cells) (hRs : zsl (zcnt s') - zsl n0 ≤ R.slots)
    (kk : zKt p l e R s0 M args below meth c Q ph D dA A L xs mm n0 s ad pc' al' st' s') : W p l e R s0 M args below meth c H locs (zcnt s - n0) (zsl (zcnt s) - zsl n0) Q (F0 M pc ls (st.map (zcv ad))) := by
  obtain ⟨hx, hb, hml, hown, hts, hnm, hfr, hlo, hK, hNw, hA, hAO⟩ := C
  have hd := z_dec hz
  have e2 := z_ec2 hz
  obtain rfl : len = 3 := z_len hz (by intros; intro z; cases z)
  cases ha
  obtain ⟨h8, h9⟩ := Bool.and_eq_true_iff.mp e2
  have h9 := beq_iff_eq.mp h9
  exact lv_ldcw hx hb hown (hts _ (z_cs h8)) hd (kk ad H locs ls zext.rf X hl ho (List.forall_mem_cons.mpr ⟨(by rw [← h9]; exact zr_ti _), hs⟩))
theorem zs_ldc2_w {n : Nat} (C : zCt p R s0 M args meth c mm D dA A) (T : zSt ad A L xs s0 s0.heap) (X : zAt ph D dA A L xs s0.heap ad s H locs) (hl : zLr ad ls (znl mm) al) (ho : ∀ v ∈ al, zov (zcnt s) v) (hs : ∀ v ∈ st, zov (zcnt s) v) (hz : zi mm pc = some (.ldc2_w n, len, a, bb)) (ha : zact ph mm pc al st s (.ldc2_w n) a bb = some (pc', al', st', s')) (hn : n0 ≤ zcnt s) (hRc : zcnt s' - n0 ≤ R.cells) (hRs : zsl (zcnt s') - zsl n0 ≤ R.slots)
    (kk : zKt p l e R s0 M args below meth c Q ph D dA A L xs mm n0 s ad pc' al' st' s') : W p l e R s0 M args below meth c H locs (zcnt s - n0) (zsl (zcnt s) - zsl n0) Q (F0 M pc ls (st.map (zcv ad))) := by
  obtain ⟨hx, hb, hml, hown, hts, hnm, hfr, hlo, hK, hNw, hA, hAO⟩ := C
  have hd := z_dec hz
  have e2 := z_ec2 hz
  obtain rfl : len = 3 := z_len hz (by intros; intro z; cases z)
  cases ha
  obtain ⟨h8, h9⟩ := Bool.and_eq_true_iff.mp e2
  have h9 := beq_iff_eq.mp h9
  exact lv_ldc2 hx hb hown (hts _ (z_cl h8)) hd (kk ad H locs ls zext.rf X hl ho (List.forall_mem_cons.mpr ⟨(by rw [← h9]; exact zr_tl _), hs⟩))
theorem zs_lconst {n : Fin 2} (C : zCt p R s0 M args meth c mm D dA A) (T : zSt ad A L xs s0 s0.heap) (X : zAt ph D dA A L xs s0.heap ad s H locs) (hl : zLr ad ls (znl mm) al) (ho : ∀ v ∈ al, zov (zcnt s) v) (hs : ∀ v ∈ st, zov (zcnt s) v) (hz : zi mm pc = some (.lconst n, len, a, bb)) (ha : zact ph mm pc al st s (.lconst n) a bb = some (pc', al', st', s')) (hn : n0 ≤ zcnt s) (hRc : zcnt s' - n0 ≤ R.cells) (hRs : zsl (zcnt s') - zsl n0 ≤ R.slots)
    (kk : zKt p l e R s0 M args below meth c Q ph D dA A L xs mm n0 s ad pc' al' st' s') : W p l e R s0 M args below meth c H locs (zcnt s - n0) (zsl (zcnt s) - zsl n0) Q (F0 M pc ls (st.map (zcv ad))) := by
  obtain ⟨hx, hb, hml, hown, hts, hnm, hfr, hlo, hK, hNw, hA, hAO⟩ := C
  have hd := z_dec hz
  have e2 := z_ec2 hz
  obtain rfl : len = 1 := z_len hz (by intros; intro z; cases z)
  cases ha
  exact lv_lconst hx hb hd rfl (kk ad H locs ls zext.rf X hl ho (List.forall_mem_cons.mpr ⟨(by have := n.isLt; constructor <;> omega), hs⟩))
theorem zs_iadd (C : zCt p R s0 M args meth c mm D dA A) (T : zSt ad A L xs s0 s0.heap) (X : zAt ph D dA A L xs s0.heap ad s H locs) (hl : zLr ad ls (znl mm) al) (ho : ∀ v ∈ al, zov (zcnt s) v) (hs : ∀ v ∈ st, zov (zcnt s) v) (hz : zi mm pc = some (.iadd, len, a, bb)) (ha : zact ph mm pc al st s (.iadd) a bb = some (pc', al', st', s')) (hn : n0 ≤ zcnt s) (hRc : zcnt s' - n0 ≤ R.cells) (hRs : zsl (zcnt s') - zsl n0 ≤ R.slots)
    (kk : zKt p l e R s0 M args below meth c Q ph D dA A L xs mm n0 s ad pc' al' st' s') : W p l e R s0 M args below meth c H locs (zcnt s - n0) (zsl (zcnt s) - zsl n0) Q (F0 M pc ls (st.map (zcv ad))) := by
  obtain ⟨hx, hb, hml, hown, hts, hnm, hfr, hlo, hK, hNw, hA, hAO⟩ := C
  have hd := z_dec hz
  have e2 := z_ec2 hz
  obtain rfl : len = 1 := z_len hz (by intros; intro z; cases z)
  dsimp only [zact] at ha
  split at ha
  · rename_i y x t
    cases ha
    obtain ⟨hy, h1⟩ := List.forall_mem_cons.mp hs
    obtain ⟨hx1, h2⟩ := List.forall_mem_cons.mp h1
    refine lv_iadd hx hb hd ?_
    have hk := kk ad H locs ls zext.rf X hl ho (List.forall_mem_cons.mpr ⟨zr_w32 _, h2⟩)
    have e : zcv ad (zI (w32 (x + y))) = .int (Int32.ofInt x + Int32.ofInt y) := by show Value.int _ = _; rw [zn_w32, Int32.ofInt_add]
    rw [List.map_cons, show zcv ad (zI (w32 (x + y))) = _ from e] at hk
    exact hk
  · cases ha
theorem zs_isub (C : zCt p R s0 M args meth c mm D dA A) (T : zSt ad A L xs s0 s0.heap) (X : zAt ph D dA A L xs s0.heap ad s H locs) (hl : zLr ad ls (znl mm) al) (ho : ∀ v ∈ al, zov (zcnt s) v) (hs : ∀ v ∈ st, zov (zcnt s) v) (hz : zi mm pc = some (.isub, len, a, bb)) (ha : zact ph mm pc al st s (.isub) a bb = some (pc', al', st', s')) (hn : n0 ≤ zcnt s) (hRc : zcnt s' - n0 ≤ R.cells) (hRs : zsl (zcnt s') - zsl n0 ≤ R.slots)
    (kk : zKt p l e R s0 M args below meth c Q ph D dA A L xs mm n0 s ad pc' al' st' s') : W p l e R s0 M args below meth c H locs (zcnt s - n0) (zsl (zcnt s) - zsl n0) Q (F0 M pc ls (st.map (zcv ad))) := by
  obtain ⟨hx, hb, hml, hown, hts, hnm, hfr, hlo, hK, hNw, hA, hAO⟩ := C
  have hd := z_dec hz
  have e2 := z_ec2 hz
  obtain rfl : len = 1 := z_len hz (by intros; intro z; cases z)
  dsimp only [zact] at ha
  split at ha
  · rename_i y x t
    cases ha
    obtain ⟨hy, h1⟩ := List.forall_mem_cons.mp hs
    obtain ⟨hx1, h2⟩ := List.forall_mem_cons.mp h1
    refine lv_isub hx hb hd ?_
    have hk := kk ad H locs ls zext.rf X hl ho (List.forall_mem_cons.mpr ⟨zr_w32 _, h2⟩)
    have e : zcv ad (zI (w32 (x - y))) = .int (Int32.ofInt x - Int32.ofInt y) := by show Value.int _ = _; rw [zn_w32, Int32.ofInt_sub]
    rw [List.map_cons, show zcv ad (zI (w32 (x - y))) = _ from e] at hk
    exact hk
  · cases ha
theorem zs_imul (C : zCt p R s0 M args meth c mm D dA A) (T : zSt ad A L xs s0 s0.heap) (X : zAt ph D dA A L xs s0.heap ad s H locs) (hl : zLr ad ls (znl mm) al) (ho : ∀ v ∈ al, zov (zcnt s) v) (hs : ∀ v ∈ st, zov (zcnt s) v) (hz : zi mm pc = some (.imul, len, a, bb)) (ha : zact ph mm pc al st s (.imul) a bb = some (pc', al', st', s')) (hn : n0 ≤ zcnt s) (hRc : zcnt s' - n0 ≤ R.cells) (hRs : zsl (zcnt s') - zsl n0 ≤ R.slots)
    (kk : zKt p l e R s0 M args below meth c Q ph D dA A L xs mm n0 s ad pc' al' st' s') : W p l e R s0 M args below meth c H locs (zcnt s - n0) (zsl (zcnt s) - zsl n0) Q (F0 M pc ls (st.map (zcv ad))) := by
  obtain ⟨hx, hb, hml, hown, hts, hnm, hfr, hlo, hK, hNw, hA, hAO⟩ := C
  have hd := z_dec hz
  have e2 := z_ec2 hz
  obtain rfl : len = 1 := z_len hz (by intros; intro z; cases z)
  dsimp only [zact] at ha
  split at ha
  · rename_i y x t
    cases ha
    obtain ⟨hy, h1⟩ := List.forall_mem_cons.mp hs
    obtain ⟨hx1, h2⟩ := List.forall_mem_cons.mp h1
    refine lv_imul hx hb hd ?_
    have hk := kk ad H locs ls zext.rf X hl ho (List.forall_mem_cons.mpr ⟨zr_w32 _, h2⟩)
    have e : zcv ad (zI (w32 (x * y))) = .int (Int32.ofInt x * Int32.ofInt y) := by show Value.int _ = _; rw [zn_w32, Int32.ofInt_mul]
    rw [List.map_cons, show zcv ad (zI (w32 (x * y))) = _ from e] at hk
    exact hk
  · cases ha
theorem zs_iand (C : zCt p R s0 M args meth c mm D dA A) (T : zSt ad A L xs s0 s0.heap) (X : zAt ph D dA A L xs s0.heap ad s H locs) (hl : zLr ad ls (znl mm) al) (ho : ∀ v ∈ al, zov (zcnt s) v) (hs : ∀ v ∈ st, zov (zcnt s) v) (hz : zi mm pc = some (.iand, len, a, bb)) (ha : zact ph mm pc al st s (.iand) a bb = some (pc', al', st', s')) (hn : n0 ≤ zcnt s) (hRc : zcnt s' - n0 ≤ R.cells) (hRs : zsl (zcnt s') - zsl n0 ≤ R.slots)
    (kk : zKt p l e R s0 M args below meth c Q ph D dA A L xs mm n0 s ad pc' al' st' s') : W p l e R s0 M args below meth c H locs (zcnt s - n0) (zsl (zcnt s) - zsl n0) Q (F0 M pc ls (st.map (zcv ad))) := by
  obtain ⟨hx, hb, hml, hown, hts, hnm, hfr, hlo, hK, hNw, hA, hAO⟩ := C
  have hd := z_dec hz
  have e2 := z_ec2 hz
  obtain rfl : len = 1 := z_len hz (by intros; intro z; cases z)
  dsimp only [zact] at ha
  split at ha
  · rename_i y x t
    cases ha
    obtain ⟨hy, h1⟩ := List.forall_mem_cons.mp hs
    obtain ⟨hx1, h2⟩ := List.forall_mem_cons.mp h1
    refine lv_iand hx hb hd ?_
    have hk := kk ad H locs ls zext.rf X hl ho (List.forall_mem_cons.mpr ⟨zr_ti _, h2⟩)
    have e : zcv ad (zI (zand x y)) = .int (Int32.ofInt x &&& Int32.ofInt y) := by show Value.int _ = _; unfold zand; rw [zn_oi]
    rw [List.map_cons, show zcv ad (zI (zand x y)) = _ from e] at hk
    exact hk
  · cases ha
theorem zs_ior (C : zCt p R s0 M args meth c mm D dA A) (T : zSt ad A L xs s0 s0.heap) (X : zAt ph D dA A L xs s0.heap ad s H locs) (hl : zLr ad ls (znl mm) al) (ho : ∀ v ∈ al, zov (zcnt s) v) (hs : ∀ v ∈ st, zov (zcnt s) v) (hz : zi mm pc = some (.ior, len, a, bb)) (ha : zact ph mm pc al st s (.ior) a bb = some (pc', al', st', s')) (hn : n0 ≤ zcnt s) (hRc : zcnt s' - n0 ≤ R.cells) (hRs : zsl (zcnt s') - zsl n0 ≤ R.slots)
    (kk : zKt p l e R s0 M args below meth c Q ph D dA A L xs mm n0 s ad pc' al' st' s') : W p l e R s0 M args below meth c H locs (zcnt s - n0) (zsl (zcnt s) - zsl n0) Q (F0 M pc ls (st.map (zcv ad))) := by
  obtain ⟨hx, hb, hml, hown, hts, hnm, hfr, hlo, hK, hNw, hA, hAO⟩ := C
  have hd := z_dec hz
  have e2 := z_ec2 hz
  obtain rfl : len = 1 := z_len hz (by intros; intro z; cases z)
  dsimp only [zact] at ha
  split at ha
  · rename_i y x t
    cases ha
    obtain ⟨hy, h1⟩ := List.forall_mem_cons.mp hs
    obtain ⟨hx1, h2⟩ := List.forall_mem_cons.mp h1
    refine lv_ior hx hb hd ?_
    have hk := kk ad H locs ls zext.rf X hl ho (List.forall_mem_cons.mpr ⟨zr_ti _, h2⟩)
    have e : zcv ad (zI (zor x y)) = .int (Int32.ofInt x ||| Int32.ofInt y) := by show Value.int _ = _; unfold zor; rw [zn_oi]
    rw [List.map_cons, show zcv ad (zI (zor x y)) = _ from e] at hk
    exact hk
  · cases ha
theorem zs_ixor (C : zCt p R s0 M args meth c mm D dA A) (T : zSt ad A L xs s0 s0.heap) (X : zAt ph D dA A L xs s0.heap ad s H locs) (hl : zLr ad ls (znl mm) al) (ho : ∀ v ∈ al, zov (zcnt s) v) (hs : ∀ v ∈ st, zov (zcnt s) v) (hz : zi mm pc = some (.ixor, len, a, bb)) (ha : zact ph mm pc al st s (.ixor) a bb = some (pc', al', st', s')) (hn : n0 ≤ zcnt s) (hRc : zcnt s' - n0 ≤ R.cells) (hRs : zsl (zcnt s') - zsl n0 ≤ R.slots)
    (kk : zKt p l e R s0 M args below meth c Q ph D dA A L xs mm n0 s ad pc' al' st' s') : W p l e R s0 M args below meth c H locs (zcnt s - n0) (zsl (zcnt s) - zsl n0) Q (F0 M pc ls (st.map (zcv ad))) := by
  obtain ⟨hx, hb, hml, hown, hts, hnm, hfr, hlo, hK, hNw, hA, hAO⟩ := C
  have hd := z_dec hz
  have e2 := z_ec2 hz
  obtain rfl : len = 1 := z_len hz (by intros; intro z; cases z)
  dsimp only [zact] at ha
  split at ha
  · rename_i y x t
    cases ha
    obtain ⟨hy, h1⟩ := List.forall_mem_cons.mp hs
    obtain ⟨hx1, h2⟩ := List.forall_mem_cons.mp h1
    refine lv_ixor hx hb hd ?_
    have hk := kk ad H locs ls zext.rf X hl ho (List.forall_mem_cons.mpr ⟨zr_ti _, h2⟩)
    have e : zcv ad (zI (zxor x y)) = .int (Int32.ofInt x ^^^ Int32.ofInt y) := by show Value.int _ = _; unfold zxor; rw [zn_oi]
    rw [List.map_cons, show zcv ad (zI (zxor x y)) = _ from e] at hk
    exact hk
  · cases ha
theorem zs_ishl (C : zCt p R s0 M args meth c mm D dA A) (T : zSt ad A L xs s0 s0.heap) (X : zAt ph D dA A L xs s0.heap ad s H locs) (hl : zLr ad ls (znl mm) al) (ho : ∀ v ∈ al, zov (zcnt s) v) (hs : ∀ v ∈ st, zov (zcnt s) v) (hz : zi mm pc = some (.ishl, len, a, bb)) (ha : zact ph mm pc al st s (.ishl) a bb = some (pc', al', st', s')) (hn : n0 ≤ zcnt s) (hRc : zcnt s' - n0 ≤ R.cells) (hRs : zsl (zcnt s') - zsl n0 ≤ R.slots)
    (kk : zKt p l e R s0 M args below meth c Q ph D dA A L xs mm n0 s ad pc' al' st' s') : W p l e R s0 M args below meth c H locs (zcnt s - n0) (zsl (zcnt s) - zsl n0) Q (F0 M pc ls (st.map (zcv ad))) := by
  obtain ⟨hx, hb, hml, hown, hts, hnm, hfr, hlo, hK, hNw, hA, hAO⟩ := C
  have hd := z_dec hz
  have e2 := z_ec2 hz
  obtain rfl : len = 1 := z_len hz (by intros; intro z; cases z)
  dsimp only [zact] at ha
  split at ha
  · rename_i y x t
    cases ha
    obtain ⟨hy, h1⟩ := List.forall_mem_cons.mp hs
    obtain ⟨hx1, h2⟩ := List.forall_mem_cons.mp h1
    refine lv_ishl hx hb hd ?_
    have hk := kk ad H locs ls zext.rf X hl ho (List.forall_mem_cons.mpr ⟨zr_ti _, h2⟩)
    have e : zcv ad (zI (zshl x y)) = .int (Int32.ofInt x <<< (Int32.ofInt y &&& 31)) := by show Value.int _ = _; unfold zshl; rw [zn_oi]
    rw [List.map_cons, show zcv ad (zI (zshl x y)) = _ from e] at hk
    exact hk
  · cases ha
theorem zs_ishr (C : zCt p R s0 M args meth c mm D dA A) (T : zSt ad A L xs s0 s0.heap) (X : zAt ph D dA A L xs s0.heap ad s H locs) (hl : zLr ad ls (znl mm) al) (ho : ∀ v ∈ al, zov (zcnt s) v) (hs : ∀ v ∈ st, zov (zcnt s) v) (hz : zi mm pc = some (.ishr, len, a, bb)) (ha : zact ph mm pc al st s (.ishr) a bb = some (pc', al', st', s')) (hn : n0 ≤ zcnt s) (hRc : zcnt s' - n0 ≤ R.cells) (hRs : zsl (zcnt s') - zsl n0 ≤ R.slots)
    (kk : zKt p l e R s0 M args below meth c Q ph D dA A L xs mm n0 s ad pc' al' st' s') : W p l e R s0 M args below meth c H locs (zcnt s - n0) (zsl (zcnt s) - zsl n0) Q (F0 M pc ls (st.map (zcv ad))) := by
  obtain ⟨hx, hb, hml, hown, hts, hnm, hfr, hlo, hK, hNw, hA, hAO⟩ := C
  have hd := z_dec hz
  have e2 := z_ec2 hz
  obtain rfl : len = 1 := z_len hz (by intros; intro z; cases z)
  dsimp only [zact] at ha
  split at ha
  · rename_i y x t
    cases ha
    obtain ⟨hy, h1⟩ := List.forall_mem_cons.mp hs
    obtain ⟨hx1, h2⟩ := List.forall_mem_cons.mp h1
    refine lv_ishr hx hb hd ?_
    have hk := kk ad H locs ls zext.rf X hl ho (List.forall_mem_cons.mpr ⟨zr_ti _, h2⟩)
    have e : zcv ad (zI (zshr x y)) = .int (Int32.ofInt x >>> (Int32.ofInt y &&& 31)) := by show Value.int _ = _; unfold zshr; rw [zn_oi]
    rw [List.map_cons, show zcv ad (zI (zshr x y)) = _ from e] at hk
    exact hk
  · cases ha
theorem zs_iushr (C : zCt p R s0 M args meth c mm D dA A) (T : zSt ad A L xs s0 s0.heap) (X : zAt ph D dA A L xs s0.heap ad s H locs) (hl : zLr ad ls (znl mm) al) (ho : ∀ v ∈ al, zov (zcnt s) v) (hs : ∀ v ∈ st, zov (zcnt s) v) (hz : zi mm pc = some (.iushr, len, a, bb)) (ha : zact ph mm pc al st s (.iushr) a bb = some (pc', al', st', s')) (hn : n0 ≤ zcnt s) (hRc : zcnt s' - n0 ≤ R.cells) (hRs : zsl (zcnt s') - zsl n0 ≤ R.slots)
    (kk : zKt p l e R s0 M args below meth c Q ph D dA A L xs mm n0 s ad pc' al' st' s') : W p l e R s0 M args below meth c H locs (zcnt s - n0) (zsl (zcnt s) - zsl n0) Q (F0 M pc ls (st.map (zcv ad))) := by
  obtain ⟨hx, hb, hml, hown, hts, hnm, hfr, hlo, hK, hNw, hA, hAO⟩ := C
  have hd := z_dec hz
  have e2 := z_ec2 hz
  obtain rfl : len = 1 := z_len hz (by intros; intro z; cases z)
  dsimp only [zact] at ha
  split at ha
  · rename_i y x t
    cases ha
    obtain ⟨hy, h1⟩ := List.forall_mem_cons.mp hs
    obtain ⟨hx1, h2⟩ := List.forall_mem_cons.mp h1
    refine lv_iushr hx hb hd rfl ?_
    have hk := kk ad H locs ls zext.rf X hl ho (List.forall_mem_cons.mpr ⟨zr_ti _, h2⟩)
    have e : zcv ad (zI (zushr x y)) = .int (((Int32.ofInt x).toUInt32 >>> ((Int32.ofInt y).toUInt32 &&& Int32.toUInt32 31)).toInt32) := by show Value.int _ = _; unfold zushr; rw [zn_oi]
    rw [List.map_cons, show zcv ad (zI (zushr x y)) = _ from e] at hk
    exact hk
  · cases ha
theorem zs_idiv (C : zCt p R s0 M args meth c mm D dA A) (T : zSt ad A L xs s0 s0.heap) (X : zAt ph D dA A L xs s0.heap ad s H locs) (hl : zLr ad ls (znl mm) al) (ho : ∀ v ∈ al, zov (zcnt s) v) (hs : ∀ v ∈ st, zov (zcnt s) v) (hz : zi mm pc = some (.idiv, len, a, bb)) (ha : zact ph mm pc al st s (.idiv) a bb = some (pc', al', st', s')) (hn : n0 ≤ zcnt s) (hRc : zcnt s' - n0 ≤ R.cells) (hRs : zsl (zcnt s') - zsl n0 ≤ R.slots)
    (kk : zKt p l e R s0 M args below meth c Q ph D dA A L xs mm n0 s ad pc' al' st' s') : W p l e R s0 M args below meth c H locs (zcnt s - n0) (zsl (zcnt s) - zsl n0) Q (F0 M pc ls (st.map (zcv ad))) := by
  obtain ⟨hx, hb, hml, hown, hts, hnm, hfr, hlo, hK, hNw, hA, hAO⟩ := C
  have hd := z_dec hz
  have e2 := z_ec2 hz
  obtain rfl : len = 1 := z_len hz (by intros; intro z; cases z)
  dsimp only [zact] at ha
  split at ha
  · rename_i y x t
    obtain ⟨hne, ha⟩ := zifn ha
    cases ha
    obtain ⟨hy, h1⟩ := List.forall_mem_cons.mp hs
    obtain ⟨hx1, h2⟩ := List.forall_mem_cons.mp h1
    refine lv_idiv hx hb hd (by rw [show (0 : Int32) = Int32.ofInt 0 from rfl, zn_eq hy.1 hy.2 (by omega) (by omega)]; exact hne) ?_
    have hk := kk ad H locs ls zext.rf X hl ho (List.forall_mem_cons.mpr ⟨zr_ti _, h2⟩)
    have e : zcv ad (zI (zdiv x y)) = .int (Int32.ofInt x / Int32.ofInt y) := by show Value.int _ = _; unfold zdiv; rw [zn_oi]
    rw [List.map_cons, show zcv ad (zI (zdiv x y)) = _ from e] at hk
    exact hk
  · cases ha
theorem zs_irem (C : zCt p R s0 M args meth c mm D dA A) (T : zSt ad A L xs s0 s0.heap) (X : zAt ph D dA A L xs s0.heap ad s H locs) (hl : zLr ad ls (znl mm) al) (ho : ∀ v ∈ al, zov (zcnt s) v) (hs : ∀ v ∈ st, zov (zcnt s) v) (hz : zi mm pc = some (.irem, len, a, bb)) (ha : zact ph mm pc al st s (.irem) a bb = some (pc', al', st', s')) (hn : n0 ≤ zcnt s) (hRc : zcnt s' - n0 ≤ R.cells) (hRs : zsl (zcnt s') - zsl n0 ≤ R.slots)
    (kk : zKt p l e R s0 M args below meth c Q ph D dA A L xs mm n0 s ad pc' al' st' s') : W p l e R s0 M args below meth c H locs (zcnt s - n0) (zsl (zcnt s) - zsl n0) Q (F0 M pc ls (st.map (zcv ad))) := by
  obtain ⟨hx, hb, hml, hown, hts, hnm, hfr, hlo, hK, hNw, hA, hAO⟩ := C
  have hd := z_dec hz
  have e2 := z_ec2 hz
  obtain rfl : len = 1 := z_len hz (by intros; intro z; cases z)
  dsimp only [zact] at ha
  split at ha
  · rename_i y x t
    obtain ⟨hne, ha⟩ := zifn ha
    cases ha
    obtain ⟨hy, h1⟩ := List.forall_mem_cons.mp hs
    obtain ⟨hx1, h2⟩ := List.forall_mem_cons.mp h1
    refine lv_irem hx hb hd (by rw [show (0 : Int32) = Int32.ofInt 0 from rfl, zn_eq hy.1 hy.2 (by omega) (by omega)]; exact hne) ?_
    have hk := kk ad H locs ls zext.rf X hl ho (List.forall_mem_cons.mpr ⟨zr_ti _, h2⟩)
    have e : zcv ad (zI (zrem x y)) = .int (Int32.ofInt x - Int32.ofInt x / Int32.ofInt y * Int32.ofInt y) := by show Value.int _ = _; unfold zrem; rw [zn_oi]
    rw [List.map_cons, show zcv ad (zI (zrem x y)) = _ from e] at hk
    exact hk
  · cases ha
theorem zs_ladd (C : zCt p R s0 M args meth c mm D dA A) (T : zSt ad A L xs s0 s0.heap) (X : zAt ph D dA A L xs s0.heap ad s H locs) (hl : zLr ad ls (znl mm) al) (ho : ∀ v ∈ al, zov (zcnt s) v) (hs : ∀ v ∈ st, zov (zcnt s) v) (hz : zi mm pc = some (.ladd, len, a, bb)) (ha : zact ph mm pc al st s (.ladd) a bb = some (pc', al', st', s')) (hn : n0 ≤ zcnt s) (hRc : zcnt s' - n0 ≤ R.cells) (hRs : zsl (zcnt s') - zsl n0 ≤ R.slots)
    (kk : zKt p l e R s0 M args below meth c Q ph D dA A L xs mm n0 s ad pc' al' st' s') : W p l e R s0 M args below meth c H locs (zcnt s - n0) (zsl (zcnt s) - zsl n0) Q (F0 M pc ls (st.map (zcv ad))) := by
  obtain ⟨hx, hb, hml, hown, hts, hnm, hfr, hlo, hK, hNw, hA, hAO⟩ := C
  have hd := z_dec hz
  have e2 := z_ec2 hz
  obtain rfl : len = 1 := z_len hz (by intros; intro z; cases z)
  dsimp only [zact] at ha
  split at ha
  · rename_i y x t
    cases ha
    obtain ⟨hy, h1⟩ := List.forall_mem_cons.mp hs
    obtain ⟨hx1, h2⟩ := List.forall_mem_cons.mp h1
    refine lv_ladd hx hb hd ?_
    have hk := kk ad H locs ls zext.rf X hl ho (List.forall_mem_cons.mpr ⟨zr_w64 _, h2⟩)
    have e : zcv ad (zL (w64 (x + y))) = .long (Int64.ofInt x + Int64.ofInt y) := by show Value.long _ = _; rw [zn_w64, Int64.ofInt_add]
    rw [List.map_cons, show zcv ad (zL (w64 (x + y))) = _ from e] at hk
    exact hk
  · cases ha
theorem zs_lmul (C : zCt p R s0 M args meth c mm D dA A) (T : zSt ad A L xs s0 s0.heap) (X : zAt ph D dA A L xs s0.heap ad s H locs) (hl : zLr ad ls (znl mm) al) (ho : ∀ v ∈ al, zov (zcnt s) v) (hs : ∀ v ∈ st, zov (zcnt s) v) (hz : zi mm pc = some (.lmul, len, a, bb)) (ha : zact ph mm pc al st s (.lmul) a bb = some (pc', al', st', s')) (hn : n0 ≤ zcnt s) (hRc : zcnt s' - n0 ≤ R.cells) (hRs : zsl (zcnt s') - zsl n0 ≤ R.slots)
    (kk : zKt p l e R s0 M args below meth c Q ph D dA A L xs mm n0 s ad pc' al' st' s') : W p l e R s0 M args below meth c H locs (zcnt s - n0) (zsl (zcnt s) - zsl n0) Q (F0 M pc ls (st.map (zcv ad))) := by
  obtain ⟨hx, hb, hml, hown, hts, hnm, hfr, hlo, hK, hNw, hA, hAO⟩ := C
  have hd := z_dec hz
  have e2 := z_ec2 hz
  obtain rfl : len = 1 := z_len hz (by intros; intro z; cases z)
  dsimp only [zact] at ha
  split at ha
  · rename_i y x t
    cases ha
    obtain ⟨hy, h1⟩ := List.forall_mem_cons.mp hs
    obtain ⟨hx1, h2⟩ := List.forall_mem_cons.mp h1
    refine lv_lmul hx hb hd ?_
    have hk := kk ad H locs ls zext.rf X hl ho (List.forall_mem_cons.mpr ⟨zr_w64 _, h2⟩)
    have e : zcv ad (zL (w64 (x * y))) = .long (Int64.ofInt x * Int64.ofInt y) := by show Value.long _ = _; rw [zn_w64, Int64.ofInt_mul]
    rw [List.map_cons, show zcv ad (zL (w64 (x * y))) = _ from e] at hk
    exact hk
  · cases ha
theorem zs_lshl (C : zCt p R s0 M args meth c mm D dA A) (T : zSt ad A L xs s0 s0.heap) (X : zAt ph D dA A L xs s0.heap ad s H locs) (hl : zLr ad ls (znl mm) al) (ho : ∀ v ∈ al, zov (zcnt s) v) (hs : ∀ v ∈ st, zov (zcnt s) v) (hz : zi mm pc = some (.lshl, len, a, bb)) (ha : zact ph mm pc al st s (.lshl) a bb = some (pc', al', st', s')) (hn : n0 ≤ zcnt s) (hRc : zcnt s' - n0 ≤ R.cells) (hRs : zsl (zcnt s') - zsl n0 ≤ R.slots)
    (kk : zKt p l e R s0 M args below meth c Q ph D dA A L xs mm n0 s ad pc' al' st' s') : W p l e R s0 M args below meth c H locs (zcnt s - n0) (zsl (zcnt s) - zsl n0) Q (F0 M pc ls (st.map (zcv ad))) := by
  obtain ⟨hx, hb, hml, hown, hts, hnm, hfr, hlo, hK, hNw, hA, hAO⟩ := C
  have hd := z_dec hz
  have e2 := z_ec2 hz
  obtain rfl : len = 1 := z_len hz (by intros; intro z; cases z)
  dsimp only [zact] at ha
  split at ha
  · rename_i y x t
    cases ha
    obtain ⟨hy, h1⟩ := List.forall_mem_cons.mp hs
    obtain ⟨hx1, h2⟩ := List.forall_mem_cons.mp h1
    refine lv_lshl hx hb hd rfl ?_
    have hk := kk ad H locs ls zext.rf X hl ho (List.forall_mem_cons.mpr ⟨zr_tl _, h2⟩)
    have e : zcv ad (zL (zlshl x y)) = .long (Int64.ofInt x <<< ((Int32.ofInt y).toInt64 &&& 63)) := by show Value.long _ = _; unfold zlshl; rw [zn_ol]
    rw [List.map_cons, show zcv ad (zL (zlshl x y)) = _ from e] at hk
    exact hk
  · cases ha
theorem zs_lshr (C : zCt p R s0 M args meth c mm D dA A) (T : zSt ad A L xs s0 s0.heap) (X : zAt ph D dA A L xs s0.heap ad s H locs) (hl : zLr ad ls (znl mm) al) (ho : ∀ v ∈ al, zov (zcnt s) v) (hs : ∀ v ∈ st, zov (zcnt s) v) (hz : zi mm pc = some (.lshr, len, a, bb)) (ha : zact ph mm pc al st s (.lshr) a bb = some (pc', al', st', s')) (hn : n0 ≤ zcnt s) (hRc : zcnt s' - n0 ≤ R.cells) (hRs : zsl (zcnt s') - zsl n0 ≤ R.slots)
    (kk : zKt p l e R s0 M args below meth c Q ph D dA A L xs mm n0 s ad pc' al' st' s') : W p l e R s0 M args below meth c H locs (zcnt s - n0) (zsl (zcnt s) - zsl n0) Q (F0 M pc ls (st.map (zcv ad))) := by
  obtain ⟨hx, hb, hml, hown, hts, hnm, hfr, hlo, hK, hNw, hA, hAO⟩ := C
  have hd := z_dec hz
  have e2 := z_ec2 hz
  obtain rfl : len = 1 := z_len hz (by intros; intro z; cases z)
  dsimp only [zact] at ha
  split at ha
  · rename_i y x t
    cases ha
    obtain ⟨hy, h1⟩ := List.forall_mem_cons.mp hs
    obtain ⟨hx1, h2⟩ := List.forall_mem_cons.mp h1
    refine lv_lshr hx hb hd rfl ?_
    have hk := kk ad H locs ls zext.rf X hl ho (List.forall_mem_cons.mpr ⟨zr_tl _, h2⟩)
    have e : zcv ad (zL (zlshr x y)) = .long (Int64.ofInt x >>> ((Int32.ofInt y).toInt64 &&& 63)) := by show Value.long _ = _; unfold zlshr; rw [zn_ol]
    rw [List.map_cons, show zcv ad (zL (zlshr x y)) = _ from e] at hk
    exact hk
  · cases ha
theorem zs_i2l (C : zCt p R s0 M args meth c mm D dA A) (T : zSt ad A L xs s0 s0.heap) (X : zAt ph D dA A L xs s0.heap ad s H locs) (hl : zLr ad ls (znl mm) al) (ho : ∀ v ∈ al, zov (zcnt s) v) (hs : ∀ v ∈ st, zov (zcnt s) v) (hz : zi mm pc = some (.i2l, len, a, bb)) (ha : zact ph mm pc al st s (.i2l) a bb = some (pc', al', st', s')) (hn : n0 ≤ zcnt s) (hRc : zcnt s' - n0 ≤ R.cells) (hRs : zsl (zcnt s') - zsl n0 ≤ R.slots)
    (kk : zKt p l e R s0 M args below meth c Q ph D dA A L xs mm n0 s ad pc' al' st' s') : W p l e R s0 M args below meth c H locs (zcnt s - n0) (zsl (zcnt s) - zsl n0) Q (F0 M pc ls (st.map (zcv ad))) := by
  obtain ⟨hx, hb, hml, hown, hts, hnm, hfr, hlo, hK, hNw, hA, hAO⟩ := C
  have hd := z_dec hz
  have e2 := z_ec2 hz
  obtain rfl : len = 1 := z_len hz (by intros; intro z; cases z)
  dsimp only [zact] at ha
  split at ha
  · rename_i x t
    cases ha
    obtain ⟨hx1, h2⟩ := List.forall_mem_cons.mp hs
    refine lv_i2l hx hb hd rfl ?_
    have hk := kk ad H locs ls zext.rf X hl ho (List.forall_mem_cons.mpr ⟨⟨by have := hx1.1; omega, by have := hx1.2; omega⟩, h2⟩)
    have e : zcv ad (zL x) = .long ((Int32.ofInt x).toInt64) := by show Value.long _ = _; rw [zn_i2l hx1.1 hx1.2]
    rw [List.map_cons, show zcv ad (zL x) = _ from e] at hk
    exact hk
  · cases ha
theorem zs_l2i (C : zCt p R s0 M args meth c mm D dA A) (T : zSt ad A L xs s0 s0.heap) (X : zAt ph D dA A L xs s0.heap ad s H locs) (hl : zLr ad ls (znl mm) al) (ho : ∀ v ∈ al, zov (zcnt s) v) (hs : ∀ v ∈ st, zov (zcnt s) v) (hz : zi mm pc = some (.l2i, len, a, bb)) (ha : zact ph mm pc al st s (.l2i) a bb = some (pc', al', st', s')) (hn : n0 ≤ zcnt s) (hRc : zcnt s' - n0 ≤ R.cells) (hRs : zsl (zcnt s') - zsl n0 ≤ R.slots)
    (kk : zKt p l e R s0 M args below meth c Q ph D dA A L xs mm n0 s ad pc' al' st' s') : W p l e R s0 M args below meth c H locs (zcnt s - n0) (zsl (zcnt s) - zsl n0) Q (F0 M pc ls (st.map (zcv ad))) := by
  obtain ⟨hx, hb, hml, hown, hts, hnm, hfr, hlo, hK, hNw, hA, hAO⟩ := C
  have hd := z_dec hz
  have e2 := z_ec2 hz
  obtain rfl : len = 1 := z_len hz (by intros; intro z; cases z)
  dsimp only [zact] at ha
  split at ha
  · rename_i x t
    cases ha
    obtain ⟨hx1, h2⟩ := List.forall_mem_cons.mp hs
    refine lv_l2i hx hb hd rfl ?_
    have hk := kk ad H locs ls zext.rf X hl ho (List.forall_mem_cons.mpr ⟨zr_w32 _, h2⟩)
    have e : zcv ad (zI (w32 x)) = .int ((Int64.ofInt x).toInt32) := by show Value.int _ = _; rw [zn_l2i hx1.1 hx1.2]
    rw [List.map_cons, show zcv ad (zI (w32 x)) = _ from e] at hk
    exact hk
  · cases ha
theorem zs_i2b (C : zCt p R s0 M args meth c mm D dA A) (T : zSt ad A L xs s0 s0.heap) (X : zAt ph D dA A L xs s0.heap ad s H locs) (hl : zLr ad ls (znl mm) al) (ho : ∀ v ∈ al, zov (zcnt s) v) (hs : ∀ v ∈ st, zov (zcnt s) v) (hz : zi mm pc = some (.i2b, len, a, bb)) (ha : zact ph mm pc al st s (.i2b) a bb = some (pc', al', st', s')) (hn : n0 ≤ zcnt s) (hRc : zcnt s' - n0 ≤ R.cells) (hRs : zsl (zcnt s') - zsl n0 ≤ R.slots)
    (kk : zKt p l e R s0 M args below meth c Q ph D dA A L xs mm n0 s ad pc' al' st' s') : W p l e R s0 M args below meth c H locs (zcnt s - n0) (zsl (zcnt s) - zsl n0) Q (F0 M pc ls (st.map (zcv ad))) := by
  obtain ⟨hx, hb, hml, hown, hts, hnm, hfr, hlo, hK, hNw, hA, hAO⟩ := C
  have hd := z_dec hz
  have e2 := z_ec2 hz
  obtain rfl : len = 1 := z_len hz (by intros; intro z; cases z)
  dsimp only [zact] at ha
  split at ha
  · rename_i x t
    cases ha
    obtain ⟨hx1, h2⟩ := List.forall_mem_cons.mp hs
    refine lv_i2b hx hb hd rfl ?_
    have hk := kk ad H locs ls zext.rf X hl ho (List.forall_mem_cons.mpr ⟨zr_ti _, h2⟩)
    have e : zcv ad (zI (zi2b x)) = .int ((Int32.ofInt x).toInt8.toInt32) := by show Value.int _ = _; unfold zi2b; rw [zn_oi]
    rw [List.map_cons, show zcv ad (zI (zi2b x)) = _ from e] at hk
    exact hk
  · cases ha
theorem zs_i2s (C : zCt p R s0 M args meth c mm D dA A) (T : zSt ad A L xs s0 s0.heap) (X : zAt ph D dA A L xs s0.heap ad s H locs) (hl : zLr ad ls (znl mm) al) (ho : ∀ v ∈ al, zov (zcnt s) v) (hs : ∀ v ∈ st, zov (zcnt s) v) (hz : zi mm pc = some (.i2s, len, a, bb)) (ha : zact ph mm pc al st s (.i2s) a bb = some (pc', al', st', s')) (hn : n0 ≤ zcnt s) (hRc : zcnt s' - n0 ≤ R.cells) (hRs : zsl (zcnt s') - zsl n0 ≤ R.slots)
    (kk : zKt p l e R s0 M args below meth c Q ph D dA A L xs mm n0 s ad pc' al' st' s') : W p l e R s0 M args below meth c H locs (zcnt s - n0) (zsl (zcnt s) - zsl n0) Q (F0 M pc ls (st.map (zcv ad))) := by
  obtain ⟨hx, hb, hml, hown, hts, hnm, hfr, hlo, hK, hNw, hA, hAO⟩ := C
  have hd := z_dec hz
  have e2 := z_ec2 hz
  obtain rfl : len = 1 := z_len hz (by intros; intro z; cases z)
  dsimp only [zact] at ha
  split at ha
  · rename_i x t
    cases ha
    obtain ⟨hx1, h2⟩ := List.forall_mem_cons.mp hs
    refine lv_i2s hx hb hd rfl ?_
    have hk := kk ad H locs ls zext.rf X hl ho (List.forall_mem_cons.mpr ⟨zr_ti _, h2⟩)
    have e : zcv ad (zI (zi2s x)) = .int ((Int32.ofInt x).toInt16.toInt32) := by show Value.int _ = _; unfold zi2s; rw [zn_oi]
    rw [List.map_cons, show zcv ad (zI (zi2s x)) = _ from e] at hk
    exact hk
  · cases ha
end ZS

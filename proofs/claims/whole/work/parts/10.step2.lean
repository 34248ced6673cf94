theorem z_pcs {m pc : Nat} {x : Instr × Nat × Int × Nat} (h : zi m pc = some x) : pc < 5000 := by
  have hm := z_lt h
  have hp : pc < zsz m := by
    apply Nat.lt_of_not_le
    intro hp
    rw [zo_all m hm pc hp] at h
    cases h
  have key : ∀ m, m < 189 → zsz m < 5000 := by decide +kernel
  have := key m hm
  omega
theorem zk_ctor0 : ∀ m, m < 189 → zkd m = 2 → (zy m).name = "<init>" := by decide +kernel
theorem zk_ctor {m pc : Nat} {x : Instr × Nat × Int × Nat} (h : zi m pc = some x) (hk : zkd m = 2) : (zy m).name = "<init>" := zk_ctor0 m (z_lt h) hk
theorem zrg_le (c k : Nat) : zrg c k ≤ 107 := by
  unfold zrg
  cases h : zm_rg.lookup (c, k) with
  | none => exact (by decide : 99 ≤ 107)
  | some v =>
    have key : ∀ q ∈ zm_rg, q.2 ≤ 107 := by decide +kernel
    have hm : ∀ (l : List ((Nat × Nat) × Nat)), l.lookup (c, k) = some v → ∃ q ∈ l, q.2 = v := by
      intro l
      induction l with
      | nil => intro h; cases h
      | cons x t ih =>
        intro h
        rw [List.lookup_cons] at h
        split at h
        · exact ⟨x, List.mem_cons_self, Option.some.inj h⟩
        · obtain ⟨q, q1, q2⟩ := ih h
          exact ⟨q, List.mem_cons_of_mem _ q1, q2⟩
    obtain ⟨q, q1, q2⟩ := hm zm_rg h
    exact q2 ▸ key q q1
theorem zfk_30 : ∀ c, c < 12 → ∀ k, k < lg c → zfk c k = 3 → (zty c k).isReference = true := by decide +kernel
theorem zfk_3 {c k : Nat} (h : zfk c k = 3) (hc : c < 12) (hk : k < lg c) (x : Nat) : narrow (zty c k) (.ref x) = .ref x ∧ fits (zty c k) (.ref x) = true := by
  have := zfk_30 c hc k hk h
  cases e : zty c k with
  | object n => exact ⟨rfl, rfl⟩
  | array t => exact ⟨rfl, rfl⟩
  | _ => rw [e] at this; cases this
theorem zrn_i {n : Nat} {x : Int} (h : zov n (.inl x)) : -2147483648 ≤ x ∧ x < 2147483648 := h
theorem znb {x : Int} (h : x = 0 ∨ x = 1) : narrow .boolean (.int (Int32.ofInt x)) = .int (Int32.ofInt x) ∧ fits .boolean (.int (Int32.ofInt x)) = true := by
  rcases h with rfl | rfl <;> exact ⟨rfl, rfl⟩
theorem zb_split {x : Bool} {P : Bool → Prop} (ht : x = true → P true) (hf : x = false → P false) : P x := by
  cases x with
  | true => exact ht rfl
  | false => exact hf rfl
theorem zset_map {n k : Nat} {f : Nat → Value} {v : Value} {g : Nat → Value} (hk : k < n) (hv : g k = v) (hn : ∀ j, j < n → j ≠ k → g j = f j) : ((List.range n).map f).set k v = (List.range n).map g := by
  apply List.ext_getElem?
  intro j
  rw [List.getElem?_set]
  by_cases e : k = j
  · subst e
    rw [if_pos rfl, if_pos (by rw [List.length_map, List.length_range]; exact hk), List.getElem?_map, List.getElem?_range hk, ← hv]
    rfl
  · rw [if_neg e]
    by_cases hj : j < n
    · rw [List.getElem?_map, List.getElem?_map, List.getElem?_range hj]
      exact congrArg some (hn j hj (fun z => e z.symm)).symm
    · rw [List.getElem?_eq_none (by rw [List.length_map, List.length_range]; omega), List.getElem?_eq_none (by rw [List.length_map, List.length_range]; omega)]
theorem zfv_i {ph : Bool} {ad : Nat → Int → Nat} {f : Int → Int} {r : Nat × Int} {k : Nat} (h : zfk (tg r.1) k ≤ 1) : zfv ph ad f r k = .int (Int32.ofInt (f k)) := by
  unfold zfv
  rw [zbl h]
  rfl
theorem zfv_l {ph : Bool} {ad : Nat → Int → Nat} {f : Int → Int} {r : Nat × Int} {k : Nat} (h : zfk (tg r.1) k = 2) : zfv ph ad f r k = .long (Int64.ofInt (f k)) := by
  unfold zfv
  rw [h]
  rfl
theorem zfk_le (c k : Nat) : zfk c k ≤ 3 := by
  unfold zfk
  split <;> omega
theorem zfk_ty {c k : Nat} : (zfk c k = 0 → zty c k = .int) ∧ (zfk c k = 1 → zty c k = .boolean) ∧ (zfk c k = 2 → zty c k = .long) := by
  unfold zfk
  split <;> rename_i h <;> simp [h]
theorem zsk_o {g j : Nat} (h : g ≤ 12) : zsk g j = zfk (tg g) j := by
  unfold zsk
  rw [zbl h]
  rfl
theorem zsk_a {g j : Nat} (h : 12 < g) : zsk g j = zak g := by
  unfold zsk
  rw [zbln h]
  rfl
section ZS2
variable {p : Program} {l : Launch} {e : Env} {R : Room} {s0 : State} {M : MethodId} {args : Array Value} {below : List Frame} {meth : Method} {c : Code} {Q : State → Prop}
variable {ph : Bool} {D : va_G} {dA : Nat → ClassId} {A : Nat → Prop} {L : Nat} {xs : Nat → Int32} {mm n0 pc pc' len bb : Nat} {a : Int} {i : Instr} {ad : Nat → Int → Nat} {s s' : zS} {H : Heap} {locs : List Loc} {ls : Array Slot} {al al' st st' : List zV}
theorem zs_lcmp (C : zCt p R s0 M args meth c mm D dA A) (T : zSt ad A L xs s0 s0.heap) (X : zAt ph D dA A L xs s0.heap ad s H locs) (hl : zLr ad ls (znl mm) al) (ho : ∀ v ∈ al, zov (zcnt s) v) (hs : ∀ v ∈ st, zov (zcnt s) v) (hz : zi mm pc = some (.lcmp, len, a, bb)) (ha : zact ph mm pc al st s (.lcmp) a bb = some (pc', al', st', s')) (hn : n0 ≤ zcnt s) (hRc : zcnt s' - n0 ≤ R.cells) (hRs : zsl (zcnt s') - zsl n0 ≤ R.slots)
    (kk : zKt p l e R s0 M args below meth c Q ph D dA A L xs mm n0 s ad pc' al' st' s') : W p l e R s0 M args below meth c H locs (zcnt s - n0) (zsl (zcnt s) - zsl n0) Q (F0 M pc ls (st.map (zcv ad))) := by
  obtain ⟨hx, hb, hml, hown, hts, hnm, hfr, hlo, hK, hNw, hA, hAO⟩ := C
  have hd := z_dec hz
  have e2 := z_ec2 hz
  obtain rfl : len = 1 := z_len hz (by intros; intro z; cases z)
  dsimp only [zact] at ha
  split at ha
  · rename_i y x t
    cases ha
    obtain ⟨hy, h1⟩ := List.forall_mem_cons.mp hs
    obtain ⟨hx1, h2⟩ := List.forall_mem_cons.mp h1
    refine W.lcmp hx hb hd ?_
    have hk := kk ad H locs ls zext.rf X hl ho (List.forall_mem_cons.mpr ⟨(by show _ ∧ _; by_cases q1 : x < y <;> by_cases q2 : x = y <;> simp [q1, q2]), h2⟩)
    have e : zcv ad (zI (if x < y then -1 else if x = y then 0 else 1)) = .int (lg_cmp (Int64.ofInt x) (Int64.ofInt y)) := by
      show Value.int _ = _
      unfold lg_cmp
      congr 1
      have q1 := zn_llt hy.1 hy.2 hx1.1 hx1.2
      have q2 := zn_leq hx1.1 hx1.2 hy.1 hy.2
      by_cases e1 : x < y
      · rw [if_pos e1, if_neg (fun z => by have := q1.mp z; omega), if_neg (fun z => by have := q2.mp z; omega)]
        rfl
      · by_cases e2 : x = y
        · rw [if_neg e1, if_pos e2, if_neg (fun z => by have := q1.mp z; omega), if_pos (q2.mpr e2)]
          rfl
        · rw [if_neg e1, if_neg e2, if_pos (q1.mpr (by omega))]
          rfl
    rw [List.map_cons, show zcv ad _ = _ from e] at hk
    exact hk
  · cases ha
theorem zs_dup (C : zCt p R s0 M args meth c mm D dA A) (T : zSt ad A L xs s0 s0.heap) (X : zAt ph D dA A L xs s0.heap ad s H locs) (hl : zLr ad ls (znl mm) al) (ho : ∀ v ∈ al, zov (zcnt s) v) (hs : ∀ v ∈ st, zov (zcnt s) v) (hz : zi mm pc = some (.dup, len, a, bb)) (ha : zact ph mm pc al st s (.dup) a bb = some (pc', al', st', s')) (hn : n0 ≤ zcnt s) (hRc : zcnt s' - n0 ≤ R.cells) (hRs : zsl (zcnt s') - zsl n0 ≤ R.slots)
    (kk : zKt p l e R s0 M args below meth c Q ph D dA A L xs mm n0 s ad pc' al' st' s') : W p l e R s0 M args below meth c H locs (zcnt s - n0) (zsl (zcnt s) - zsl n0) Q (F0 M pc ls (st.map (zcv ad))) := by
  obtain ⟨hx, hb, hml, hown, hts, hnm, hfr, hlo, hK, hNw, hA, hAO⟩ := C
  have hd := z_dec hz
  have e2 := z_ec2 hz
  obtain rfl : len = 1 := z_len hz (by intros; intro z; cases z)
  dsimp only [zact] at ha
  split at ha
  · cases ha
    obtain ⟨h1, h2⟩ := List.forall_mem_cons.mp hs
    exact lv_dup hx hb hd rfl (kk ad H locs ls zext.rf X hl ho (List.forall_mem_cons.mpr ⟨h1, hs⟩))
  · cases ha
    obtain ⟨h1, h2⟩ := List.forall_mem_cons.mp hs
    exact lv_dup hx hb hd rfl (kk ad H locs ls zext.rf X hl ho (List.forall_mem_cons.mpr ⟨h1, hs⟩))
  · cases ha
theorem zs_dup2 (C : zCt p R s0 M args meth c mm D dA A) (T : zSt ad A L xs s0 s0.heap) (X : zAt ph D dA A L xs s0.heap ad s H locs) (hl : zLr ad ls (znl mm) al) (ho : ∀ v ∈ al, zov (zcnt s) v) (hs : ∀ v ∈ st, zov (zcnt s) v) (hz : zi mm pc = some (.dup2, len, a, bb)) (ha : zact ph mm pc al st s (.dup2) a bb = some (pc', al', st', s')) (hn : n0 ≤ zcnt s) (hRc : zcnt s' - n0 ≤ R.cells) (hRs : zsl (zcnt s') - zsl n0 ≤ R.slots)
    (kk : zKt p l e R s0 M args below meth c Q ph D dA A L xs mm n0 s ad pc' al' st' s') : W p l e R s0 M args below meth c H locs (zcnt s - n0) (zsl (zcnt s) - zsl n0) Q (F0 M pc ls (st.map (zcv ad))) := by
  obtain ⟨hx, hb, hml, hown, hts, hnm, hfr, hlo, hK, hNw, hA, hAO⟩ := C
  have hd := z_dec hz
  have e2 := z_ec2 hz
  obtain rfl : len = 1 := z_len hz (by intros; intro z; cases z)
  dsimp only [zact] at ha
  split at ha
  · cases ha
    obtain ⟨h1, h2⟩ := List.forall_mem_cons.mp hs
    obtain ⟨h3, h4⟩ := List.forall_mem_cons.mp h2
    exact lv_dup2_11 hx hb hd rfl rfl (kk ad H locs ls zext.rf X hl ho (List.forall_mem_cons.mpr ⟨h1, List.forall_mem_cons.mpr ⟨h3, hs⟩⟩))
  · cases ha
theorem zs_goto {off : Int} (C : zCt p R s0 M args meth c mm D dA A) (T : zSt ad A L xs s0 s0.heap) (X : zAt ph D dA A L xs s0.heap ad s H locs) (hl : zLr ad ls (znl mm) al) (ho : ∀ v ∈ al, zov (zcnt s) v) (hs : ∀ v ∈ st, zov (zcnt s) v) (hz : zi mm pc = some (.goto off, len, a, bb)) (ha : zact ph mm pc al st s (.goto off) a bb = some (pc', al', st', s')) (hn : n0 ≤ zcnt s) (hRc : zcnt s' - n0 ≤ R.cells) (hRs : zsl (zcnt s') - zsl n0 ≤ R.slots)
    (kk : zKt p l e R s0 M args below meth c Q ph D dA A L xs mm n0 s ad pc' al' st' s') : W p l e R s0 M args below meth c H locs (zcnt s - n0) (zsl (zcnt s) - zsl n0) Q (F0 M pc ls (st.map (zcv ad))) := by
  obtain ⟨hx, hb, hml, hown, hts, hnm, hfr, hlo, hK, hNw, hA, hAO⟩ := C
  have hd := z_dec hz
  have e2 := z_ec2 hz
  obtain rfl : len = 3 := z_len hz (by intros; intro z; cases z)
  cases ha
  exact lv_goto hx hb hd (beq_iff_eq.mp e2) (kk ad H locs ls zext.rf X hl ho hs)
theorem zs_ifCond {cnd : ClassFile.Cond} {off : Int} (C : zCt p R s0 M args meth c mm D dA A) (T : zSt ad A L xs s0 s0.heap) (X : zAt ph D dA A L xs s0.heap ad s H locs) (hl : zLr ad ls (znl mm) al) (ho : ∀ v ∈ al, zov (zcnt s) v) (hs : ∀ v ∈ st, zov (zcnt s) v) (hz : zi mm pc = some (.ifCond cnd off, len, a, bb)) (ha : zact ph mm pc al st s (.ifCond cnd off) a bb = some (pc', al', st', s')) (hn : n0 ≤ zcnt s) (hRc : zcnt s' - n0 ≤ R.cells) (hRs : zsl (zcnt s') - zsl n0 ≤ R.slots)
    (kk : zKt p l e R s0 M args below meth c Q ph D dA A L xs mm n0 s ad pc' al' st' s') : W p l e R s0 M args below meth c H locs (zcnt s - n0) (zsl (zcnt s) - zsl n0) Q (F0 M pc ls (st.map (zcv ad))) := by
  obtain ⟨hx, hb, hml, hown, hts, hnm, hfr, hlo, hK, hNw, hA, hAO⟩ := C
  have hd := z_dec hz
  have e2 := z_ec2 hz
  obtain rfl : len = 3 := z_len hz (by intros; intro z; cases z)
  have ht := beq_iff_eq.mp e2
  dsimp only [zact] at ha
  split at ha
  · rename_i x t
    cases ha
    obtain ⟨hx1, h2⟩ := List.forall_mem_cons.mp hs
    have hy : -2147483648 ≤ (0 : Int) ∧ (0 : Int) < 2147483648 := by omega
    have hk := kk ad H locs ls zext.rf X hl ho h2
    cases cnd with
    | eq => exact lv_if_eq hx hb hd ht (fun z => by rw [show zcmp .eq x 0 = true from decide_eq_true ((zn_eq hx1.1 hx1.2 hy.1 hy.2).mp z)] at hk; exact hk) (fun z => by rw [show zcmp .eq x 0 = false from decide_eq_false (fun w => z ((zn_eq hx1.1 hx1.2 hy.1 hy.2).mpr w))] at hk; exact hk)
    | ne => exact lv_if_ne hx hb hd ht (fun z => by rw [show zcmp .ne x 0 = true from decide_eq_true (fun w => z ((zn_eq hx1.1 hx1.2 hy.1 hy.2).mpr w))] at hk; exact hk) (fun z => by rw [show zcmp .ne x 0 = false from decide_eq_false (fun w => w ((zn_eq hx1.1 hx1.2 hy.1 hy.2).mp z))] at hk; exact hk)
    | lt => exact lv_if_lt hx hb hd ht (fun z => by rw [show zcmp .lt x 0 = true from decide_eq_true ((zn_lt hx1.1 hx1.2 hy.1 hy.2).mp z)] at hk; exact hk) (fun z => by rw [show zcmp .lt x 0 = false from decide_eq_false (fun w => z ((zn_lt hx1.1 hx1.2 hy.1 hy.2).mpr w))] at hk; exact hk)
    | ge => exact lv_if_ge hx hb hd ht (fun z => by rw [show zcmp .ge x 0 = true from decide_eq_true ((zn_le hy.1 hy.2 hx1.1 hx1.2).mp z)] at hk; exact hk) (fun z => by rw [show zcmp .ge x 0 = false from decide_eq_false (fun w => z ((zn_le hy.1 hy.2 hx1.1 hx1.2).mpr w))] at hk; exact hk)
    | gt => exact lv_if_gt hx hb hd ht (fun z => by rw [show zcmp .gt x 0 = true from decide_eq_true ((zn_lt hy.1 hy.2 hx1.1 hx1.2).mp z)] at hk; exact hk) (fun z => by rw [show zcmp .gt x 0 = false from decide_eq_false (fun w => z ((zn_lt hy.1 hy.2 hx1.1 hx1.2).mpr w))] at hk; exact hk)
    | le => exact lv_if_le hx hb hd ht (fun z => by rw [show zcmp .le x 0 = true from decide_eq_true ((zn_le hx1.1 hx1.2 hy.1 hy.2).mp z)] at hk; exact hk) (fun z => by rw [show zcmp .le x 0 = false from decide_eq_false (fun w => z ((zn_le hx1.1 hx1.2 hy.1 hy.2).mpr w))] at hk; exact hk)
  · cases ha
theorem zs_if_icmp {cnd : ClassFile.Cond} {off : Int} (C : zCt p R s0 M args meth c mm D dA A) (T : zSt ad A L xs s0 s0.heap) (X : zAt ph D dA A L xs s0.heap ad s H locs) (hl : zLr ad ls (znl mm) al) (ho : ∀ v ∈ al, zov (zcnt s) v) (hs : ∀ v ∈ st, zov (zcnt s) v) (hz : zi mm pc = some (.if_icmp cnd off, len, a, bb)) (ha : zact ph mm pc al st s (.if_icmp cnd off) a bb = some (pc', al', st', s')) (hn : n0 ≤ zcnt s) (hRc : zcnt s' - n0 ≤ R.cells) (hRs : zsl (zcnt s') - zsl n0 ≤ R.slots)
    (kk : zKt p l e R s0 M args below meth c Q ph D dA A L xs mm n0 s ad pc' al' st' s') : W p l e R s0 M args below meth c H locs (zcnt s - n0) (zsl (zcnt s) - zsl n0) Q (F0 M pc ls (st.map (zcv ad))) := by
  obtain ⟨hx, hb, hml, hown, hts, hnm, hfr, hlo, hK, hNw, hA, hAO⟩ := C
  have hd := z_dec hz
  have e2 := z_ec2 hz
  obtain rfl : len = 3 := z_len hz (by intros; intro z; cases z)
  have ht := beq_iff_eq.mp e2
  dsimp only [zact] at ha
  split at ha
  · rename_i y x t
    cases ha
    obtain ⟨hy, h1⟩ := List.forall_mem_cons.mp hs
    obtain ⟨hx1, h2⟩ := List.forall_mem_cons.mp h1
    have hk := kk ad H locs ls zext.rf X hl ho h2
    cases cnd with
    | eq => exact lv_icmp_eq hx hb hd ht (fun z => by rw [show zcmp .eq x y = true from decide_eq_true ((zn_eq hx1.1 hx1.2 hy.1 hy.2).mp z)] at hk; exact hk) (fun z => by rw [show zcmp .eq x y = false from decide_eq_false (fun w => z ((zn_eq hx1.1 hx1.2 hy.1 hy.2).mpr w))] at hk; exact hk)
    | ne => exact lv_icmp_ne hx hb hd ht (fun z => by rw [show zcmp .ne x y = true from decide_eq_true (fun w => z ((zn_eq hx1.1 hx1.2 hy.1 hy.2).mpr w))] at hk; exact hk) (fun z => by rw [show zcmp .ne x y = false from decide_eq_false (fun w => w ((zn_eq hx1.1 hx1.2 hy.1 hy.2).mp z))] at hk; exact hk)
    | lt => exact lv_icmp_lt hx hb hd ht (fun z => by rw [show zcmp .lt x y = true from decide_eq_true ((zn_lt hx1.1 hx1.2 hy.1 hy.2).mp z)] at hk; exact hk) (fun z => by rw [show zcmp .lt x y = false from decide_eq_false (fun w => z ((zn_lt hx1.1 hx1.2 hy.1 hy.2).mpr w))] at hk; exact hk)
    | ge => exact lv_icmp_ge hx hb hd ht (fun z => by rw [show zcmp .ge x y = true from decide_eq_true ((zn_le hy.1 hy.2 hx1.1 hx1.2).mp z)] at hk; exact hk) (fun z => by rw [show zcmp .ge x y = false from decide_eq_false (fun w => z ((zn_le hy.1 hy.2 hx1.1 hx1.2).mpr w))] at hk; exact hk)
    | gt => exact lv_icmp_gt hx hb hd ht (fun z => by rw [show zcmp .gt x y = true from decide_eq_true ((zn_lt hy.1 hy.2 hx1.1 hx1.2).mp z)] at hk; exact hk) (fun z => by rw [show zcmp .gt x y = false from decide_eq_false (fun w => z ((zn_lt hy.1 hy.2 hx1.1 hx1.2).mpr w))] at hk; exact hk)
    | le => exact lv_icmp_le hx hb hd ht (fun z => by rw [show zcmp .le x y = true from decide_eq_true ((zn_le hx1.1 hx1.2 hy.1 hy.2).mp z)] at hk; exact hk) (fun z => by rw [show zcmp .le x y = false from decide_eq_false (fun w => z ((zn_le hx1.1 hx1.2 hy.1 hy.2).mpr w))] at hk; exact hk)
  · cases ha
theorem zs_if_acmp {cnd : ClassFile.ACond} {off : Int} (C : zCt p R s0 M args meth c mm D dA A) (T : zSt ad A L xs s0 s0.heap) (X : zAt ph D dA A L xs s0.heap ad s H locs) (hl : zLr ad ls (znl mm) al) (ho : ∀ v ∈ al, zov (zcnt s) v) (hs : ∀ v ∈ st, zov (zcnt s) v) (hz : zi mm pc = some (.if_acmp cnd off, len, a, bb)) (ha : zact ph mm pc al st s (.if_acmp cnd off) a bb = some (pc', al', st', s')) (hn : n0 ≤ zcnt s) (hRc : zcnt s' - n0 ≤ R.cells) (hRs : zsl (zcnt s') - zsl n0 ≤ R.slots)
    (kk : zKt p l e R s0 M args below meth c Q ph D dA A L xs mm n0 s ad pc' al' st' s') : W p l e R s0 M args below meth c H locs (zcnt s - n0) (zsl (zcnt s) - zsl n0) Q (F0 M pc ls (st.map (zcv ad))) := by
  obtain ⟨hx, hb, hml, hown, hts, hnm, hfr, hlo, hK, hNw, hA, hAO⟩ := C
  have hd := z_dec hz
  have e2 := z_ec2 hz
  obtain rfl : len = 3 := z_len hz (by intros; intro z; cases z)
  have ht := beq_iff_eq.mp e2
  dsimp only [zact] at ha
  split at ha
  · rename_i q r t
    obtain ⟨hg, ha⟩ := zbif ha
    cases ha
    rw [Bool.and_eq_true] at hg
    obtain ⟨hq, h1⟩ := List.forall_mem_cons.mp hs
    obtain ⟨hr, h2⟩ := List.forall_mem_cons.mp h1
    have hk := kk ad H locs ls zext.rf X hl ho h2
    obtain ⟨kq, q1, q2, q3⟩ := z_live hq (by have := zlt' hg.1; omega)
    obtain ⟨kr, r1, r2, r3⟩ := z_live hr (by have := zlt' hg.2; omega)
    have key : (some (ad r.1 r.2) = some (ad q.1 q.2)) ↔ r = q := by
      constructor
      · intro z
        have hD := X.2.1.1 kr kq _ _ (zws_at r1) (zws_at q1) (by unfold zwk; rw [r3, q3]; exact Option.some.inj z)
        subst hD
        exact r3.symm.trans q3
      · intro z; rw [z]
    cases cnd with
    | eq => exact lv_acmp_eq (rx := some (ad r.1 r.2)) (ry := some (ad q.1 q.2)) hx hb hd ht (fun z => by rw [decide_eq_true (key.mp z)] at hk; exact hk) (fun z => by rw [decide_eq_false (fun w => z (key.mpr w))] at hk; exact hk)
    | ne => exact lv_acmp_ne (rx := some (ad r.1 r.2)) (ry := some (ad q.1 q.2)) hx hb hd ht (fun z => by rw [decide_eq_false (fun w => z (key.mpr w))] at hk; exact hk) (fun z => by rw [decide_eq_true (key.mp z)] at hk; exact hk)
  · cases ha
theorem zs_tableswitch {dflt lo hi : Int} {offs : Array Int} (C : zCt p R s0 M args meth c mm D dA A) (T : zSt ad A L xs s0 s0.heap) (X : zAt ph D dA A L xs s0.heap ad s H locs) (hl : zLr ad ls (znl mm) al) (ho : ∀ v ∈ al, zov (zcnt s) v) (hs : ∀ v ∈ st, zov (zcnt s) v) (hz : zi mm pc = some (.tableswitch dflt lo hi offs, len, a, bb)) (ha : zact ph mm pc al st s (.tableswitch dflt lo hi offs) a bb = some (pc', al', st', s')) (hn : n0 ≤ zcnt s) (hRc : zcnt s' - n0 ≤ R.cells) (hRs : zsl (zcnt s') - zsl n0 ≤ R.slots)
    (kk : zKt p l e R s0 M args below meth c Q ph D dA A L xs mm n0 s ad pc' al' st' s') : W p l e R s0 M args below meth c H locs (zcnt s - n0) (zsl (zcnt s) - zsl n0) Q (F0 M pc ls (st.map (zcv ad))) := by
  obtain ⟨hx, hb, hml, hown, hts, hnm, hfr, hlo, hK, hNw, hA, hAO⟩ := C
  have hd := z_dec hz
  have e2 := z_ec2 hz
  dsimp only [zact] at ha
  split at ha
  · rename_i x t
    obtain ⟨h0, ha⟩ := zif ha
    cases ha
    obtain ⟨hx1, h2⟩ := List.forall_mem_cons.mp hs
    have hk := kk ad H locs ls zext.rf X hl ho h2
    have ex : (Int32.ofInt x).toInt = x := zn_ti hx1.1 hx1.2
    by_cases ho1 : x < lo ∨ hi < x
    · refine lv_tableOut hx hb hd (by rw [ex]; exact ho1) ?_ hk
      unfold zts at h0 ⊢
      rw [if_pos ho1] at h0 ⊢
      omega
    · have e9 : zts pc dflt lo hi offs x = (pc : Int) + offs.getD (x - lo).toNat (-10000000) := by unfold zts; rw [if_neg ho1]
      cases hv : offs[(x - lo).toNat]? with
      | none =>
        exfalso
        have hp := z_pcs hz
        rw [e9, Array.getD_eq_getD_getElem?, hv] at h0
        simp at h0
        omega
      | some v =>
        refine lv_tableIn (off := v) hx hb hd (by rw [ex]; omega) (by rw [ex]; omega) (by rw [ex]; exact hv) ?_ hk
        rw [e9, Array.getD_eq_getD_getElem?, hv] at h0 ⊢
        simp at h0 ⊢
        omega
  · cases ha
theorem zs_getfield {idx : Nat} (C : zCt p R s0 M args meth c mm D dA A) (T : zSt ad A L xs s0 s0.heap) (X : zAt ph D dA A L xs s0.heap ad s H locs) (hl : zLr ad ls (znl mm) al) (ho : ∀ v ∈ al, zov (zcnt s) v) (hs : ∀ v ∈ st, zov (zcnt s) v) (hz : zi mm pc = some (.getfield idx, len, a, bb)) (ha : zact ph mm pc al st s (.getfield idx) a bb = some (pc', al', st', s')) (hn : n0 ≤ zcnt s) (hRc : zcnt s' - n0 ≤ R.cells) (hRs : zsl (zcnt s') - zsl n0 ≤ R.slots)
    (kk : zKt p l e R s0 M args below meth c Q ph D dA A L xs mm n0 s ad pc' al' st' s') : W p l e R s0 M args below meth c H locs (zcnt s - n0) (zsl (zcnt s) - zsl n0) Q (F0 M pc ls (st.map (zcv ad))) := by
  obtain ⟨hx, hb, hml, hown, hts, hnm, hfr, hlo, hK, hNw, hA, hAO⟩ := C
  have hd := z_dec hz
  have e2 := z_ec2 hz
  obtain rfl : len = 3 := z_len hz (by intros; intro z; cases z)
  obtain ⟨f1, f2, f3, f4⟩ := z_fl e2
  dsimp only [zact] at ha
  unfold zgetf at ha
  split at ha
  · rename_i r t
    obtain ⟨hg, ha⟩ := zbif ha
    simp only [Bool.and_eq_true] at hg
    have g1 := zbt hg.1.1
    have g2 := zlt' hg.1.2
    have g3 := zlt' hg.2
    obtain ⟨hr, h2⟩ := List.forall_mem_cons.mp hs
    obtain ⟨q, q1, q2, q3⟩ := z_live hr (by omega)
    have hok := X.2.2.2.1.2 q q1 bb (by rw [q3]; omega)
    rw [q3] at hok
    unfold zso at hok
    rw [zsk_o g2, g1] at hok
    have hv : ((List.range (lg r.1)).map (zfv ph ad (s r.1 r.2) r))[bb]? = some (zfv ph ad (s r.1 r.2) r bb) := by
      rw [List.getElem?_map, List.getElem?_range (by omega)]
      rfl
    have hob := zobj r.1 (by omega)
    refine va_get hx hb hts (zhin (tg r.1) hob.1) hown hK X.1 q (zws_obj q1 q3 g2) (zvw (tg r.1) hob.1) bb (by rw [← hob.2]; omega) (hts _ (by rw [g1]; exact f3)) (fun _ h9 => h9) hv hd ?_
    by_cases k1 : zfk a.toNat bb ≤ 1
    · rw [zbl k1, cond_true] at ha
      cases ha
      rw [zfv_i (by rw [g1]; exact k1)]
      refine kk ad H locs ls zext.rf X hl ho (List.forall_mem_cons.mpr ⟨?_, h2⟩)
      show _ ∧ _
      by_cases k0 : zfk a.toNat bb = 0
      · exact hok.1 k0
      · rcases hok.2.1 (by omega) with h | h <;> rw [h] <;> omega
    · rw [zbln (by omega), cond_false] at ha
      by_cases k2 : zfk a.toNat bb = 2
      · rw [show Nat.beq (zfk a.toNat bb) 2 = true by rw [k2]; rfl, cond_true] at ha
        cases ha
        rw [zfv_l (by rw [g1]; exact k2)]
        exact kk ad H locs ls zext.rf X hl ho (List.forall_mem_cons.mpr ⟨hok.2.2.1 k2, h2⟩)
      · rw [zbq k2, cond_false] at ha
        obtain ⟨hfl, ha⟩ := zbif ha
        cases ha
        have e9 : zfv ph ad (s r.1 r.2) r bb = .ref (ad (zrg a.toNat bb) r.2) := by
          unfold zfv
          rw [g1, zbln (show zfk a.toNat bb > 1 by omega), zbq k2, hfl]
          rfl
        rw [e9]
        refine kk ad H locs ls zext.rf X hl ho (List.forall_mem_cons.mpr ⟨?_, h2⟩)
        left
        have h8 := hok.2.2.2 (by have := zfk_le a.toNat bb; omega) (by
          rw [Bool.or_eq_true, decide_eq_true_eq] at hfl
          exact hfl)
        unfold ztr at h8
        rw [zbl g2, cond_true, g1] at h8
        exact h8
  · cases ha
theorem zs_putfield {idx : Nat} (C : zCt p R s0 M args meth c mm D dA A) (T : zSt ad A L xs s0 s0.heap) (X : zAt ph D dA A L xs s0.heap ad s H locs) (hl : zLr ad ls (znl mm) al) (ho : ∀ v ∈ al, zov (zcnt s) v) (hs : ∀ v ∈ st, zov (zcnt s) v) (hz : zi mm pc = some (.putfield idx, len, a, bb)) (ha : zact ph mm pc al st s (.putfield idx) a bb = some (pc', al', st', s')) (hn : n0 ≤ zcnt s) (hRc : zcnt s' - n0 ≤ R.cells) (hRs : zsl (zcnt s') - zsl n0 ≤ R.slots)
    (kk : zKt p l e R s0 M args below meth c Q ph D dA A L xs mm n0 s ad pc' al' st' s') : W p l e R s0 M args below meth c H locs (zcnt s - n0) (zsl (zcnt s) - zsl n0) Q (F0 M pc ls (st.map (zcv ad))) := by
  obtain ⟨hx, hb, hml, hown, hts, hnm, hfr, hlo, hK, hNw, hA, hAO⟩ := C
  have hd := z_dec hz
  have e2 := z_ec2 hz
  obtain rfl : len = 3 := z_len hz (by intros; intro z; cases z)
  obtain ⟨f1, f2, f3, f4⟩ := z_fl e2
  dsimp only [zact] at ha
  unfold zputf at ha
  split at ha
  · rename_i v r t
    obtain ⟨hg, ha⟩ := zbif ha
    simp only [Bool.and_eq_true] at hg
    have g1 := zbt hg.1.1.1
    have g2 := zlt' hg.1.1.2
    have g3 := zlt' hg.1.2
    have g4 := hg.2
    obtain ⟨hv1, h1⟩ := List.forall_mem_cons.mp hs
    obtain ⟨hr, h2⟩ := List.forall_mem_cons.mp h1
    obtain ⟨q, q1, q2, q3⟩ := z_live hr (by omega)
    have hob := zobj r.1 (by omega)
    have key : ∀ (x : Int) (ty : FieldType), zty a.toNat bb = ty → narrow ty (zcv ad v) = zcv ad v → fits ty (zcv ad v) = true → zso ph (zcnt s) r bb x → zfv ph ad (zup s r.1 r.2 bb x r.1 r.2) r bb = zcv ad v → some (pc + 3, al, t, zup s r.1 r.2 bb x) = some (pc', al', st', s') →
        W p l e R s0 M args below meth c H locs (zcnt s - n0) (zsl (zcnt s) - zsl n0) Q (F0 M pc ls ((v :: .inr (.inr (.inl r)) :: t).map (zcv ad))) := by
      intro x ty hty hn9 hf9 hso hz9 hh
      cases hh
      have hc : zcnt (zup s r.1 r.2 bb x) = zcnt s := zcnt_up (by omega)
      have hset : ((List.range (lg r.1)).map (zfv ph ad (s r.1 r.2) r)).set bb (zcv ad v) = (List.range (lg r.1)).map (zfv ph ad (zup s r.1 r.2 bb x r.1 r.2) r) := by
        refine zset_map (by omega) hz9 (fun j hj hne => ?_)
        unfold zfv
        rw [zup_at, if_neg (by omega)]
      have fin : ∀ (H1 : Heap) (locs1 : List Loc), va_P D vwCl ((zws ph dA ad s).set q (ad r.1 r.2, .inr (tg r.1, ((List.range (lg r.1)).map (zfv ph ad (s r.1 r.2) r)).set bb (zcv ad v)))) H1 → va_D A ((zws ph dA ad s).set q (ad r.1 r.2, .inr (tg r.1, ((List.range (lg r.1)).map (zfv ph ad (s r.1 r.2) r)).set bb (zcv ad v)))) → va_S A s0.heap H1 locs1 → W p l e R s0 M args below meth c H1 locs1 (zcnt s - n0) (zsl (zcnt s) - zsl n0) Q (F0 M (pc + 3) ls (st'.map (zcv ad))) := by
        intro H1 locs1 hP hD hS
        have hw : (zws ph dA ad s).set q (ad r.1 r.2, .inr (tg r.1, ((List.range (lg r.1)).map (zfv ph ad (s r.1 r.2) r)).set bb (zcv ad v))) = zws ph dA ad (zup s r.1 r.2 bb x) := by
          refine zws_set X.2.2.2.1.1 q1 q3 hc (fun r' hr' _ => zup_row (fun z => hr' z)) zg_le' ?_
          unfold zcell
          rw [zbl g2, cond_true, hset]
        rw [hw] at hP hD
        have := kk ad H1 locs1 ls zext.rf ⟨hP, hD, hS, zoks_up X.2.2.2.1 q3 q1 hso (by omega), zsta_up X.2.2.2.2 (by omega)⟩ hl (by rw [hc]; exact ho) (by rw [hc]; exact h2)
        rw [hc] at this
        exact this
      by_cases hfin : zfin a.toNat bb = true
      · rw [hfin] at g4
        simp only [Bool.not_true, Bool.false_or, Bool.and_eq_true] at g4
        have k1 := zbt g4.1
        have k2 := zbt g4.2
        refine va_putF (A := A) (H0 := s0.heap) hx hb hts (zhin (tg r.1) hob.1) (zty (tg r.1)) (zhty (tg r.1) hob.1) (zhnm (tg r.1) hob.1) hown hK X.1 X.2.1 X.2.2.1 q (zws_obj q1 q3 g2) (zvw (tg r.1) hob.1) bb (by rw [← hob.2]; omega) (hts _ (by rw [g1]; exact f3)) (fun _ h9 => h9) (by rw [g1]; exact hfin) (by rw [hnm k1]; exact zk_ctor hz k1) (by rw [g1, f4, k2]) (ty := ty) (zhty (tg r.1) hob.1 bb (by rw [← hob.2]; omega) |>.trans (by rw [g1, hty])) hn9 hf9 (by rw [List.length_map, List.length_range]; omega) hd fin
      · have hfin : zfin a.toNat bb = false := by cases h : zfin a.toNat bb with | true => exact absurd h hfin | false => rfl
        refine va_put (A := A) (H0 := s0.heap) hx hb hts (zhin (tg r.1) hob.1) (zty (tg r.1)) (zhty (tg r.1) hob.1) (zhnm (tg r.1) hob.1) hown hK X.1 X.2.1 X.2.2.1 q (zws_obj q1 q3 g2) (zvw (tg r.1) hob.1) bb (by rw [← hob.2]; omega) (hts _ (by rw [g1]; exact f3)) (fun _ h9 => h9) (by rw [g1]; exact hfin) (ty := ty) (zhty (tg r.1) hob.1 bb (by rw [← hob.2]; omega) |>.trans (by rw [g1, hty])) hn9 hf9 (by rw [List.length_map, List.length_range]; omega) hd fin
    have hsk : zsk r.1 bb = zfk a.toNat bb := by rw [zsk_o g2, g1]
    rcases v with x | x | w | u
    · dsimp only at ha
      by_cases k0 : zfk a.toNat bb = 0
      · rw [show Nat.beq (zfk a.toNat bb) 0 = true by rw [k0]; rfl, cond_true] at ha
        exact key x .int (zfk_ty.1 k0) rfl rfl ⟨fun _ => hv1, fun h => by rw [hsk] at h; omega, fun h => by rw [hsk] at h; omega, fun h => by rw [hsk] at h; omega⟩ (by rw [zfv_i (by rw [g1]; omega), zup_at, if_pos rfl]; rfl) ha
      · rw [zbq k0, cond_false] at ha
        obtain ⟨k1, ha⟩ := zbif ha
        have k1 := zbt k1
        obtain ⟨hb1, ha⟩ := zif ha
        exact key x .boolean (zfk_ty.2.1 k1) (znb hb1).1 (znb hb1).2 ⟨fun h => by rw [hsk] at h; omega, fun _ => hb1, fun h => by rw [hsk] at h; omega, fun h => by rw [hsk] at h; omega⟩ (by rw [zfv_i (by rw [g1]; omega), zup_at, if_pos rfl]; rfl) ha
    · dsimp only at ha
      obtain ⟨k2, ha⟩ := zbif ha
      have k2 := zbt k2
      exact key x .long (zfk_ty.2.2 k2) rfl rfl ⟨fun h => by rw [hsk] at h; omega, fun h => by rw [hsk] at h; omega, fun _ => hv1, fun h => by rw [hsk] at h; omega⟩ (by rw [zfv_l (by rw [g1]; omega), zup_at, if_pos rfl]; rfl) ha
    · dsimp only at ha
      obtain ⟨k3, ha⟩ := zbif ha
      simp only [Bool.and_eq_true, decide_eq_true_eq] at k3
      have k4 := zbt k3.1.2
      have hw := k3.2
      have hph : ph = false := by cases ph with | true => cases k3.1.1 | false => rfl
      have hlive : zlv (zcnt s) w := by
        obtain ⟨qw, w1, w2, w3⟩ := z_live hv1 (by rw [hw]; exact zrg_le _ _)
        exact ⟨qw, w1, w2, w3⟩
      refine key 1 (zty a.toNat bb) rfl ?_ ?_ ⟨fun h => by rw [hsk] at h; omega, fun h => by rw [hsk] at h; omega, fun h => by rw [hsk] at h; omega, fun _ _ => ?_⟩ ?_ ha
      · exact (zfk_3 k4 f1 f2 (ad w.1 w.2)).1
      · exact (zfk_3 k4 f1 f2 (ad w.1 w.2)).2
      · unfold ztr
        rw [zbl g2, cond_true, g1, ← hw]
        exact hlive
      · unfold zfv
        rw [g1, k4, zup_at, if_pos rfl, hw, hph]
        rfl
    · cases ha
  · cases ha
end ZS2

theorem zfv_z {ad ad' : Nat → Int → Nat} {r : Nat × Int} (k : Nat) : zfv false ad (fun _ => 0) r k = zfv false ad' (fun _ => 0) r k := rfl
theorem zdv : ∀ c, c < 12 → ∀ k, k < lg c → defaultValue (zty c k) = (bif Nat.ble (zfk c k) 1 then Value.int 0 else bif Nat.beq (zfk c k) 2 then Value.long 0 else Value.null) := by decide +kernel
theorem zkia (c : Nat) (h : c < 12) : Cond.instantiable (zcl c) (lg c) ∈ zgw ∧ Cond.initialized (zcl c) ∈ zgw := by
  have := List.all_eq_true.mp zk_i_all c (List.mem_range.mpr h)
  unfold zk_i at this
  simp only [Bool.and_eq_true, decide_eq_true_eq] at this
  exact ⟨List.mem_filter.mpr ⟨this.1.1.1, this.1.1.2⟩, List.mem_filter.mpr ⟨this.1.2, this.2⟩⟩
theorem ztg98 : ∀ k, k < 115 → tg (zn k).1 ≠ 98 ∧ (12 < (zn k).1 → 20 ≤ tg (zn k).1) ∧ (20 ≤ tg (zn k).1 → 12 < (zn k).1) := by decide +kernel
theorem zfl_min : ∀ m, m < 189 → 1 ≤ zfr m ∧ 60 ≤ zlo m := by decide +kernel
theorem zao_in : ∀ t ∈ zarr, 30 ≤ t → Cond.arrayOver (.object (zcl (t - 30))) ∈ zbw := by
  intro t ht h
  have key : (zarr.all (fun t => decide (t < 30) || decide (Cond.arrayOver (.object (zcl (t - 30))) ∈ lw_tbl))) = true := by decide +kernel
  have := List.all_eq_true.mp key t ht
  rw [Bool.or_eq_true, decide_eq_true_eq, decide_eq_true_eq] at this
  rcases this with h1 | h1
  · omega
  · exact List.mem_filter.mpr ⟨h1, rfl⟩
theorem zcl_ra {U : State} {ty : FieldType} {c1 c2 : ClassId} (h1 : va_RA U c1 ty) (h2 : va_RA U c2 ty) : c1 = c2 := by
  cases ty with
  | object C =>
    obtain ⟨_, _, _, _, _, e1⟩ := h1
    obtain ⟨_, _, _, _, _, e2⟩ := h2
    exact Option.some.inj (e1.symm.trans e2)
  | _ => exact Option.some.inj (Eq.trans (Eq.symm h1) h2)
theorem zlast {α : Type} (l : List α) (x : α) : (l ++ [x])[l.length]? = some x := by simp
theorem zite {n : Nat} {c : Prop} [Decidable c] {a b : Int} (ha : zov n (.inl a)) (hb : zov n (.inl b)) : zov n (.inl (if c then a else b)) := by
  by_cases h : c
  · rw [if_pos h]; exact ha
  · rw [if_neg h]; exact hb
theorem zitel {n : Nat} {c : Prop} [Decidable c] {a b : Int} (ha : zov n (.inr (.inl a))) (hb : zov n (.inr (.inl b))) : zov n (.inr (.inl (if c then a else b))) := by
  by_cases h : c
  · rw [if_pos h]; exact ha
  · rw [if_neg h]; exact hb
section ZS5
variable {p : Program} {l : Launch} {e : Env} {R : Room} {s0 : State} {M : MethodId} {args : Array Value} {below : List Frame} {meth : Method} {c : Code} {Q : State → Prop}
variable {ph : Bool} {D : va_G} {dA : Nat → ClassId} {A : Nat → Prop} {L : Nat} {xs : Nat → Int32} {mm n0 pc pc' len bb : Nat} {a : Int} {i : Instr} {ad : Nat → Int → Nat} {s s' : zS} {H : Heap} {locs : List Loc} {ls : Array Slot} {al al' st st' : List zV}
theorem zs_new {idx : Nat} (C : zCt p R s0 M args meth c mm D dA A) (T : zSt ad A L xs s0 s0.heap) (X : zAt ph D dA A L xs s0.heap ad s H locs) (hl : zLr ad ls (znl mm) al) (ho : ∀ v ∈ al, zov (zcnt s) v) (hs : ∀ v ∈ st, zov (zcnt s) v) (hz : zi mm pc = some (.new idx, len, a, bb)) (ha : zact ph mm pc al st s (.new idx) a bb = some (pc', al', st', s')) (hn : n0 ≤ zcnt s) (hRc : zcnt s' - n0 ≤ R.cells) (hRs : zsl (zcnt s') - zsl n0 ≤ R.slots)
    (kk : zKt p l e R s0 M args below meth c Q ph D dA A L xs mm n0 s ad pc' al' st' s') : W p l e R s0 M args below meth c H locs (zcnt s - n0) (zsl (zcnt s) - zsl n0) Q (F0 M pc ls (st.map (zcv ad))) := by
  obtain ⟨hx, hb, hml, hown, hts, hnm, hfr, hlo, hK, hNw, hA, hAO⟩ := C
  have hd := z_dec hz
  have e2 := z_ec2 hz
  obtain rfl : len = 3 := z_len hz (by intros; intro z; cases z)
  dsimp only [zact] at ha
  cases hal : zalloc ph s a.toNat (lg a.toNat : Int) with
  | none => rw [hal] at ha; cases ha
  | some w =>
    obtain ⟨g, ix, s9⟩ := w
    rw [hal] at ha
    obtain ⟨hg, ha⟩ := zbif ha
    have hg := zlt' hg
    obtain ⟨hph, hN, hz9, htg, hlen, hg2, hs9⟩ := zal hal
    subst hph
    cases ha
    obtain ⟨n1, n2⟩ := z_nc e2
    have hob := zobj g (by omega)
    have hlg : lg g = lg a.toNat := by rw [hob.2, htg]
    have hc : zcnt s' = zcnt s + 1 := by rw [hs9]; exact zal_cnt
    have hm := zsl_mono hn
    have hsl : zsl (zcnt s + 1) = zsl (zcnt s) + lg g := by
      show zsl (zcnt s) + lg (zn (zcnt s)).1 = _
      rw [show (zn (zcnt s)).1 = g from congrArg Prod.fst hz9]
    rw [hc] at hRc hRs
    rw [hsl] at hRs
    refine va_new (ci := a.toNat) (fs := (List.range (lg g)).map (zfv false ad (fun _ => 0) (g, ix))) (C := zcl a.toNat) (T := zTc a.toNat) (N := lg a.toNat) hx hb hts (zhin _ n2) (zty a.toNat) (zhty _ n2) hown (hts _ n1) (hts _ (zkia _ n2).1) (hts _ (zkia _ n2).2) hK X.1 X.2.1 X.2.2.1 hA (zvw _ n2) ?_ (by omega) (by omega) hd (fun q H1 hP hD hS => ?_)
    · intro j hj
      unfold vp_V
      rw [List.getD_eq_getElem?_getD, List.getElem?_map, List.getElem?_range (by omega), zdv _ n2 j hj]
      show _ = zfv false ad (fun _ => 0) (g, ix) j
      unfold zfv
      rw [show tg (g, ix).1 = a.toNat from htg]
      rfl
    · rw [← hlg]
      refine z_alloced X hl ho hs hn hN hz9 hg2 hs9 kk ?_ hP hD hS
      unfold zcell
      rw [zbl (show (g, ix).1 ≤ 12 from hg), cond_true, show tg (g, ix).1 = a.toNat from htg]
      rfl
theorem zs_newarray {t : ArrayType} (C : zCt p R s0 M args meth c mm D dA A) (T : zSt ad A L xs s0 s0.heap) (X : zAt ph D dA A L xs s0.heap ad s H locs) (hl : zLr ad ls (znl mm) al) (ho : ∀ v ∈ al, zov (zcnt s) v) (hs : ∀ v ∈ st, zov (zcnt s) v) (hz : zi mm pc = some (.newarray t, len, a, bb)) (ha : zact ph mm pc al st s (.newarray t) a bb = some (pc', al', st', s')) (hn : n0 ≤ zcnt s) (hRc : zcnt s' - n0 ≤ R.cells) (hRs : zsl (zcnt s') - zsl n0 ≤ R.slots)
    (kk : zKt p l e R s0 M args below meth c Q ph D dA A L xs mm n0 s ad pc' al' st' s') : W p l e R s0 M args below meth c H locs (zcnt s - n0) (zsl (zcnt s) - zsl n0) Q (F0 M pc ls (st.map (zcv ad))) := by
  obtain ⟨hx, hb, hml, hown, hts, hnm, hfr, hlo, hK, hNw, hA, hAO⟩ := C
  have hd := z_dec hz
  have e2 := z_ec2 hz
  obtain rfl : len = 2 := z_len hz (by intros; intro z; cases z)
  dsimp only [zact] at ha
  split at ha
  · rename_i n r
    split at ha
    · rename_i g ix s9 hal
      obtain ⟨hph, hN, hz9, htg, hlen, hg2, hs9⟩ := zal hal
      subst hph
      cases ha
      obtain ⟨hn1, h2⟩ := List.forall_mem_cons.mp hs
      have ez : (zn (zcnt s)).1 = g := congrArg Prod.fst hz9
      obtain ⟨f1, f2, f3⟩ := ztg98 (zcnt s) hN
      rw [ez] at f1 f2 f3
      have hc : zcnt s' = zcnt s + 1 := by rw [hs9]; exact zal_cnt
      have hm := zsl_mono hn
      have hsl : zsl (zcnt s + 1) = zsl (zcnt s) + lg g := by
        show zsl (zcnt s) + lg (zn (zcnt s)).1 = _
        rw [ez]
      rw [hc] at hRc hRs
      rw [hsl] at hRs
      have hsm := zlg_small (zcnt s) hN
      rw [ez] at hsm
      have key : ∀ (ty : FieldType) (a0 : vp_A), newarray.typeOf t = ty → 20 ≤ tg g → Cond.arrayClass ty ∈ zgw → zat (tg g) = ty → componentBytes ty ≤ 8 → (∀ cA : ClassId, vp_cell cA a0 = arrV cA (lg g) (fun _ => defaultValue ty)) → (∀ q, a0 = (lg g, zar false (zad ad g ix q) (fun _ => 0) (g, ix))) →
          W p l e R s0 M args below meth c H locs (zcnt s - n0) (zsl (zcnt s) - zsl n0) Q (F0 M pc ls ((Sum.inl n :: r).map (zcv ad))) := by
        intro ty a0 h1 h2' h3 h4 hcb h5 h6
        have g12 := f3 h2'
        obtain ⟨z1, z2, z3, z4⟩ := zarr_f hN hz9 g12
        obtain ⟨t0, ht0⟩ := ztys_at (dA := dA) z2
        have hmul : lg g * componentBytes ty ≤ 10000 * 8 := Nat.mul_le_mul (by omega) hcb
        refine va_newa (N' := lg g) (a0 := a0) hx hb (by rw [h1]; exact hts _ h3) h1 hK X.1 X.2.1 X.2.2.1 hA h5 (zn_neg (by omega) (by omega)) (by rw [zn_cl (by omega) (by omega)]; omega) (by omega) (by omega) (by omega) hd (fun q cA H1 hK2 hP hD hS => ?_)
        have e1 := (hK2.2 _ _ (zlast (ztys dA) (cA, ty))).2
        have e3 := (hK.2 t0 _ ht0).2
        dsimp only at e1 e3
        rw [show zat (tg (g, ix).1) = ty from h4] at e3
        have e4 := zcl_ra e1 e3
        refine z_alloced X hl ho h2 hn hN hz9 hg2 hs9 kk ?_ hP hD hS
        unfold zcell
        rw [zbln (show 12 < (g, ix).1 from g12), cond_false, e4, h6 q]
      cases t with
      | int =>
        have htg : tg g = 20 := htg
        exact key .int (lg g, .inl (fun _ => 0)) rfl (by omega) (zk_w_in _ (by decide +kernel)) (by rw [htg]; rfl) (by decide) (fun cA => rfl) (fun q => by rw [zar_i (by unfold zak; rw [show tg (g, ix).1 = 20 from htg, zbq (show (g, ix).1 ≠ 110 by show g ≠ 110; omega), zbq (show (g, ix).1 ≠ 108 by show g ≠ 108; omega), zbq (show (g, ix).1 ≠ 109 by show g ≠ 109; omega)]; decide)]; rfl)
      | boolean =>
        have htg : tg g = 21 := htg
        exact key .boolean (lg g, .inl (fun _ => 0)) rfl (by omega) (zk_w_in _ (by decide +kernel)) (by rw [htg]; rfl) (by decide) (fun cA => rfl) (fun q => by rw [zar_i (by unfold zak; rw [show tg (g, ix).1 = 21 from htg, zbq (show (g, ix).1 ≠ 110 by show g ≠ 110; omega), zbq (show (g, ix).1 ≠ 108 by show g ≠ 108; omega), zbq (show (g, ix).1 ≠ 109 by show g ≠ 109; omega)]; decide)]; rfl)
      | long =>
        have htg : tg g = 22 := htg
        exact key .long (lg g, .inr (.inl (fun _ => 0))) rfl (by omega) (zk_w_in _ (by decide +kernel)) (by rw [htg]; rfl) (by decide) (fun cA => rfl) (fun q => by rw [zar_l (by unfold zak; rw [show tg (g, ix).1 = 22 from htg, zbq (show (g, ix).1 ≠ 110 by show g ≠ 110; omega), zbq (show (g, ix).1 ≠ 108 by show g ≠ 108; omega), zbq (show (g, ix).1 ≠ 109 by show g ≠ 109; omega)]; decide)]; rfl)
      | char => exact absurd htg f1
      | float => exact absurd htg f1
      | double => exact absurd htg f1
      | byte => exact absurd htg f1
      | short => exact absurd htg f1
    · cases ha
  · cases ha
theorem zs_anewarray {idx : Nat} (C : zCt p R s0 M args meth c mm D dA A) (T : zSt ad A L xs s0 s0.heap) (X : zAt ph D dA A L xs s0.heap ad s H locs) (hl : zLr ad ls (znl mm) al) (ho : ∀ v ∈ al, zov (zcnt s) v) (hs : ∀ v ∈ st, zov (zcnt s) v) (hz : zi mm pc = some (.anewarray idx, len, a, bb)) (ha : zact ph mm pc al st s (.anewarray idx) a bb = some (pc', al', st', s')) (hn : n0 ≤ zcnt s) (hRc : zcnt s' - n0 ≤ R.cells) (hRs : zsl (zcnt s') - zsl n0 ≤ R.slots)
    (kk : zKt p l e R s0 M args below meth c Q ph D dA A L xs mm n0 s ad pc' al' st' s') : W p l e R s0 M args below meth c H locs (zcnt s - n0) (zsl (zcnt s) - zsl n0) Q (F0 M pc ls (st.map (zcv ad))) := by
  obtain ⟨hx, hb, hml, hown, hts, hnm, hfr, hlo, hK, hNw, hA, hAO⟩ := C
  have hd := z_dec hz
  have e2 := z_ec2 hz
  obtain rfl : len = 3 := z_len hz (by intros; intro z; cases z)
  dsimp only [zact] at ha
  split at ha
  · rename_i n r
    cases hal : zalloc ph s (30 + a.toNat) n with
    | none => rw [hal] at ha; cases ha
    | some w =>
      obtain ⟨g, ix, s9⟩ := w
      rw [hal] at ha
      obtain ⟨hph, hN, hz9, htg, hlen, hg2, hs9⟩ := zal hal
      subst hph
      cases ha
      obtain ⟨n1, n2⟩ := z_nc e2
      obtain ⟨hn1, h2⟩ := List.forall_mem_cons.mp hs
      have ez : (zn (zcnt s)).1 = g := congrArg Prod.fst hz9
      obtain ⟨f1, f2, f3⟩ := ztg98 (zcnt s) hN
      rw [ez] at f1 f2 f3
      have hc : zcnt s' = zcnt s + 1 := by rw [hs9]; exact zal_cnt
      have hm := zsl_mono hn
      have hsl : zsl (zcnt s + 1) = zsl (zcnt s) + lg g := by
        show zsl (zcnt s) + lg (zn (zcnt s)).1 = _
        rw [ez]
      rw [hc] at hRc hRs
      rw [hsl] at hRs
      have hsm := zlg_small (zcnt s) hN
      rw [ez] at hsm
      have g12 := f3 (by omega)
      obtain ⟨z1, z2, z3, z4⟩ := zarr_f hN hz9 g12
      obtain ⟨t0, ht0⟩ := ztys_at (dA := dA) z2
      have hover := hNw _ (zao_in (tg (g, ix).1) z2 (by show 30 ≤ tg g; omega))
      have etg : tg (g, ix).1 - 30 = a.toNat := by show tg g - 30 = _; omega
      rw [etg] at hover z3
      have hak : zak (g, ix).1 = 3 := by
        show zak g = 3
        unfold zak
        rw [zbq (show g ≠ 110 by omega), zbq (show g ≠ 108 by omega), zbq (show g ≠ 109 by omega), htg, zbq (show 30 + a.toNat ≠ 20 by omega), zbq (show 30 + a.toNat ≠ 21 by omega), zbq (show 30 + a.toNat ≠ 22 by omega), zbln (show 28 < 30 + a.toNat by omega)]
        have h39 : ∀ t ∈ zarr, t ≤ 39 := by decide
        rw [zbl (show 30 + a.toNat ≤ 39 by have := h39 _ z2; have e : tg (g, ix).1 = 30 + a.toNat := htg; omega)]
        rfl
      have hg43 : (g, ix).1 ≠ 43 := by
        intro z
        have : tg 43 = 29 := by decide
        have e : tg (g, ix).1 = 30 + a.toNat := htg
        rw [z] at e
        omega
      rw [if_neg (by omega), if_neg (by omega), if_neg (by omega), if_neg hg43] at z3
      refine va_newq (N' := lg g) hx hb hown (hts _ n1) hover hK X.1 X.2.1 X.2.2.1 hA (zn_neg (by omega) (by omega)) (by rw [zn_cl (by omega) (by omega)]; omega) (by omega) (by omega) (by omega) hd (fun q cA H1 hK2 hP hD hS => ?_)
      have e1 := (hK2.2 _ _ (zlast (ztys dA) (cA, FieldType.object (zcl a.toNat)))).2
      have e3 := (hK.2 t0 _ ht0).2
      dsimp only at e1 e3
      rw [z3] at e3
      have e4 := zcl_ra e1 e3
      refine z_alloced X hl ho h2 hn hN hz9 hg2 hs9 kk ?_ hP hD hS
      unfold zcell
      rw [zbln (show 12 < (g, ix).1 from g12), cond_false, e4, zar_q hak]
      rfl
  · cases ha
theorem zs_invokespecial {idx : Nat} (C : zCt p R s0 M args meth c mm D dA A) (T : zSt ad A L xs s0 s0.heap) (X : zAt ph D dA A L xs s0.heap ad s H locs) (hl : zLr ad ls (znl mm) al) (ho : ∀ v ∈ al, zov (zcnt s) v) (hs : ∀ v ∈ st, zov (zcnt s) v) (hz : zi mm pc = some (.invokespecial idx, len, a, bb)) (ha : zact ph mm pc al st s (.invokespecial idx) a bb = some (pc', al', st', s')) (hn : n0 ≤ zcnt s) (hRc : zcnt s' - n0 ≤ R.cells) (hRs : zsl (zcnt s') - zsl n0 ≤ R.slots)
    (kk : zKt p l e R s0 M args below meth c Q ph D dA A L xs mm n0 s ad pc' al' st' s') : W p l e R s0 M args below meth c H locs (zcnt s - n0) (zsl (zcnt s) - zsl n0) Q (F0 M pc ls (st.map (zcv ad))) := by
  obtain ⟨hx, hb, hml, hown, hts, hnm, hfr, hlo, hK, hNw, hA, hAO⟩ := C
  have hd := z_dec hz
  have e2 := z_ec2 hz
  obtain rfl : len = 3 := z_len hz (by intros; intro z; cases z)
  have h9 := zfl_min mm (z_lt hz)
  dsimp only [zact] at ha
  split at ha
  · rename_i r t
    obtain ⟨hk, ha⟩ := zbif ha
    rw [Bool.and_eq_true, decide_eq_true_eq] at hk
    cases ha
    have hw := zlt' hk.2
    obtain ⟨hr, h2⟩ := List.forall_mem_cons.mp hs
    have e3 : zlkc mm idx a bb = true := (Bool.and_eq_true_iff.mp e2).1
    have hlk := (z_lkX e3 900 hk.1 (by decide)).1 rfl
    refine W.objInit hx hb hown (hts _ hlk) (hts _ (zk_w_in _ (by decide +kernel))) (hts _ (zk_w_in _ (by decide +kernel))) rfl (by rw [hml]; exact hl.1) rfl hd (by omega) ?_ (kk ad H locs ls zext.rf X hl ho h2)
    have := lv_room (m := M) (pc := pc) (ls := ls) (rest := (Sum.inr (Sum.inr (Sum.inl r)) :: st').map (zcv ad)) (st := st'.map (zcv ad)) (by rw [zwsum_cv]; exact hw)
    omega
  · cases ha
theorem zs_invokestatic {idx : Nat} (C : zCt p R s0 M args meth c mm D dA A) (T : zSt ad A L xs s0 s0.heap) (X : zAt ph D dA A L xs s0.heap ad s H locs) (hl : zLr ad ls (znl mm) al) (ho : ∀ v ∈ al, zov (zcnt s) v) (hs : ∀ v ∈ st, zov (zcnt s) v) (hz : zi mm pc = some (.invokestatic idx, len, a, bb)) (ha : zact ph mm pc al st s (.invokestatic idx) a bb = some (pc', al', st', s')) (hn : n0 ≤ zcnt s) (hRc : zcnt s' - n0 ≤ R.cells) (hRs : zsl (zcnt s') - zsl n0 ≤ R.slots)
    (kk : zKt p l e R s0 M args below meth c Q ph D dA A L xs mm n0 s ad pc' al' st' s') : W p l e R s0 M args below meth c H locs (zcnt s - n0) (zsl (zcnt s) - zsl n0) Q (F0 M pc ls (st.map (zcv ad))) := by
  obtain ⟨hx, hb, hml, hown, hts, hnm, hfr, hlo, hK, hNw, hA, hAO⟩ := C
  have hd := z_dec hz
  have e2 := z_ec2 hz
  obtain rfl : len = 3 := z_len hz (by intros; intro z; cases z)
  have h9 := zfl_min mm (z_lt hz)
  have e3 : zlkc mm idx a bb = true := (Bool.and_eq_true_iff.mp e2).1
  dsimp only [zact] at ha
  have hls : c.maxLocals = ls.size := by rw [hml]; exact hl.1.symm
  by_cases a2 : a = 902
  · rw [decide_eq_true a2, cond_true] at ha
    split at ha
    · rename_i y x t
      obtain ⟨hk, ha⟩ := zbif ha
      cases ha
      have hw := zlt' hk
      obtain ⟨hy, h1⟩ := List.forall_mem_cons.mp hs
      obtain ⟨hx1, h2⟩ := List.forall_mem_cons.mp h1
      refine va_mmax hx hb hls hown (hts _ ((z_lkX e3 902 a2 (by decide)).2.2.1 rfl)) (hts _ (zk_w_in _ (by decide +kernel))) (hts _ (zk_w_in _ (by decide +kernel))) (hts _ (zk_w_in _ (by decide +kernel))) (by omega) (by rw [zwsum_cv]; omega) hRc hRs hd ?_
      have hk9 := kk ad H locs ls zext.rf X hl ho (List.forall_mem_cons.mpr ⟨zite hy hx1, h2⟩)
      rw [List.map_cons, show zcv ad (.inl (if x < y then y else x)) = .int (if Int32.ofInt x < Int32.ofInt y then Int32.ofInt y else Int32.ofInt x) by
        show Value.int _ = _
        have q := zn_lt hx1.1 hx1.2 hy.1 hy.2
        by_cases q1 : x < y
        · rw [if_pos q1, if_pos (q.mpr q1)]
        · rw [if_neg q1, if_neg (fun z => q1 (q.mp z))]] at hk9
      exact hk9
    · cases ha
  · rw [decide_eq_false a2, cond_false] at ha
    by_cases a3 : a = 903
    · rw [decide_eq_true a3, cond_true] at ha
      split at ha
      · rename_i y x t
        obtain ⟨hk, ha⟩ := zbif ha
        cases ha
        have hw := zlt' hk
        obtain ⟨hy, h1⟩ := List.forall_mem_cons.mp hs
        obtain ⟨hx1, h2⟩ := List.forall_mem_cons.mp h1
        refine va_mmin hx hb hls hown (hts _ ((z_lkX e3 903 a3 (by decide)).2.2.2.1 rfl)) (hts _ (zk_w_in _ (by decide +kernel))) (hts _ (zk_w_in _ (by decide +kernel))) (hts _ (zk_w_in _ (by decide +kernel))) (by omega) (by rw [zwsum_cv]; omega) hRc hRs hd ?_
        have hk9 := kk ad H locs ls zext.rf X hl ho (List.forall_mem_cons.mpr ⟨zite hy hx1, h2⟩)
        rw [List.map_cons, show zcv ad (.inl (if y < x then y else x)) = .int (if Int32.ofInt y < Int32.ofInt x then Int32.ofInt y else Int32.ofInt x) by
          show Value.int _ = _
          have q := zn_lt hy.1 hy.2 hx1.1 hx1.2
          by_cases q1 : y < x
          · rw [if_pos q1, if_pos (q.mpr q1)]
          · rw [if_neg q1, if_neg (fun z => q1 (q.mp z))]] at hk9
        exact hk9
      · cases ha
    · rw [decide_eq_false a3, cond_false] at ha
      by_cases a4 : a = 904
      · rw [decide_eq_true a4, cond_true] at ha
        split at ha
        · rename_i y x t
          obtain ⟨hk, ha⟩ := zbif ha
          cases ha
          have hw := zlt' hk
          obtain ⟨hy, h1⟩ := List.forall_mem_cons.mp hs
          obtain ⟨hx1, h2⟩ := List.forall_mem_cons.mp h1
          refine va_mmin_long hx hb hls hown (hts _ ((z_lkX e3 904 a4 (by decide)).2.2.2.2 rfl)) (hts _ (zk_w_in _ (by decide +kernel))) (hts _ (zk_w_in _ (by decide +kernel))) (hts _ (zk_w_in _ (by decide +kernel))) (by omega) (by rw [zwsum_cv]; omega) hRc hRs hd ?_
          have hk9 := kk ad H locs ls zext.rf X hl ho (List.forall_mem_cons.mpr ⟨zitel hy hx1, h2⟩)
          rw [List.map_cons, show zcv ad (.inr (.inl (if y < x then y else x))) = .long (if Int64.ofInt y < Int64.ofInt x then Int64.ofInt y else Int64.ofInt x) by
            show Value.long _ = _
            have q := zn_llt hy.1 hy.2 hx1.1 hx1.2
            by_cases q1 : y < x
            · rw [if_pos q1, if_pos (q.mpr q1)]
            · rw [if_neg q1, if_neg (fun z => q1 (q.mp z))]] at hk9
          exact hk9
        · cases ha
      · rw [decide_eq_false a4, cond_false] at ha
        obtain ⟨a1, ha⟩ := zbif ha
        have a1 := decide_eq_true_eq.mp a1
        split at ha
        · rename_i n dp w sp r t _
          obtain ⟨hk, ha⟩ := zbif ha
          have hw := zlt' hk
          obtain ⟨⟨⟨k1, k2, k3, k4⟩, m1, m2, m3, m4, m5⟩, ha⟩ := zif ha
          cases ha
          obtain ⟨hn1, q1⟩ := List.forall_mem_cons.mp hs
          obtain ⟨hdp, q2⟩ := List.forall_mem_cons.mp q1
          obtain ⟨hw1, q3⟩ := List.forall_mem_cons.mp q2
          obtain ⟨hsp, q4⟩ := List.forall_mem_cons.mp q3
          obtain ⟨hr1, q5⟩ := List.forall_mem_cons.mp q4
          obtain ⟨kr, r1, r2, r3⟩ := z_live hr1 k3
          obtain ⟨kw, w1, w2, w3⟩ := z_live hw1 k4
          obtain ⟨g1, g2, g3, ⟨t0, ht0⟩, gi, -, -⟩ := z_arr (dA := dA) (n := 0) r2 r3 (by omega)
          obtain ⟨g4, g5, g6, ⟨t1, ht1⟩, gj, -, -⟩ := z_arr (dA := dA) (n := 0) w2 w3 (by omega)
          rw [zln_g g2] at m4
          rw [zln_g g5] at m5
          have hwr : (zws ph dA ad s)[kr]? = some _ := zws_arr r1 r3 g1
          have hww : (zws ph dA ad s)[kw]? = some _ := zws_arr w1 w3 g4
          rw [zar_i (by omega)] at hwr hww
          rw [gi k1] at ht0
          rw [gj k2] at ht1
          refine va_copyi (A := A) (H0 := s0.heap) hx hb hls hown (hts _ ((z_lkX e3 901 a1 (by decide)).2.1 rfl)) (hts _ (zk_w_in _ (by decide +kernel))) (hts _ (zk_w_in _ (by decide +kernel))) (hts _ (zk_w_in _ (by decide +kernel))) hK X.1 X.2.1 X.2.2.1 kr kw t0 t1 hwr hww ht0 ht1 rfl (zn_neg m1 (by omega)) (zn_neg m2 (by omega)) (zn_neg m3 (by omega)) (by rw [zn_cl m1 (by omega), zn_cl m3 (by omega)]; omega) (by rw [zn_cl m2 (by omega), zn_cl m3 (by omega)]; omega) (fun _ _ => rfl) (by omega) (by rw [zwsum_cv, show nativeFrameWords "java/lang/System" "arraycopy" 5 = 7 by decide]; omega) hd (fun H1 locs1 hP hD hS => ?_)
          rw [zn_cl m1 (by omega), zn_cl m2 (by omega), zn_cl m3 (by omega)] at hP hD
          have hc : zcnt (zcpy s r.1 r.2 sp w.1 w.2 dp n) = zcnt s := by
            unfold zcnt zcpy
            rw [if_neg (fun z => by omega)]
          have hrow : ∀ r' : Nat × Int, r' ≠ w → zcpy s r.1 r.2 sp w.1 w.2 dp n r'.1 r'.2 = s r'.1 r'.2 := fun r' hr' => by
            funext k
            unfold zcpy
            rw [if_neg (fun z => hr' (Prod.ext z.1 z.2.1))]
          have hat : ∀ k : Int, zcpy s r.1 r.2 sp w.1 w.2 dp n w.1 w.2 k = if dp ≤ k ∧ k < dp + n then s r.1 r.2 (sp + (k - dp)) else s w.1 w.2 k := fun k => by
            unfold zcpy
            by_cases e : dp ≤ k ∧ k < dp + n
            · rw [if_pos ⟨rfl, rfl, e⟩, if_pos e]
            · rw [if_neg (fun z => e z.2.2), if_neg e]
          have hws9 : (zws ph dA ad s).set kw (ad w.1 w.2, .inl (dA (tg w.1), lg w.1, .inl (va_cpy (fun j : Nat => Int32.ofInt (s r.1 r.2 j)) (fun j : Nat => Int32.ofInt (s w.1 w.2 j)) sp.toNat dp.toNat n.toNat))) = zws ph dA ad (zcpy s r.1 r.2 sp w.1 w.2 dp n) := by
            refine zws_set X.2.2.2.1.1 w1 w3 hc (fun r' hr' _ => hrow r' hr') zg_le' ?_
            unfold zcell
            rw [zbln g4, cond_false, zar_i (by omega)]
            refine congrArg (fun z => (ad w.1 w.2, Sum.inl (dA (tg w.1), lg w.1, Sum.inl z))) (funext fun k => ?_)
            unfold va_cpy
            rw [hat]
            by_cases e : dp.toNat ≤ k ∧ k < dp.toNat + n.toNat
            · rw [if_pos e, if_pos (by omega)]
              have e5 : ((sp.toNat + (k - dp.toNat) : Nat) : Int) = sp + ((k : Int) - dp) := by omega
              dsimp only
              rw [e5]
            · rw [if_neg e, if_neg (by omega)]
          rw [hws9] at hP hD
          have hX9 : zAt ph D dA A L xs s0.heap ad (zcpy s r.1 r.2 sp w.1 w.2 dp n) H1 locs1 := by
            refine ⟨hP, hD, hS, ⟨by rw [hc]; exact X.2.2.2.1.1, fun k hk' j hj => ?_⟩, ?_⟩
            · rw [hc] at hk' ⊢
              by_cases e : znm k = w
              · rw [e] at hj ⊢
                rw [hat]
                by_cases e5 : dp ≤ (j : Int) ∧ (j : Int) < dp + n
                · rw [if_pos e5]
                  have hso := X.2.2.2.1.2 kr r1 (sp + ((j : Int) - dp)).toNat (by rw [r3]; omega)
                  rw [r3, zc_i (by omega)] at hso
                  unfold zso at hso ⊢
                  rw [zsk_a g1, k1] at hso
                  rw [zsk_a g4, k2]
                  exact ⟨hso.1, fun z => by omega, fun z => by omega, fun z => by omega⟩
                · rw [if_neg e5]
                  have := X.2.2.2.1.2 k hk' j (by rw [e]; exact hj)
                  rw [e] at this
                  exact this
              · rw [hrow _ e]
                exact X.2.2.2.1.2 k hk' j hj
            · refine zsta_of X.2.2.2.2 (fun g' i' k' h1 h2 => ?_)
              unfold zcpy
              rw [if_neg (fun z => by omega)]
          have hk9 := kk ad H1 locs1 ls zext.rf hX9 hl (by rw [hc]; exact ho) (by rw [hc]; exact q5)
          rw [hc] at hk9
          exact hk9
        · cases ha
end ZS5

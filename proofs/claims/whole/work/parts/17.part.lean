section ZPART
variable {ph : Bool} {D : va_G} {dA : Nat → ClassId} {A : Nat → Prop} {L : Nat} {xs : Nat → Int32}
theorem z_call1 (l : Launch) {N : Nat} (ih : zSim l ph D dA A L xs N) {mm pc len b m2 n0 : Nat} {al st argsL rest : List zV} {s s1 : zS} {i : Instr} {a : Int} {v1 : Option zV} {p : Program} {e : Env} {R : Room} {s0 : State} {M : MethodId} {args : Array Value} {below : List Frame} {meth : Method} {c : Code} {Q : State → Prop} {ad : Nat → Int → Nat} {H : Heap} {locs : List Loc} {ls : Array Slot}
    (hz : zi mm pc = some (i, len, a, b)) (hc : zcal i a st = some (m2, argsL, rest)) (hb1 : zbs ph N m2 0 (zpad (znl m2) argsL) [] s = some (v1, s1)) (C : zCt p R s0 M args meth c mm D dA A) (T : zSt ad A L xs s0 s0.heap) (X : zAt ph D dA A L xs s0.heap ad s H locs) (hl : zLr ad ls (znl mm) al) (ho : ∀ v ∈ al, zov (zcnt s) v) (hs : ∀ v ∈ st, zov (zcnt s) v) (hn : n0 ≤ zcnt s) (hRc : zcnt s1 - n0 ≤ R.cells) (hRs : zsl (zcnt s1) - zsl n0 ≤ R.slots)
    (kk : zKt p l e R s0 M args below meth c Q ph D dA A L xs mm n0 s ad (pc + 3) al (v1.toList ++ rest) s1) : W p l e R s0 M args below meth c H locs (zcnt s - n0) (zsl (zcnt s) - zsl n0) Q (F0 M pc ls (st.map (zcv ad))) := by
  have hd := z_dec hz
  have e2 := z_ec2 hz
  have hcC := C
  obtain ⟨hx, hb, hml, hown, hts, hnm, hfr, hlo, hK, hNw, hA, hAO⟩ := C
  have hzm : zmids = 188 := rfl
  have c1 := zbs_cnt N hb1
  have k1 := zsl_mono c1
  have k3 := zsl_mono hn
  have cont : ∀ (u : Nat → Int → Nat) (t : State) (H1 : Heap) (locs1 : List Loc), (∀ w ∈ rest, zov (zcnt s) w) → t.heap = H1 → s0.vm.Alike t.vm → zext (zcnt s) ad u → zBU ph D dA A L xs u s1 t → (∀ w ∈ v1.toList, zov (zcnt s1) w) → va_S A s0.heap H1 locs1 → W p l e R s0 M args below meth c H1 locs1 (zcnt s - n0 + (zcnt s1 - zcnt s)) (zsl (zcnt s) - zsl n0 + (zsl (zcnt s1) - zsl (zcnt s))) Q (F0 M (pc + 3) ls ((v1.map (zcv u)).toList ++ rest.map (zcv ad))) := by
    intro u t H1 locs1 hro ht hvm he hB hvo hS
    have h9 := kk u H1 locs1 ls he ⟨by rw [← ht]; exact hB.1, hB.2.1, hS, hB.2.2.1, hB.2.2.2.1⟩ (hl.ext he ho) (fun w hw => (ho w hw).mono c1) (fun w hw => by
      rcases List.mem_append.mp hw with hw | hw
      · exact hvo w hw
      · exact (hro w hw).mono c1)
    rw [List.map_append, zcv_exts he hro] at h9
    rw [zmap_opt]
    have q1 : zcnt s - n0 + (zcnt s1 - zcnt s) = zcnt s1 - n0 := by omega
    have q2 : zsl (zcnt s) - zsl n0 + (zsl (zcnt s1) - zsl (zcnt s)) = zsl (zcnt s1) - zsl n0 := by omega
    rw [q1, q2]
    exact h9
  have hfc : zcnt s - n0 + (zcnt s1 - zcnt s) ≤ R.cells ∧ zsl (zcnt s) - zsl n0 + (zsl (zcnt s1) - zsl (zcnt s)) ≤ R.slots := by omega
  rcases zcal_f hc with ⟨idx, rfl, hca⟩ | ⟨idx, rfl, hca⟩ | ⟨idx, r, t2, rfl, hca, hargs⟩
  · obtain ⟨a1, a2, a3, a4, a5, a6, a7, a8⟩ := zca_f hca
    obtain ⟨r, t2, hargs, r1, r2⟩ := a8 rfl
    have e5 : (zlkc mm idx a b = true ∧ zrmc mm a = true) ∧ (zkd a.toNat == 0) = true := by
      have : (zlkc mm idx a b && zrmc mm a && zkd a.toNat == 0) = true := e2
      rwa [Bool.and_eq_true, Bool.and_eq_true] at this
    obtain ⟨⟨e6, e7⟩, e8⟩ := e5
    obtain ⟨f1, f2, f3, f4⟩ := zrm_f e7
    have e8 := beq_iff_eq.mp e8
    rw [a2] at e8 f1 f2 f3
    have hlen : len = 3 := z_len hz (by intros; intro z; cases z)
    rw [hlen] at hd
    rw [show Nat.beq (zkd m2) 1 = false by rw [e8]; rfl, cond_false] at a3 a4 a5
    have hsplit : st = t2.reverse ++ .inr (.inr (.inl r)) :: rest := by
      have := List.take_append_drop (znp m2 + 1) st
      rw [← a4] at this
      have h3 : st.take (znp m2 + 1) = argsL.reverse := by rw [a3, List.reverse_reverse]
      rw [h3, hargs, List.reverse_cons, List.append_assoc] at this
      exact this.symm
    have hlt : t2.length = znp m2 := by
      have := congrArg List.length a3
      rw [hargs, List.length_cons, List.length_reverse, List.length_take] at this
      omega
    have hok : ∀ w ∈ argsL, zov (zcnt s) w := fun w hw => hs w (by rw [a3] at hw; exact List.mem_of_mem_take (List.mem_reverse.mp hw))
    have hro : ∀ w ∈ rest, zov (zcnt s) w := fun w hw => hs w (by rw [a4] at hw; exact List.mem_of_mem_drop hw)
    obtain ⟨q, q1, q2, q3⟩ := z_live (hok (.inr (.inr (.inl r))) (by rw [hargs]; exact List.mem_cons_self)) (by omega)
    have hM := z_met (ad := ad) ih f3 hb1 a7 hok
    have hcls : (zy m2).cls = zcl (zcn m2) := (zm_n m2 (by omega)).2.2.1
    have hob := zobj r.1 (by omega)
    have hrecv : ∃ cell : Cell, H[ad r.1 r.2]? = some cell ∧ cell.vm.isStatics = false ∧ s0.vm.findClass (zy m2).cls = some cell.cls := by
      have := va_recv hK X.1 (zvw (tg r.1) hob.1) (zws_obj q1 q3 r2)
      rw [r1] at this
      rw [hcls]
      exact this
    have hp : PreV s0 H (zy m2).cls (ad r.1 r.2) (va_Pc (argsL.map (zcv ad)) (zBU ph D dA A L xs ad s)) (t2.map (zcv ad)) := ⟨zBU_blind, hrecv, fun U hU hW => ⟨by rw [hargs]; rfl, zBU_of hcC T X (fun _ _ => rfl) U hU hW⟩⟩
    have hstk : st.map (zcv ad) = (t2.map (zcv ad)).reverse ++ .ref (ad r.1 r.2) :: rest.map (zcv ad) := by
      rw [hsplit, List.map_append, List.map_reverse]
      rfl
    have hW8 := lv_room (m := M) (pc := pc) (ls := ls) (rest := st.map (zcv ad)) (st := rest.map (zcv ad)) (by rw [zwsum_cv]; exact a6)
    rcases z_lk e6 (by rw [a2]; exact f3) f4 with ⟨-, hk9⟩ | hk9
    · rw [a2] at hk9
      refine z_callx (va_runVN (nL := znl mm) (C := (zy m2).cls) ⟨hx, hb, hml, hown, hts⟩ hM ⟨va_cnB (znp m2) hts (zgoodIn (List.forall_mem_cons.mpr ⟨(zm_f m2 f3).1, fun w hw => hw⟩)) rfl rfl rfl (hNw _ hk9) (hts _ (zm_f m2 f3).2.1) (zm_n m2 (by omega)).2.1 ⟨by show zfr m2 + 1 ≤ _; omega, by show 8 + (znl m2 + 11) + zlo m2 ≤ _; omega⟩, hts _ ((zm_f m2 f3).2.2.2.1 (by omega)), hts _ ((zm_f m2 f3).2.2.2.2 e8)⟩ hp rfl (by rw [List.length_map]; exact hlt) hl.1 hstk hW8 hd hfc) X.2.2.1 (fun u t H1 locs1 q1 q2 q3 q4 q5 q6 => cont u t H1 locs1 hro q1 q2 q3 q4 q5 q6)
    · rw [a2] at hk9
      refine z_callx (va_runV (nL := znl mm) (C := (zy m2).cls) ⟨hx, hb, hml, hown, hts⟩ hM ⟨zcb hts f3 rfl rfl (by show zfr m2 + 1 ≤ _; omega) (by show 8 + (znl m2 + 11) + zlo m2 ≤ _; omega) hk9, hts _ ((zm_f m2 f3).2.2.2.1 (by omega)), hts _ ((zm_f m2 f3).2.2.2.2 e8)⟩ hp rfl (by rw [List.length_map]; exact hlt) hl.1 hstk hW8 hd hfc) X.2.2.1 (fun u t H1 locs1 q1 q2 q3 q4 q5 q6 => cont u t H1 locs1 hro q1 q2 q3 q4 q5 q6)
  · obtain ⟨a1, a2, a3, a4, a5, a6, a7, -⟩ := zca_f hca
    have e5 : zlkc mm idx a b = true ∧ ((zrmc mm a && zkd a.toNat == 1) || (b == 0 && (a == 901 || a == 902 || a == 903 || a == 904))) = true := by
      have : (zlkc mm idx a b && ((zrmc mm a && zkd a.toNat == 1) || (b == 0 && (a == 901 || a == 902 || a == 903 || a == 904)))) = true := e2
      rwa [Bool.and_eq_true] at this
    obtain ⟨e6, e7⟩ := e5
    have e7 : zrmc mm a = true ∧ (zkd a.toNat == 1) = true := by
      rw [Bool.or_eq_true] at e7
      rcases e7 with e7 | e7
      · rwa [Bool.and_eq_true] at e7
      · exfalso
        simp only [Bool.and_eq_true, Bool.or_eq_true, beq_iff_eq] at e7
        omega
    obtain ⟨e7, e8⟩ := e7
    obtain ⟨f1, f2, f3, f4⟩ := zrm_f e7
    have e8 := beq_iff_eq.mp e8
    rw [a2] at e8 f1 f2 f3
    have hlen : len = 3 := z_len hz (by intros; intro z; cases z)
    rw [hlen] at hd
    rw [show Nat.beq (zkd m2) 1 = true by rw [e8]; rfl, cond_true, Nat.add_zero] at a3 a4 a5
    have hsplit : st = argsL.reverse ++ rest := by
      have := List.take_append_drop (znp m2) st
      rw [← a4] at this
      have h3 : st.take (znp m2) = argsL.reverse := by rw [a3, List.reverse_reverse]
      rw [h3] at this
      exact this.symm
    have hlt : argsL.length = znp m2 := by
      have := congrArg List.length a3
      rw [List.length_reverse, List.length_take] at this
      omega
    have hok : ∀ w ∈ argsL, zov (zcnt s) w := fun w hw => hs w (by rw [a3] at hw; exact List.mem_of_mem_take (List.mem_reverse.mp hw))
    have hro : ∀ w ∈ rest, zov (zcnt s) w := fun w hw => hs w (by rw [a4] at hw; exact List.mem_of_mem_drop hw)
    have hM := z_met (ad := ad) ih f3 hb1 a7 hok
    have hp : PreS s0 H (va_Pc (argsL.map (zcv ad)) (zBU ph D dA A L xs ad s)) (argsL.map (zcv ad)) := ⟨zBU_blind, fun U hU hW => ⟨rfl, zBU_of hcC T X (fun _ _ => rfl) U hU hW⟩⟩
    have hstk : st.map (zcv ad) = (argsL.map (zcv ad)).reverse ++ rest.map (zcv ad) := by
      rw [hsplit, List.map_append, List.map_reverse]
    have hW8 := lv_room (m := M) (pc := pc) (ls := ls) (rest := st.map (zcv ad)) (st := rest.map (zcv ad)) (by rw [zwsum_cv]; exact a6)
    rcases z_lk e6 (by rw [a2]; exact f3) f4 with ⟨-, hk9⟩ | hk9
    · rw [a2] at hk9
      refine z_callx (va_runSN (nL := znl mm) ⟨hx, hb, hml, hown, hts⟩ hM ⟨va_cnB (znp m2) hts (zgoodIn (List.forall_mem_cons.mpr ⟨(zm_f m2 f3).1, fun w hw => hw⟩)) rfl rfl rfl (hNw _ hk9) (hts _ (zm_f m2 f3).2.1) (zm_n m2 (by omega)).2.1 ⟨by show zfr m2 + 1 ≤ _; omega, by show 8 + (znl m2 + 11) + zlo m2 ≤ _; omega⟩, hts _ ((zm_f m2 f3).2.2.1 e8), trivial⟩ hp rfl (by rw [List.length_map]; exact hlt) hl.1 hstk hW8 hd hfc) X.2.2.1 (fun u t H1 locs1 q1 q2 q3 q4 q5 q6 => cont u t H1 locs1 hro q1 q2 q3 q4 q5 q6)
    · rw [a2] at hk9
      refine z_callx (va_runS (nL := znl mm) ⟨hx, hb, hml, hown, hts⟩ hM ⟨zcb hts f3 rfl rfl (by show zfr m2 + 1 ≤ _; omega) (by show 8 + (znl m2 + 11) + zlo m2 ≤ _; omega) hk9, hts _ ((zm_f m2 f3).2.2.1 e8)⟩ hp rfl (by rw [List.length_map]; exact hlt) hl.1 hstk hW8 hd hfc) X.2.2.1 (fun u t H1 locs1 q1 q2 q3 q4 q5 q6 => cont u t H1 locs1 hro q1 q2 q3 q4 q5 q6)
  · obtain ⟨a1, a2, a3, a4, a5, a6, a7, -⟩ := zca_f hca
    have e5 : zlkc mm idx a b = true ∧ ((zrmc mm a && zkd a.toNat == 2) || (b == 0 && a == 900)) = true := by
      have : (zlkc mm idx a b && ((zrmc mm a && zkd a.toNat == 2) || (b == 0 && a == 900))) = true := e2
      rwa [Bool.and_eq_true] at this
    obtain ⟨e6, e7⟩ := e5
    have e7 : zrmc mm a = true ∧ (zkd a.toNat == 2) = true := by
      rw [Bool.or_eq_true] at e7
      rcases e7 with e7 | e7
      · rwa [Bool.and_eq_true] at e7
      · exfalso
        simp only [Bool.and_eq_true, beq_iff_eq] at e7
        omega
    obtain ⟨e7, e8⟩ := e7
    obtain ⟨f1, f2, f3, f4⟩ := zrm_f e7
    have e8 := beq_iff_eq.mp e8
    rw [a2] at e8 f1 f2 f3
    have hlen : len = 3 := z_len hz (by intros; intro z; cases z)
    rw [hlen] at hd
    rw [show Nat.beq (zkd m2) 1 = false by rw [e8]; rfl, cond_false] at a3 a4 a5
    have hsplit : st = t2.reverse ++ .inr (.inr (.inl r)) :: rest := by
      have := List.take_append_drop (znp m2 + 1) st
      rw [← a4] at this
      have h3 : st.take (znp m2 + 1) = argsL.reverse := by rw [a3, List.reverse_reverse]
      rw [h3, hargs, List.reverse_cons, List.append_assoc] at this
      exact this.symm
    have hlt : t2.length = znp m2 := by
      have := congrArg List.length a3
      rw [hargs, List.length_cons, List.length_reverse, List.length_take] at this
      omega
    have hok : ∀ w ∈ argsL, zov (zcnt s) w := fun w hw => hs w (by rw [a3] at hw; exact List.mem_of_mem_take (List.mem_reverse.mp hw))
    have hro : ∀ w ∈ rest, zov (zcnt s) w := fun w hw => hs w (by rw [a4] at hw; exact List.mem_of_mem_drop hw)
    have hM := z_met (ad := ad) ih f3 hb1 a7 hok
    have hrt := zrt2 m2 f3 e8
    have hname := (zm_n m2 (by omega)).2.2.2.1 e8
    have hp : PreS s0 H (va_Pc (argsL.map (zcv ad)) (zBU ph D dA A L xs ad s)) (.ref (ad r.1 r.2) :: t2.map (zcv ad)) := ⟨zBU_blind, fun U hU hW => ⟨by rw [hargs]; rfl, zBU_of hcC T X (fun _ _ => rfl) U hU hW⟩⟩
    have hstk : st.map (zcv ad) = (t2.map (zcv ad)).reverse ++ .ref (ad r.1 r.2) :: rest.map (zcv ad) := by
      rw [hsplit, List.map_append, List.map_reverse]
      rfl
    have hW8 := lv_room (m := M) (pc := pc) (ls := ls) (rest := st.map (zcv ad)) (st := rest.map (zcv ad)) (by rw [zwsum_cv]; exact a6)
    rcases z_lk e6 (by rw [a2]; exact f3) f4 with ⟨-, hk9⟩ | hk9
    · rw [a2] at hk9
      refine z_callx (va_runIN (nL := znl mm) (bytes := zb m2) (maxL := znl m2) ⟨hx, hb, hml, hown, hts⟩ hM ⟨va_cnB (znp m2) hts (zgoodIn (List.forall_mem_cons.mpr ⟨(zm_f m2 f3).1, fun w hw => hw⟩)) (show zWm m2 = Cond.code (zy m2) (zb m2) (znl m2) none :: zgw by show Cond.code _ _ _ (zrt m2) :: zgw = _; rw [hrt]) rfl rfl (hNw _ hk9) (hts _ (zm_f m2 f3).2.1) (zm_n m2 (by omega)).2.1 ⟨by show zfr m2 + 1 ≤ _; omega, by show 8 + (znl m2 + 11) + zlo m2 ≤ _; omega⟩, hname, hts _ ((zm_f m2 f3).2.2.2.1 (by omega))⟩ hp rfl (by rw [List.length_map]; exact hlt) hl.1 hstk hW8 hd hfc) X.2.2.1 (fun u t H1 locs1 q1 q2 q3 q4 q5 q6 => cont u t H1 locs1 hro q1 q2 q3 q4 q5 q6)
    · rw [a2] at hk9
      have hcb := zcb (R := R) (mm := mm) (rm := { frames := zfr m2, cells := zcnt s1 - zcnt s, slots := zsl (zcnt s1) - zsl (zcnt s), locals := zlo m2 }) (mc := zcnt s1 - zcnt s) (ms := zsl (zcnt s1) - zsl (zcnt s)) hts f3 rfl rfl (by show zfr m2 + 1 ≤ _; omega) (by show 8 + (znl m2 + 11) + zlo m2 ≤ _; omega) hk9
      rw [hrt] at hcb
      refine z_callx (va_runI (nL := znl mm) ⟨hx, hb, hml, hown, hts⟩ hM ⟨hcb, hname, hts _ ((zm_f m2 f3).2.2.2.1 (by omega))⟩ hp rfl (by rw [List.length_map]; exact hlt) hl.1 hstk hW8 hd hfc) X.2.2.1 (fun u t H1 locs1 q1 q2 q3 q4 q5 q6 => cont u t H1 locs1 hro q1 q2 q3 q4 q5 q6)
/-- n steps of a method's own, its calls run whole -/
def zpt (ph : Bool) (N : Nat) : Nat → Nat → Nat → List zV → List zV → zS → Option (Nat × List zV × List zV × zS)
  | 0, _, pc, al, st, s => some (pc, al, st, s)
  | n + 1, m, pc, al, st, s => match zi m pc with
    | none => none
    | some (i, _, a, b) => match zcal i a st with
      | some (mm, args, rest) => (match zbs ph N mm 0 (zpad (znl mm) args) [] s with
        | some (v, s') => zpt ph N n m (pc + 3) al (v.toList ++ rest) s'
        | none => none)
      | none => match zact ph m pc al st s i a b with
        | some (pc', al', st', s') => zpt ph N n m pc' al' st' s'
        | none => none
theorem zpt_cnt {N : Nat} : ∀ (n : Nat) {m pc pc' : Nat} {al al' st st' : List zV} {s s' : zS}, zpt ph N n m pc al st s = some (pc', al', st', s') → zcnt s ≤ zcnt s' := by
  intro n
  induction n with
  | zero => intro m pc pc' al al' st st' s s' h; cases h; exact Nat.le_refl _
  | succ n ih =>
    intro m pc pc' al al' st st' s s' h
    unfold zpt at h
    split at h
    · cases h
    · split at h
      · split at h
        · rename_i hb
          exact Nat.le_trans (zbs_cnt N hb) (ih h)
        · cases h
      · split at h
        · rename_i ha
          exact Nat.le_trans (zact_cnt ha) (ih h)
        · cases h
theorem z_part (l : Launch) {N : Nat} : ∀ (n : Nat) {mm pc pc' n0 : Nat} {al al' st st' : List zV} {s s' : zS} {p : Program} {e : Env} {R : Room} {s0 : State} {M : MethodId} {args : Array Value} {below : List Frame} {meth : Method} {c : Code} {Q : State → Prop} {ad : Nat → Int → Nat} {H : Heap} {locs : List Loc} {ls : Array Slot},
    zpt ph N n mm pc al st s = some (pc', al', st', s') → zCt p R s0 M args meth c mm D dA A → zSt ad A L xs s0 s0.heap → zAt ph D dA A L xs s0.heap ad s H locs → zLr ad ls (znl mm) al → (∀ v ∈ al, zov (zcnt s) v) → (∀ v ∈ st, zov (zcnt s) v) → n0 ≤ zcnt s → zcnt s' - n0 ≤ R.cells → zsl (zcnt s') - zsl n0 ≤ R.slots →
    zKt p l e R s0 M args below meth c Q ph D dA A L xs mm n0 s ad pc' al' st' s' → W p l e R s0 M args below meth c H locs (zcnt s - n0) (zsl (zcnt s) - zsl n0) Q (F0 M pc ls (st.map (zcv ad))) := by
  intro n
  induction n with
  | zero =>
    intro mm pc pc' n0 al al' st st' s s' p e R s0 M args below meth c Q ad H locs ls h C T X hl ho hs hn hRc hRs kk
    cases h
    exact kk ad H locs ls zext.rf X hl ho hs
  | succ n ih =>
    intro mm pc pc' n0 al al' st st' s s' p e R s0 M args below meth c Q ad H locs ls h C T X hl ho hs hn hRc hRs kk
    unfold zpt at h
    split at h
    · cases h
    · rename_i i len a b hz
      split at h
      · rename_i m2 argsL rest hc
        split at h
        · rename_i v1 s1 hb1
          have c1 := zbs_cnt N hb1
          have c2 := zpt_cnt n h
          have k2 := zsl_mono c2
          refine z_call1 l (z_sim l N) hz hc hb1 C T X hl ho hs hn (by omega) (by omega) ?_
          intro ad1 H1 locs1 ls1 he X1 hl1 ho1 hs1
          exact ih h C (T.mv (Vm.Alike.refl _) (fun _ _ _ => rfl) (Nat.le_refl _) he.2) X1 hl1 ho1 hs1 (by omega) hRc hRs (fun ad2 H2 locs2 ls2 he2 X2 hl2 ho2 hs2 => kk ad2 H2 locs2 ls2 (he.tr he2 c1) X2 hl2 ho2 hs2)
        · cases h
      · split at h
        · rename_i pc1 al1 st1 s2 ha
          have c1 := zact_cnt ha
          have c2 := zpt_cnt n h
          have k2 := zsl_mono c2
          refine z_step C T X hl ho hs hz ha hn (by omega) (by omega) ?_
          intro ad1 H1 locs1 ls1 he X1 hl1 ho1 hs1
          exact ih h C (T.mv (Vm.Alike.refl _) (fun _ _ _ => rfl) (Nat.le_refl _) he.2) X1 hl1 ho1 hs1 (by omega) hRc hRs (fun ad2 H2 locs2 ls2 he2 X2 hl2 ho2 hs2 => kk ad2 H2 locs2 ls2 (he.tr he2 c1) X2 hl2 ho2 hs2)
        · cases h
end ZPART

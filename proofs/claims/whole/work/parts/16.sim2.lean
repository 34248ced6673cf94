theorem zcal_f {i : Instr} {a : Int} {st argsL rest : List zV} {m2 : Nat} (h : zcal i a st = some (m2, argsL, rest)) : (∃ idx, i = .invokevirtual idx ∧ zca true a st = some (m2, argsL, rest)) ∨ (∃ idx, i = .invokestatic idx ∧ zca false a st = some (m2, argsL, rest)) ∨ (∃ (idx : Nat) (r : Nat × Int) (t : List zV), i = .invokespecial idx ∧ zca false a st = some (m2, argsL, rest) ∧ argsL = .inr (.inr (.inl r)) :: t) := by
  unfold zcal at h
  split at h
  · exact Or.inl ⟨_, rfl, h⟩
  · exact Or.inr (Or.inl ⟨_, rfl, h⟩)
  · split at h
    · rename_i heq
      cases h
      exact Or.inr (Or.inr ⟨_, _, _, rfl, heq, rfl⟩)
    · cases h
  · cases h
theorem zrm_f {m : Nat} {a : Int} (h : zrmc m a = true) : zfr a.toNat + 1 ≤ zfr m ∧ 8 + (znl a.toNat + 11) + zlo a.toNat ≤ zlo m ∧ a.toNat < zmids ∧ 0 ≤ a := by
  unfold zrmc at h
  simp only [Bool.and_eq_true, decide_eq_true_eq] at h
  exact ⟨zlt' h.1.1.1, zlt' h.1.1.2, zlt' h.1.2, h.2⟩
theorem zmap_opt {u : Nat → Int → Nat} (v : Option zV) : (v.map (zcv u)).toList = v.toList.map (zcv u) := by
  cases v <;> rfl
section ZSIM2
variable {ph : Bool} {D : va_G} {dA : Nat → ClassId} {A : Nat → Prop} {L : Nat} {xs : Nat → Int32}
theorem zcb {R : Room} {s0 : State} {args : Array Value} {mm m2 idx : Nat} {rm : Room} {mc ms : Nat} (hts : ∀ w ∈ zgw, w.before args s0 = true) (hm : m2 < zmids) (hrc : rm.cells = mc) (hrs : rm.slots = ms) (hfr : rm.frames + 1 ≤ R.frames) (hlo : 8 + (znl m2 + 11) + rm.locals ≤ R.locals) (hl : Cond.methodLink (zcl (zcn mm)) idx (zy m2) ∈ zgw) : CallB R s0 args (zcl (zcn mm)) idx (zy m2) (zb m2) (znl m2) (zrt m2) (zWm m2) rm mc ms (znp m2) := by
  have hz : zmids = 188 := rfl
  have hn := zm_n m2 (by omega)
  have hf := zm_f m2 hm
  refine ⟨hrc, hrs, hfr, hlo, pay_in hts (zgoodIn (List.forall_mem_cons.mpr ⟨hf.1, fun w hw => hw⟩)), List.mem_cons_self, hts _ hf.1, hts _ hf.2.1, ⟨hn.2.1.1, hn.2.1.2.1⟩, fun sig h => ?_, hts _ hl⟩
  have := hn.2.1.2.2
  rw [h] at this
  exact (Option.some.inj this).symm
theorem z_sim (l : Launch) : ∀ N, zSim l ph D dA A L xs N := by
  intro N
  induction N with
  | zero => intro mm pc al st s v s' h; cases h
  | succ N ih =>
    intro mm pc al st s v s' h p e R s0 M args below meth c Q n0 ad H locs ls C T X hl ho hs hn hRc hRs kk
    unfold zbs at h
    split at h
    · cases h
    · rename_i i len a b hz
      split at h
      · rename_i v1 hv
        cases h
        obtain ⟨hst, hk⟩ := zret_f hv
        subst hst
        have hd := z_dec hz
        have hlen : len = 1 := by
          rcases hk with ⟨rfl, -⟩ | ⟨rfl, -⟩ | ⟨rfl, -⟩ | ⟨rfl, -⟩ <;> exact z_len hz (by intros; intro z; cases z)
        rw [hlen] at hd
        exact kk ad H locs ls pc i zext.rf X hd hv hs
      · rename_i hv
        split at h
        · rename_i m2 argsL rest hc
          split at h
          · rename_i v1 s1 hb1
            have hd := z_dec hz
            have e2 := z_ec2 hz
            have hcC := C
            obtain ⟨hx, hb, hml, hown, hts, hnm, hfr, hlo, hK, hNw, hA, hAO⟩ := C
            have hzm : zmids = 188 := rfl
            have c1 := zbs_cnt N hb1
            have c2 := zbs_cnt N h
            have k1 := zsl_mono c1
            have k2 := zsl_mono c2
            have k3 := zsl_mono hn
            have cont : ∀ (u : Nat → Int → Nat) (t : State) (H1 : Heap) (locs1 : List Loc), (∀ w ∈ rest, zov (zcnt s) w) → t.heap = H1 → s0.vm.Alike t.vm → zext (zcnt s) ad u → zBU ph D dA A L xs u s1 t → (∀ w ∈ v1.toList, zov (zcnt s1) w) → va_S A s0.heap H1 locs1 → W p l e R s0 M args below meth c H1 locs1 (zcnt s - n0 + (zcnt s1 - zcnt s)) (zsl (zcnt s) - zsl n0 + (zsl (zcnt s1) - zsl (zcnt s))) Q (F0 M (pc + 3) ls ((v1.map (zcv u)).toList ++ rest.map (zcv ad))) := by
              intro u t H1 locs1 hro ht hvm he hB hvo hS
              have h9 := ih mm (pc + 3) al (v1.toList ++ rest) s1 v s' h p e R s0 M args below meth c Q n0 u H1 locs1 ls hcC (T.mv (Vm.Alike.refl _) (fun _ _ _ => rfl) (Nat.le_refl _) he.2) ⟨by rw [← ht]; exact hB.1, hB.2.1, hS, hB.2.2.1, hB.2.2.2.1⟩ (hl.ext he ho) (fun w hw => (ho w hw).mono c1) (fun w hw => by
                rcases List.mem_append.mp hw with hw | hw
                · exact hvo w hw
                · exact (hro w hw).mono c1) (by omega) hRc hRs (fun ad' H' locs' ls' pc' i' he' X' hd' hr' hv' => kk ad' H' locs' ls' pc' i' (he.tr he' c1) X' hd' hr' hv')
              rw [List.map_append, zcv_exts he hro] at h9
              rw [zmap_opt]
              have q1 : zcnt s - n0 + (zcnt s1 - zcnt s) = zcnt s1 - n0 := by omega
              have q2 : zsl (zcnt s) - zsl n0 + (zsl (zcnt s1) - zsl (zcnt s)) = zsl (zcnt s1) - zsl n0 := by omega
              rw [q1, q2]
              exact h9
            have hfc : zcnt s - n0 + (zcnt s1 - zcnt s) ≤ R.cells ∧ zsl (zcnt s) - zsl n0 + (zsl (zcnt s1) - zsl (zcnt s)) ≤ R.slots := by omega
            rcases zcal_f hc with ⟨idx, rfl, hca⟩ | ⟨idx, rfl, hca⟩ | ⟨idx, r, t2, rfl, hca, hargs⟩
            · obtain ⟨a1, a2, a3, a4, a5, a6, a7, a8⟩ := zca_f hca
              obtain ⟨r, t2, hargs, r1, r2⟩ := a8 rfl
              have e5 : (zlkc mm idx a b = true ∧ zrmc mm a = true) ∧ (zkd a.toNat == 0) = true := by
                have : (zlkc mm idx a b && zrmc mm a && zkd a.toNat == 0) = true := e2
                rwa [Bool.and_eq_true, Bool.and_eq_true] at this
              obtain ⟨⟨e6, e7⟩, e8⟩ := e5
              obtain ⟨f1, f2, f3, f4⟩ := zrm_f e7
              have e8 := beq_iff_eq.mp e8
              rw [a2] at e8 f1 f2 f3
              have hlen : len = 3 := z_len hz (by intros; intro z; cases z)
              rw [hlen] at hd
              rw [show Nat.beq (zkd m2) 1 = false by rw [e8]; rfl, cond_false] at a3 a4 a5
              have hsplit : st = t2.reverse ++ .inr (.inr (.inl r)) :: rest := by
                have := List.take_append_drop (znp m2 + 1) st
                rw [← a4] at this
                have h3 : st.take (znp m2 + 1) = argsL.reverse := by rw [a3, List.reverse_reverse]
                rw [h3, hargs, List.reverse_cons, List.append_assoc] at this
                exact this.symm
              have hlt : t2.length = znp m2 := by
                have := congrArg List.length a3
                rw [hargs, List.length_cons, List.length_reverse, List.length_take] at this
                omega
              have hok : ∀ w ∈ argsL, zov (zcnt s) w := fun w hw => hs w (by rw [a3] at hw; exact List.mem_of_mem_take (List.mem_reverse.mp hw))
              have hro : ∀ w ∈ rest, zov (zcnt s) w := fun w hw => hs w (by rw [a4] at hw; exact List.mem_of_mem_drop hw)
              obtain ⟨q, q1, q2, q3⟩ := z_live (hok (.inr (.inr (.inl r))) (by rw [hargs]; exact List.mem_cons_self)) (by omega)
              have hM := z_met (ad := ad) ih f3 hb1 a7 hok
              have hcls : (zy m2).cls = zcl (zcn m2) := (zm_n m2 (by omega)).2.2.1
              have hob := zobj r.1 (by omega)
              have hrecv : ∃ cell : Cell, H[ad r.1 r.2]? = some cell ∧ cell.vm.isStatics = false ∧ s0.vm.findClass (zy m2).cls = some cell.cls := by
                have := va_recv hK X.1 (zvw (tg r.1) hob.1) (zws_obj q1 q3 r2)
                rw [r1] at this
                rw [hcls]
                exact this
              have hp : PreV s0 H (zy m2).cls (ad r.1 r.2) (va_Pc (argsL.map (zcv ad)) (zBU ph D dA A L xs ad s)) (t2.map (zcv ad)) := ⟨zBU_blind, hrecv, fun U hU hW => ⟨by rw [hargs]; rfl, zBU_of hcC T X (fun _ _ => rfl) U hU hW⟩⟩
              have hstk : st.map (zcv ad) = (t2.map (zcv ad)).reverse ++ .ref (ad r.1 r.2) :: rest.map (zcv ad) := by
                rw [hsplit, List.map_append, List.map_reverse]
                rfl
              have hW8 := lv_room (m := M) (pc := pc) (ls := ls) (rest := st.map (zcv ad)) (st := rest.map (zcv ad)) (by rw [zwsum_cv]; exact a6)
              rcases z_lk e6 (by rw [a2]; exact f3) f4 with ⟨-, hk9⟩ | hk9
              · rw [a2] at hk9
                refine z_callx (va_runVN (nL := znl mm) (C := (zy m2).cls) ⟨hx, hb, hml, hown, hts⟩ hM ⟨va_cnB (znp m2) hts (zgoodIn (List.forall_mem_cons.mpr ⟨(zm_f m2 f3).1, fun w hw => hw⟩)) rfl rfl rfl (hNw _ hk9) (hts _ (zm_f m2 f3).2.1) (zm_n m2 (by omega)).2.1 ⟨by show zfr m2 + 1 ≤ _; omega, by show 8 + (znl m2 + 11) + zlo m2 ≤ _; omega⟩, hts _ ((zm_f m2 f3).2.2.2.1 (by omega)), hts _ ((zm_f m2 f3).2.2.2.2 e8)⟩ hp rfl (by rw [List.length_map]; exact hlt) hl.1 hstk hW8 hd hfc) X.2.2.1 (fun u t H1 locs1 q1 q2 q3 q4 q5 q6 => cont u t H1 locs1 hro q1 q2 q3 q4 q5 q6)
              · rw [a2] at hk9
                refine z_callx (va_runV (nL := znl mm) (C := (zy m2).cls) ⟨hx, hb, hml, hown, hts⟩ hM ⟨zcb hts f3 rfl rfl (by show zfr m2 + 1 ≤ _; omega) (by show 8 + (znl m2 + 11) + zlo m2 ≤ _; omega) hk9, hts _ ((zm_f m2 f3).2.2.2.1 (by omega)), hts _ ((zm_f m2 f3).2.2.2.2 e8)⟩ hp rfl (by rw [List.length_map]; exact hlt) hl.1 hstk hW8 hd hfc) X.2.2.1 (fun u t H1 locs1 q1 q2 q3 q4 q5 q6 => cont u t H1 locs1 hro q1 q2 q3 q4 q5 q6)
            · obtain ⟨a1, a2, a3, a4, a5, a6, a7, -⟩ := zca_f hca
              have e5 : zlkc mm idx a b = true ∧ ((zrmc mm a && zkd a.toNat == 1) || (b == 0 && (a == 901 || a == 902 || a == 903 || a == 904))) = true := by
                have : (zlkc mm idx a b && ((zrmc mm a && zkd a.toNat == 1) || (b == 0 && (a == 901 || a == 902 || a == 903 || a == 904)))) = true := e2
                rwa [Bool.and_eq_true] at this
              obtain ⟨e6, e7⟩ := e5
              have e7 : zrmc mm a = true ∧ (zkd a.toNat == 1) = true := by
                rw [Bool.or_eq_true] at e7
                rcases e7 with e7 | e7
                · rwa [Bool.and_eq_true] at e7
                · exfalso
                  simp only [Bool.and_eq_true, Bool.or_eq_true, beq_iff_eq] at e7
                  omega
              obtain ⟨e7, e8⟩ := e7
              obtain ⟨f1, f2, f3, f4⟩ := zrm_f e7
              have e8 := beq_iff_eq.mp e8
              rw [a2] at e8 f1 f2 f3
              have hlen : len = 3 := z_len hz (by intros; intro z; cases z)
              rw [hlen] at hd
              rw [show Nat.beq (zkd m2) 1 = true by rw [e8]; rfl, cond_true, Nat.add_zero] at a3 a4 a5
              have hsplit : st = argsL.reverse ++ rest := by
                have := List.take_append_drop (znp m2) st
                rw [← a4] at this
                have h3 : st.take (znp m2) = argsL.reverse := by rw [a3, List.reverse_reverse]
                rw [h3] at this
                exact this.symm
              have hlt : argsL.length = znp m2 := by
                have := congrArg List.length a3
                rw [List.length_reverse, List.length_take] at this
                omega
              have hok : ∀ w ∈ argsL, zov (zcnt s) w := fun w hw => hs w (by rw [a3] at hw; exact List.mem_of_mem_take (List.mem_reverse.mp hw))
              have hro : ∀ w ∈ rest, zov (zcnt s) w := fun w hw => hs w (by rw [a4] at hw; exact List.mem_of_mem_drop hw)
              have hM := z_met (ad := ad) ih f3 hb1 a7 hok
              have hp : PreS s0 H (va_Pc (argsL.map (zcv ad)) (zBU ph D dA A L xs ad s)) (argsL.map (zcv ad)) := ⟨zBU_blind, fun U hU hW => ⟨rfl, zBU_of hcC T X (fun _ _ => rfl) U hU hW⟩⟩
              have hstk : st.map (zcv ad) = (argsL.map (zcv ad)).reverse ++ rest.map (zcv ad) := by
                rw [hsplit, List.map_append, List.map_reverse]
              have hW8 := lv_room (m := M) (pc := pc) (ls := ls) (rest := st.map (zcv ad)) (st := rest.map (zcv ad)) (by rw [zwsum_cv]; exact a6)
              rcases z_lk e6 (by rw [a2]; exact f3) f4 with ⟨-, hk9⟩ | hk9
              · rw [a2] at hk9
                refine z_callx (va_runSN (nL := znl mm) ⟨hx, hb, hml, hown, hts⟩ hM ⟨va_cnB (znp m2) hts (zgoodIn (List.forall_mem_cons.mpr ⟨(zm_f m2 f3).1, fun w hw => hw⟩)) rfl rfl rfl (hNw _ hk9) (hts _ (zm_f m2 f3).2.1) (zm_n m2 (by omega)).2.1 ⟨by show zfr m2 + 1 ≤ _; omega, by show 8 + (znl m2 + 11) + zlo m2 ≤ _; omega⟩, hts _ ((zm_f m2 f3).2.2.1 e8), trivial⟩ hp rfl (by rw [List.length_map]; exact hlt) hl.1 hstk hW8 hd hfc) X.2.2.1 (fun u t H1 locs1 q1 q2 q3 q4 q5 q6 => cont u t H1 locs1 hro q1 q2 q3 q4 q5 q6)
              · rw [a2] at hk9
                refine z_callx (va_runS (nL := znl mm) ⟨hx, hb, hml, hown, hts⟩ hM ⟨zcb hts f3 rfl rfl (by show zfr m2 + 1 ≤ _; omega) (by show 8 + (znl m2 + 11) + zlo m2 ≤ _; omega) hk9, hts _ ((zm_f m2 f3).2.2.1 e8)⟩ hp rfl (by rw [List.length_map]; exact hlt) hl.1 hstk hW8 hd hfc) X.2.2.1 (fun u t H1 locs1 q1 q2 q3 q4 q5 q6 => cont u t H1 locs1 hro q1 q2 q3 q4 q5 q6)
            · obtain ⟨a1, a2, a3, a4, a5, a6, a7, -⟩ := zca_f hca
              have e5 : zlkc mm idx a b = true ∧ ((zrmc mm a && zkd a.toNat == 2) || (b == 0 && a == 900)) = true := by
                have : (zlkc mm idx a b && ((zrmc mm a && zkd a.toNat == 2) || (b == 0 && a == 900))) = true := e2
                rwa [Bool.and_eq_true] at this
              obtain ⟨e6, e7⟩ := e5
              have e7 : zrmc mm a = true ∧ (zkd a.toNat == 2) = true := by
                rw [Bool.or_eq_true] at e7
                rcases e7 with e7 | e7
                · rwa [Bool.and_eq_true] at e7
                · exfalso
                  simp only [Bool.and_eq_true, beq_iff_eq] at e7
                  omega
              obtain ⟨e7, e8⟩ := e7
              obtain ⟨f1, f2, f3, f4⟩ := zrm_f e7
              have e8 := beq_iff_eq.mp e8
              rw [a2] at e8 f1 f2 f3
              have hlen : len = 3 := z_len hz (by intros; intro z; cases z)
              rw [hlen] at hd
              rw [show Nat.beq (zkd m2) 1 = false by rw [e8]; rfl, cond_false] at a3 a4 a5
              have hsplit : st = t2.reverse ++ .inr (.inr (.inl r)) :: rest := by
                have := List.take_append_drop (znp m2 + 1) st
                rw [← a4] at this
                have h3 : st.take (znp m2 + 1) = argsL.reverse := by rw [a3, List.reverse_reverse]
                rw [h3, hargs, List.reverse_cons, List.append_assoc] at this
                exact this.symm
              have hlt : t2.length = znp m2 := by
                have := congrArg List.length a3
                rw [hargs, List.length_cons, List.length_reverse, List.length_take] at this
                omega
              have hok : ∀ w ∈ argsL, zov (zcnt s) w := fun w hw => hs w (by rw [a3] at hw; exact List.mem_of_mem_take (List.mem_reverse.mp hw))
              have hro : ∀ w ∈ rest, zov (zcnt s) w := fun w hw => hs w (by rw [a4] at hw; exact List.mem_of_mem_drop hw)
              have hM := z_met (ad := ad) ih f3 hb1 a7 hok
              have hrt := zrt2 m2 f3 e8
              have hname := (zm_n m2 (by omega)).2.2.2.1 e8
              have hp : PreS s0 H (va_Pc (argsL.map (zcv ad)) (zBU ph D dA A L xs ad s)) (.ref (ad r.1 r.2) :: t2.map (zcv ad)) := ⟨zBU_blind, fun U hU hW => ⟨by rw [hargs]; rfl, zBU_of hcC T X (fun _ _ => rfl) U hU hW⟩⟩
              have hstk : st.map (zcv ad) = (t2.map (zcv ad)).reverse ++ .ref (ad r.1 r.2) :: rest.map (zcv ad) := by
                rw [hsplit, List.map_append, List.map_reverse]
                rfl
              have hW8 := lv_room (m := M) (pc := pc) (ls := ls) (rest := st.map (zcv ad)) (st := rest.map (zcv ad)) (by rw [zwsum_cv]; exact a6)
              rcases z_lk e6 (by rw [a2]; exact f3) f4 with ⟨-, hk9⟩ | hk9
              · rw [a2] at hk9
                refine z_callx (va_runIN (nL := znl mm) (bytes := zb m2) (maxL := znl m2) ⟨hx, hb, hml, hown, hts⟩ hM ⟨va_cnB (znp m2) hts (zgoodIn (List.forall_mem_cons.mpr ⟨(zm_f m2 f3).1, fun w hw => hw⟩)) (show zWm m2 = Cond.code (zy m2) (zb m2) (znl m2) none :: zgw by show Cond.code _ _ _ (zrt m2) :: zgw = _; rw [hrt]) rfl rfl (hNw _ hk9) (hts _ (zm_f m2 f3).2.1) (zm_n m2 (by omega)).2.1 ⟨by show zfr m2 + 1 ≤ _; omega, by show 8 + (znl m2 + 11) + zlo m2 ≤ _; omega⟩, hname, hts _ ((zm_f m2 f3).2.2.2.1 (by omega))⟩ hp rfl (by rw [List.length_map]; exact hlt) hl.1 hstk hW8 hd hfc) X.2.2.1 (fun u t H1 locs1 q1 q2 q3 q4 q5 q6 => cont u t H1 locs1 hro q1 q2 q3 q4 q5 q6)
              · rw [a2] at hk9
                have hcb := zcb (R := R) (mm := mm) (rm := { frames := zfr m2, cells := zcnt s1 - zcnt s, slots := zsl (zcnt s1) - zsl (zcnt s), locals := zlo m2 }) (mc := zcnt s1 - zcnt s) (ms := zsl (zcnt s1) - zsl (zcnt s)) hts f3 rfl rfl (by show zfr m2 + 1 ≤ _; omega) (by show 8 + (znl m2 + 11) + zlo m2 ≤ _; omega) hk9
                rw [hrt] at hcb
                refine z_callx (va_runI (nL := znl mm) ⟨hx, hb, hml, hown, hts⟩ hM ⟨hcb, hname, hts _ ((zm_f m2 f3).2.2.2.1 (by omega))⟩ hp rfl (by rw [List.length_map]; exact hlt) hl.1 hstk hW8 hd hfc) X.2.2.1 (fun u t H1 locs1 q1 q2 q3 q4 q5 q6 => cont u t H1 locs1 hro q1 q2 q3 q4 q5 q6)
          · cases h
        · rename_i hc
          split at h
          · rename_i pc1 al1 st1 s2 ha
            have c1 := zact_cnt ha
            have c2 := zbs_cnt N h
            have k2 := zsl_mono c2
            refine z_step C T X hl ho hs hz ha hn (by omega) (by omega) ?_
            intro ad' H' locs' ls' he X' hl' ho' hs'
            exact ih mm pc1 al1 st1 s2 v s' h p e R s0 M args below meth c Q n0 ad' H' locs' ls' C (T.mv (Vm.Alike.refl _) (fun _ _ _ => rfl) (Nat.le_refl _) he.2) X' hl' ho' hs' (by omega) hRc hRs (fun ad2 H2 locs2 ls2 pc2 i2 he2 X2 hd2 hr2 hv2 => kk ad2 H2 locs2 ls2 pc2 i2 (he.tr he2 c1) X2 hd2 hr2 hv2)
          · cases h
end ZSIM2

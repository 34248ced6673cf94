theorem zmu_old : ∀ k, k < 31 → (zn k).1 ≠ 43 ∧ (zn k).1 ≠ 44 := by decide +kernel
theorem zmu_row {s : zS} {r : Nat × Int} (h1 : r.1 ≠ 43) (h2 : r.1 ≠ 44) (h3 : r.1 ≤ 107) : zmu s r.1 r.2 = s r.1 r.2 := by
  funext k
  unfold zmu
  rw [if_neg (fun z => by omega), if_neg (fun z => h1 z.1), if_neg (fun z => h2 z.1)]
theorem zmu_43 {s : zS} : zmu s 43 0 = fun _ => 1 := by
  funext k
  unfold zmu
  rw [if_neg (fun z => by omega), if_pos ⟨rfl, rfl⟩]
theorem zmu_44 {s : zS} {i : Int} (h : 0 ≤ i ∧ i < 5) : zmu s 44 i = fun _ => 0 := by
  funext k
  unfold zmu
  rw [if_neg (fun z => by omega), if_neg (fun z => by omega), if_pos ⟨rfl, h⟩]
theorem zmu_cnt {s : zS} : zcnt (zmu s) = 37 := by
  unfold zcnt zmu
  rw [if_pos ⟨rfl, rfl, rfl⟩]
  rfl
theorem zmu_arr (c : ClassId) (N : Nat) (v : Value) : Jvm.Free.Multi.innerC c N v = arrV c N (fun _ => v) := by
  unfold Jvm.Free.Multi.innerC arrV
  congr 1
  apply Array.ext
  · simp
  · intro i h1 h2
    simp
def zadm (ad : Nat → Int → Nat) (q : Nat) (r : Nat → Nat) : Nat → Int → Nat := fun g' i' => if g' = 43 ∧ i' = 0 then q else if g' = 44 ∧ 0 ≤ i' ∧ i' < 5 then r i'.toNat else ad g' i'
theorem zadm_ext {ad : Nat → Int → Nat} {q : Nat} {r : Nat → Nat} : zext 31 ad (zadm ad q r) := by
  refine ⟨fun x hx => ?_, fun g' hg' => ?_⟩
  · obtain ⟨k, k1, k2, k3⟩ := hx
    have h := zmu_old k k1
    have e : (zn k).1 = x.1 := congrArg Prod.fst k3
    rw [e] at h
    unfold zadm
    rw [if_neg (fun z => h.1 z.1), if_neg (fun z => h.2 z.1)]
  · unfold zadm
    rw [if_neg (fun z => by omega), if_neg (fun z => by omega)]
theorem zmu_nm : znm 31 = (43, 0) ∧ znm 32 = (44, 0) ∧ znm 33 = (44, 1) ∧ znm 34 = (44, 2) ∧ znm 35 = (44, 3) ∧ znm 36 = (44, 4) := by decide +kernel
theorem zmu_tg : tg 43 = 29 ∧ lg 43 = 5 ∧ zak 43 = 3 ∧ zra 43 = 44 ∧ tg 44 = 22 ∧ lg 44 = 1024 ∧ zak 44 = 2 := by decide +kernel
theorem zmu_44c {dA : Nat → ClassId} {ad : Nat → Int → Nat} {s : zS} {i : Int} (h : 0 ≤ i ∧ i < 5) : zcell false dA ad (zmu s 44 i) (44, i) = .inl (dA 22, 1024, .inr (.inl (fun _ => 0))) := by
  rw [zmu_44 h]
  unfold zcell
  rw [zbln (show 12 < ((44, i) : Nat × Int).1 from (by decide : 12 < 44)), cond_false, zar_l (show zak ((44, i) : Nat × Int).1 = 2 from zmu_tg.2.2.2.2.2.2), show tg ((44, i) : Nat × Int).1 = 22 from zmu_tg.2.2.2.2.1, show lg ((44, i) : Nat × Int).1 = 1024 from zmu_tg.2.2.2.2.2.1]
  rfl
theorem zmu_43c {dA : Nat → ClassId} {ad : Nat → Int → Nat} {q : Nat} {r : Nat → Nat} {s : zS} : zcell false dA (zadm ad q r) (zmu s 43 0) (43, 0) = .inl (dA 29, 5, .inr (.inr (.inr (.inr (fun i => if i < 5 then some (r i) else none))))) := by
  rw [zmu_43]
  unfold zcell
  rw [zbln (show 12 < ((43, 0) : Nat × Int).1 by decide), cond_false, zar_q (show zak ((43, 0) : Nat × Int).1 = 3 from zmu_tg.2.2.1), show tg ((43, 0) : Nat × Int).1 = 29 from zmu_tg.1, show lg ((43, 0) : Nat × Int).1 = 5 from zmu_tg.2.1]
  refine congrArg (fun z => Sum.inl (dA 29, 5, Sum.inr (Sum.inr (Sum.inr (Sum.inr z))))) (funext fun j => ?_)
  rw [show zra ((43, 0) : Nat × Int).1 = 44 from zmu_tg.2.2.2.1]
  by_cases h : j < 5
  · rw [zbl (show j + 1 ≤ 5 by omega), if_pos h]
    show some (zadm ad q r 44 (j : Int)) = _
    unfold zadm
    rw [if_neg (fun z => by omega), if_pos ⟨rfl, by omega, by omega⟩]
    rfl
  · rw [zbln (show 5 < j + 1 by omega), if_neg h]
    rfl
section ZS6
variable {p : Program} {l : Launch} {e : Env} {R : Room} {s0 : State} {M : MethodId} {args : Array Value} {below : List Frame} {meth : Method} {c : Code} {Q : State → Prop}
variable {ph : Bool} {D : va_G} {dA : Nat → ClassId} {A : Nat → Prop} {L : Nat} {xs : Nat → Int32} {mm n0 pc pc' len bb : Nat} {a : Int} {i : Instr} {ad : Nat → Int → Nat} {s s' : zS} {H : Heap} {locs : List Loc} {ls : Array Slot} {al al' st st' : List zV}
theorem zs_multianewarray {ix dm : Nat} (C : zCt p R s0 M args meth c mm D dA A) (T : zSt ad A L xs s0 s0.heap) (X : zAt ph D dA A L xs s0.heap ad s H locs) (hl : zLr ad ls (znl mm) al) (ho : ∀ v ∈ al, zov (zcnt s) v) (hs : ∀ v ∈ st, zov (zcnt s) v) (hz : zi mm pc = some (.multianewarray ix dm, len, a, bb)) (ha : zact ph mm pc al st s (.multianewarray ix dm) a bb = some (pc', al', st', s')) (hn : n0 ≤ zcnt s) (hRc : zcnt s' - n0 ≤ R.cells) (hRs : zsl (zcnt s') - zsl n0 ≤ R.slots)
    (kk : zKt p l e R s0 M args below meth c Q ph D dA A L xs mm n0 s ad pc' al' st' s') : W p l e R s0 M args below meth c H locs (zcnt s - n0) (zsl (zcnt s) - zsl n0) Q (F0 M pc ls (st.map (zcv ad))) := by
  obtain ⟨hx, hb, hml, hown, hts, hnm, hfr, hlo, hK, hNw, hA, hAO⟩ := C
  have hd := z_dec hz
  have e2 := z_ec2 hz
  obtain rfl : len = 4 := z_len hz (by intros; intro z; cases z)
  dsimp only [zact] at ha
  split at ha
  · rename_i k n r
    obtain ⟨⟨hph, hk, hnn, hcnt, hmm, hix, hdd⟩, ha9⟩ := zif ha
    clear ha
    subst hph; subst hk; subst hnn; subst hmm; subst hix; subst hdd
    cases ha9
    obtain ⟨hk1, h1⟩ := List.forall_mem_cons.mp hs
    obtain ⟨hn1, h2⟩ := List.forall_mem_cons.mp h1
    rw [zmu_cnt] at hRc hRs
    rw [hcnt] at hn
    have hm := zsl_mono hn
    have hsl : zsl 37 = zsl 31 + 5125 := by decide +kernel
    obtain ⟨t29, ht29⟩ := ztys_at (dA := dA) (show 29 ∈ zarr by decide)
    obtain ⟨t22, ht22⟩ := ztys_at (dA := dA) (show 22 ∈ zarr by decide)
    have e29 := (hK.2 t29 _ ht29).2
    have e22 := (hK.2 t22 _ ht22).2
    have hover : (Cond.arrayOver (.array .long)).before args s0 = true := hAO
    have hcl : (Cond.classLink (zcl (zcn 26)) 11 ("[" ++ (FieldType.array FieldType.long).toString)).before args s0 = true := hts (Cond.classLink RX4 11 "[[J") (zk_w_in _ (by decide +kernel))
    refine va_mna (X := zws false dA ad s) (L := []) (f := fun _ => .inr (0, [])) (ty := .long) (cy := dA 22) (N' := 5) (K' := 1024) (z := (1024, .inr (.inl (fun _ => 0)))) hx hb hown hcl hover (hts _ (zk_w_in _ (by decide +kernel))) e22 hK (by show va_P D vwCl (zws false dA ad s ++ []) H; rw [List.append_nil]; exact X.1) (by show va_D A (zws false dA ad s ++ []); rw [List.append_nil]; exact X.2.1) X.2.2.1 hA (zn_neg (by omega) (by omega)) (zn_neg (by omega) (by omega)) rfl rfl (by decide) (by decide) (by decide) rfl rfl (by rw [hcnt]; omega) (by rw [hcnt]; omega) (fun c => zmu_arr c 1024 _) hd (fun q rr cA H1 hinj hnl hK2 hP hD hS => ?_)
    have e1 := (hK2.2 _ _ (zlast (ztys dA) (cA, FieldType.array FieldType.long))).2
    have e4 : cA = dA 29 := zcl_ra e1 e29
    subst e4
    have hpl : va_pl ([] ++ (List.range 5).map rr) (vr_up (fun _ => Sum.inr (0, [])) ((List.range 5).map rr) (.inl (dA 22, ((1024, .inr (.inl (fun _ => 0))) : vp_A)))) = [(rr 0, .inl (dA 22, 1024, .inr (.inl (fun _ => 0)))), (rr 1, .inl (dA 22, 1024, .inr (.inl (fun _ => 0)))), (rr 2, .inl (dA 22, 1024, .inr (.inl (fun _ => 0)))), (rr 3, .inl (dA 22, 1024, .inr (.inl (fun _ => 0)))), (rr 4, .inl (dA 22, 1024, .inr (.inl (fun _ => 0))))] := by
      have hv : ∀ (E : va_E) (t : Nat), t < 5 → vr_up (fun _ => Sum.inr (0, [])) ((List.range 5).map rr) E (rr t) = E := fun E t ht => vr_up_in (List.mem_map.mpr ⟨t, List.mem_range.mpr ht, rfl⟩)
      show [(rr 0, vr_up _ _ _ (rr 0)), (rr 1, vr_up _ _ _ (rr 1)), (rr 2, vr_up _ _ _ (rr 2)), (rr 3, vr_up _ _ _ (rr 3)), (rr 4, vr_up _ _ _ (rr 4))] = _
      rw [hv _ 0 (by omega), hv _ 1 (by omega), hv _ 2 (by omega), hv _ 3 (by omega), hv _ 4 (by omega)]
    have he : zext (zcnt s) ad (zadm ad q rr) := by rw [hcnt]; exact zadm_ext
    have hok := X.2.2.2.1
    have hw : zws false dA (zadm ad q rr) (zmu s) = (zws false dA ad s ++ [(q, .inl (dA 29, 5, .inr (.inr (.inr (.inr (fun i => if i < 5 then some (rr i) else none))))))]) ++ [(rr 0, .inl (dA 22, 1024, .inr (.inl (fun _ => 0)))), (rr 1, .inl (dA 22, 1024, .inr (.inl (fun _ => 0)))), (rr 2, .inl (dA 22, 1024, .inr (.inl (fun _ => 0)))), (rr 3, .inl (dA 22, 1024, .inr (.inl (fun _ => 0)))), (rr 4, .inl (dA 22, 1024, .inr (.inl (fun _ => 0))))] := by
      unfold zws
      rw [zmu_cnt, hcnt, show List.range 37 = List.range 31 ++ [31, 32, 33, 34, 35, 36] by decide, List.map_append, List.append_assoc]
      congr 1
      · refine List.map_congr_left (fun k hk => ?_)
        have hk := List.mem_range.mp hk
        have h9 := zmu_old k hk
        unfold zwk
        rw [zmu_row h9.1 h9.2 (zg_le' k (by have : zN = 115 := rfl; omega)), he.1 (znm k) ⟨k, by omega, by have : zN = 115 := rfl; omega, rfl⟩, zcell_ext he (fun j hj => hok.2 k (by omega) j hj) (znm_k k (by have : zN = 115 := rfl; omega))]
      · have e44 : ∀ t : Nat, t < 5 → zadm ad q rr 44 (t : Int) = rr t := fun t ht => by
          unfold zadm
          rw [if_neg (fun z => by omega), if_pos ⟨rfl, by omega, by omega⟩]
          rfl
        obtain ⟨m1, m2, m3, m4, m5, m6⟩ := zmu_nm
        show [_, _, _, _, _, _] = [_, _, _, _, _, _]
        unfold zwk
        rw [m1, m2, m3, m4, m5, m6]
        dsimp only
        rw [zmu_43c, zmu_44c (by omega), zmu_44c (by omega), zmu_44c (by omega), zmu_44c (by omega), zmu_44c (by omega), show zadm ad q rr 43 0 = q by unfold zadm; rw [if_pos ⟨rfl, rfl⟩], show zadm ad q rr 44 0 = rr 0 from e44 0 (by omega), show zadm ad q rr 44 1 = rr 1 from e44 1 (by omega), show zadm ad q rr 44 2 = rr 2 from e44 2 (by omega), show zadm ad q rr 44 3 = rr 3 from e44 3 (by omega), show zadm ad q rr 44 4 = rr 4 from e44 4 (by omega)]
    rw [hpl] at hP hD
    rw [← hw] at hP hD
    have hlive : ∀ t : Nat, t < 5 → zlv 37 (44, (t : Int)) := fun t ht => by
      obtain ⟨m1, m2, m3, m4, m5, m6⟩ := zmu_nm
      match t, ht with
      | 0, _ => exact ⟨32, by omega, by decide, m2⟩
      | 1, _ => exact ⟨33, by omega, by decide, m3⟩
      | 2, _ => exact ⟨34, by omega, by decide, m4⟩
      | 3, _ => exact ⟨35, by omega, by decide, m5⟩
      | 4, _ => exact ⟨36, by omega, by decide, m6⟩
      | t + 5, ht => omega
    have hX9 : zAt false D dA A L xs s0.heap (zadm ad q rr) (zmu s) H1 locs := by
      refine ⟨hP, hD, hS, ⟨by rw [zmu_cnt]; decide, fun k hk j hj => ?_⟩, ?_⟩
      · rw [zmu_cnt] at hk ⊢
        by_cases e : k < 31
        · have h9 := zmu_old k e
          rw [zmu_row h9.1 h9.2 (zg_le' k (by have : zN = 115 := rfl; omega))]
          obtain ⟨o1, o2, o3, o4⟩ := hok.2 k (by omega) j hj
          exact ⟨o1, o2, o3, fun z1 z2 => (o4 z1 z2).mono (by omega)⟩
        · obtain ⟨m1, m2, m3, m4, m5, m6⟩ := zmu_nm
          have z44 : ∀ i : Int, 0 ≤ i ∧ i < 5 → zso false 37 (44, i) j (zmu s 44 i j) := fun i hi => by
            rw [zmu_44 hi]
            exact zso_0
          by_cases e1 : k = 31
          · subst e1
            rw [m1] at hj ⊢
            have hj : j < 5 := by rw [show lg ((43, 0) : Nat × Int).1 = 5 from zmu_tg.2.1] at hj; exact hj
            show zso false 37 (43, 0) j (zmu s 43 0 j)
            unfold zso
            rw [zsk_a (show 12 < ((43, 0) : Nat × Int).1 by decide), show zak ((43, 0) : Nat × Int).1 = 3 from zmu_tg.2.2.1]
            refine ⟨fun z => by omega, fun z => by omega, fun z => by omega, fun _ _ => ?_⟩
            unfold ztr
            rw [zbln (show 12 < ((43, 0) : Nat × Int).1 by decide), cond_false, show zra ((43, 0) : Nat × Int).1 = 44 from zmu_tg.2.2.2.1]
            exact hlive j hj
          · rcases (show k = 32 ∨ k = 33 ∨ k = 34 ∨ k = 35 ∨ k = 36 by omega) with e2 | e2 | e2 | e2 | e2 <;> subst e2
            · rw [m2]; exact z44 0 (by omega)
            · rw [m3]; exact z44 1 (by omega)
            · rw [m4]; exact z44 2 (by omega)
            · rw [m5]; exact z44 3 (by omega)
            · rw [m6]; exact z44 4 (by omega)
      · refine zsta_of X.2.2.2.2 (fun g' i' k' h1 h2 => ?_)
        unfold zmu
        rw [if_neg (fun z => by omega), if_neg (fun z => by omega), if_neg (fun z => by omega)]
    have hk9 := kk (zadm ad q rr) H1 locs ls he hX9 (hl.ext he ho) (fun v hv => (ho v hv).mono (by rw [zmu_cnt]; omega)) (List.forall_mem_cons.mpr ⟨Or.inl ⟨31, by rw [zmu_cnt]; omega, by decide, zmu_nm.1⟩, fun v hv => (h2 v hv).mono (by rw [zmu_cnt]; omega)⟩)
    rw [List.map_cons, zcv_exts he h2, show zcv (zadm ad q rr) (zR 43 0) = .ref q by show Value.ref _ = _; unfold zadm; rw [if_pos ⟨rfl, rfl⟩], zmu_cnt] at hk9
    rw [hcnt]
    have e8 : 37 - n0 = 31 - n0 + 1 + 5 := by omega
    have e9 : zsl 37 - zsl n0 = zsl 31 - zsl n0 + 5 + 5 * 1024 := by omega
    rw [e8, e9] at hk9
    exact hk9
  · cases ha
theorem z_step (C : zCt p R s0 M args meth c mm D dA A) (T : zSt ad A L xs s0 s0.heap) (X : zAt ph D dA A L xs s0.heap ad s H locs) (hl : zLr ad ls (znl mm) al) (ho : ∀ v ∈ al, zov (zcnt s) v) (hs : ∀ v ∈ st, zov (zcnt s) v) (hz : zi mm pc = some (i, len, a, bb)) (ha : zact ph mm pc al st s (i) a bb = some (pc', al', st', s')) (hn : n0 ≤ zcnt s) (hRc : zcnt s' - n0 ≤ R.cells) (hRs : zsl (zcnt s') - zsl n0 ≤ R.slots)
    (kk : zKt p l e R s0 M args below meth c Q ph D dA A L xs mm n0 s ad pc' al' st' s') : W p l e R s0 M args below meth c H locs (zcnt s - n0) (zsl (zcnt s) - zsl n0) Q (F0 M pc ls (st.map (zcv ad))) := by
  cases i with
  | iload_n k => exact zs_iload_n C T X hl ho hs hz ha hn hRc hRs kk
  | iload k => exact zs_iload C T X hl ho hs hz ha hn hRc hRs kk
  | lload_n k => exact zs_lload_n C T X hl ho hs hz ha hn hRc hRs kk
  | lload k => exact zs_lload C T X hl ho hs hz ha hn hRc hRs kk
  | aload_n k => exact zs_aload_n C T X hl ho hs hz ha hn hRc hRs kk
  | aload k => exact zs_aload C T X hl ho hs hz ha hn hRc hRs kk
  | istore_n k => exact zs_istore_n C T X hl ho hs hz ha hn hRc hRs kk
  | istore k => exact zs_istore C T X hl ho hs hz ha hn hRc hRs kk
  | astore_n k => exact zs_astore_n C T X hl ho hs hz ha hn hRc hRs kk
  | astore k => exact zs_astore C T X hl ho hs hz ha hn hRc hRs kk
  | lstore k => exact zs_lstore C T X hl ho hs hz ha hn hRc hRs kk
  | iinc k n => exact zs_iinc C T X hl ho hs hz ha hn hRc hRs kk
  | iconst n => exact zs_iconst C T X hl ho hs hz ha hn hRc hRs kk
  | bipush n => exact zs_bipush C T X hl ho hs hz ha hn hRc hRs kk
  | sipush n => exact zs_sipush C T X hl ho hs hz ha hn hRc hRs kk
  | ldc n => exact zs_ldc C T X hl ho hs hz ha hn hRc hRs kk
  | ldc_w n => exact zs_ldc_w C T X hl ho hs hz ha hn hRc hRs kk
  | ldc2_w n => exact zs_ldc2_w C T X hl ho hs hz ha hn hRc hRs kk
  | lconst n => exact zs_lconst C T X hl ho hs hz ha hn hRc hRs kk
  | iadd => exact zs_iadd C T X hl ho hs hz ha hn hRc hRs kk
  | isub => exact zs_isub C T X hl ho hs hz ha hn hRc hRs kk
  | imul => exact zs_imul C T X hl ho hs hz ha hn hRc hRs kk
  | idiv => exact zs_idiv C T X hl ho hs hz ha hn hRc hRs kk
  | irem => exact zs_irem C T X hl ho hs hz ha hn hRc hRs kk
  | iand => exact zs_iand C T X hl ho hs hz ha hn hRc hRs kk
  | ior => exact zs_ior C T X hl ho hs hz ha hn hRc hRs kk
  | ixor => exact zs_ixor C T X hl ho hs hz ha hn hRc hRs kk
  | ishl => exact zs_ishl C T X hl ho hs hz ha hn hRc hRs kk
  | ishr => exact zs_ishr C T X hl ho hs hz ha hn hRc hRs kk
  | iushr => exact zs_iushr C T X hl ho hs hz ha hn hRc hRs kk
  | ladd => exact zs_ladd C T X hl ho hs hz ha hn hRc hRs kk
  | lmul => exact zs_lmul C T X hl ho hs hz ha hn hRc hRs kk
  | lshl => exact zs_lshl C T X hl ho hs hz ha hn hRc hRs kk
  | lshr => exact zs_lshr C T X hl ho hs hz ha hn hRc hRs kk
  | lcmp => exact zs_lcmp C T X hl ho hs hz ha hn hRc hRs kk
  | i2l => exact zs_i2l C T X hl ho hs hz ha hn hRc hRs kk
  | l2i => exact zs_l2i C T X hl ho hs hz ha hn hRc hRs kk
  | i2b => exact zs_i2b C T X hl ho hs hz ha hn hRc hRs kk
  | i2s => exact zs_i2s C T X hl ho hs hz ha hn hRc hRs kk
  | dup => exact zs_dup C T X hl ho hs hz ha hn hRc hRs kk
  | dup2 => exact zs_dup2 C T X hl ho hs hz ha hn hRc hRs kk
  | goto o => exact zs_goto C T X hl ho hs hz ha hn hRc hRs kk
  | ifCond c o => exact zs_ifCond C T X hl ho hs hz ha hn hRc hRs kk
  | if_icmp c o => exact zs_if_icmp C T X hl ho hs hz ha hn hRc hRs kk
  | if_acmp c o => exact zs_if_acmp C T X hl ho hs hz ha hn hRc hRs kk
  | tableswitch d lo hi os => exact zs_tableswitch C T X hl ho hs hz ha hn hRc hRs kk
  | getfield ix => exact zs_getfield C T X hl ho hs hz ha hn hRc hRs kk
  | putfield ix => exact zs_putfield C T X hl ho hs hz ha hn hRc hRs kk
  | getstatic ix => exact zs_getstatic C T X hl ho hs hz ha hn hRc hRs kk
  | arraylength => exact zs_arraylength C T X hl ho hs hz ha hn hRc hRs kk
  | iaload => exact zs_iaload C T X hl ho hs hz ha hn hRc hRs kk
  | baload => exact zs_baload C T X hl ho hs hz ha hn hRc hRs kk
  | laload => exact zs_laload C T X hl ho hs hz ha hn hRc hRs kk
  | aaload => exact zs_aaload C T X hl ho hs hz ha hn hRc hRs kk
  | iastore => exact zs_iastore C T X hl ho hs hz ha hn hRc hRs kk
  | bastore => exact zs_bastore C T X hl ho hs hz ha hn hRc hRs kk
  | lastore => exact zs_lastore C T X hl ho hs hz ha hn hRc hRs kk
  | aastore => exact zs_aastore C T X hl ho hs hz ha hn hRc hRs kk
  | new ix => exact zs_new C T X hl ho hs hz ha hn hRc hRs kk
  | newarray t => exact zs_newarray C T X hl ho hs hz ha hn hRc hRs kk
  | anewarray ix => exact zs_anewarray C T X hl ho hs hz ha hn hRc hRs kk
  | multianewarray ix d => exact zs_multianewarray C T X hl ho hs hz ha hn hRc hRs kk
  | invokespecial ix => exact zs_invokespecial C T X hl ho hs hz ha hn hRc hRs kk
  | invokestatic ix => exact zs_invokestatic C T X hl ho hs hz ha hn hRc hRs kk
  | _ => exact absurd ha (by intro z; cases z)
end ZS6
theorem zsame {s s' : zS} {pc pc' : Nat} {ls ls' st st' : List zV} (h : some (pc, ls, st, s) = some (pc', ls', st', s')) : zcnt s ≤ zcnt s' := by
  cases h
  exact Nat.le_refl _
theorem zact_cnt {ph : Bool} {m pc pc' b : Nat} {ls ls' st st' : List zV} {s s' : zS} {i : Instr} {a : Int} (h : zact ph m pc ls st s i a b = some (pc', ls', st', s')) : zcnt s ≤ zcnt s' := by
  have z200 : zak 200 = 9 := by decide +kernel
  cases i with
  | iload_n k => 
    dsimp only [zact] at h
    split at h
    · exact zsame h
    · cases h
  | iload k => 
    dsimp only [zact] at h
    split at h
    · exact zsame h
    · cases h
  | lload_n k => 
    dsimp only [zact] at h
    split at h
    · exact zsame h
    · cases h
  | lload k => 
    dsimp only [zact] at h
    split at h
    · exact zsame h
    · cases h
  | aload_n k => 
    dsimp only [zact] at h
    split at h
    · exact zsame h
    · cases h
  | aload k => 
    dsimp only [zact] at h
    split at h
    · exact zsame h
    · cases h
  | istore_n k => 
    dsimp only [zact] at h
    split at h
    · exact zsame (zbif h).2
    · cases h
  | istore k => 
    dsimp only [zact] at h
    split at h
    · exact zsame (zbif h).2
    · cases h
  | astore_n k => 
    dsimp only [zact] at h
    split at h
    · exact zsame (zbif h).2
    · cases h
  | astore k => 
    dsimp only [zact] at h
    split at h
    · exact zsame (zbif h).2
    · cases h
  | lstore k => 
    dsimp only [zact] at h
    split at h
    · exact zsame (zbif h).2
    · cases h
  | iinc k n => 
    dsimp only [zact] at h
    split at h
    · exact zsame (zbif h).2
    · cases h
  | iconst n => exact zsame h
  | bipush n => exact zsame h
  | sipush n => exact zsame h
  | ldc n => exact zsame h
  | ldc_w n => exact zsame h
  | ldc2_w n => exact zsame h
  | lconst n => exact zsame h
  | iadd => 
    dsimp only [zact] at h
    split at h
    · exact zsame h
    · cases h
  | isub => 
    dsimp only [zact] at h
    split at h
    · exact zsame h
    · cases h
  | imul => 
    dsimp only [zact] at h
    split at h
    · exact zsame h
    · cases h
  | idiv => 
    dsimp only [zact] at h
    split at h
    · exact zsame (zifn h).2
    · cases h
  | irem => 
    dsimp only [zact] at h
    split at h
    · exact zsame (zifn h).2
    · cases h
  | iand => 
    dsimp only [zact] at h
    split at h
    · exact zsame h
    · cases h
  | ior => 
    dsimp only [zact] at h
    split at h
    · exact zsame h
    · cases h
  | ixor => 
    dsimp only [zact] at h
    split at h
    · exact zsame h
    · cases h
  | ishl => 
    dsimp only [zact] at h
    split at h
    · exact zsame h
    · cases h
  | ishr => 
    dsimp only [zact] at h
    split at h
    · exact zsame h
    · cases h
  | iushr => 
    dsimp only [zact] at h
    split at h
    · exact zsame h
    · cases h
  | ladd => 
    dsimp only [zact] at h
    split at h
    · exact zsame h
    · cases h
  | lmul => 
    dsimp only [zact] at h
    split at h
    · exact zsame h
    · cases h
  | lshl => 
    dsimp only [zact] at h
    split at h
    · exact zsame h
    · cases h
  | lshr => 
    dsimp only [zact] at h
    split at h
    · exact zsame h
    · cases h
  | lcmp => 
    dsimp only [zact] at h
    split at h
    · exact zsame h
    · cases h
  | i2l => 
    dsimp only [zact] at h
    split at h
    · exact zsame h
    · cases h
  | l2i => 
    dsimp only [zact] at h
    split at h
    · exact zsame h
    · cases h
  | i2b => 
    dsimp only [zact] at h
    split at h
    · exact zsame h
    · cases h
  | i2s => 
    dsimp only [zact] at h
    split at h
    · exact zsame h
    · cases h
  | dup => 
    dsimp only [zact] at h
    split at h
    · exact zsame h
    · exact zsame h
    · cases h
  | dup2 => 
    dsimp only [zact] at h
    split at h
    · exact zsame h
    · cases h
  | goto o => exact zsame h
  | ifCond c o => 
    dsimp only [zact] at h
    split at h
    · exact zsame h
    · cases h
  | if_icmp c o => 
    dsimp only [zact] at h
    split at h
    · exact zsame h
    · cases h
  | if_acmp c o => 
    dsimp only [zact] at h
    split at h
    · exact zsame (zbif h).2
    · cases h
  | tableswitch d lo hi os => 
    dsimp only [zact] at h
    split at h
    · exact zsame (zif h).2
    · cases h
  | getstatic ix => exact zsame h
  | arraylength => 
    dsimp only [zact] at h
    split at h
    · exact zsame (zbif h).2
    · cases h
  | iaload => 
    dsimp only [zact] at h
    split at h
    · exact zsame (zif h).2
    · cases h
  | baload => 
    dsimp only [zact] at h
    split at h
    · exact zsame (zif h).2
    · cases h
  | laload => 
    dsimp only [zact] at h
    split at h
    · exact zsame (zif h).2
    · cases h
  | aaload => 
    dsimp only [zact] at h
    split at h
    · exact zsame (zbif (zif h).2).2
    · cases h
  | invokespecial ix => 
    dsimp only [zact] at h
    split at h
    · exact zsame (zbif h).2
    · cases h
  | getfield ix =>
    dsimp only [zact] at h
    unfold zgetf at h
    split at h
    · have h := (zbif h).2
      cases h1 : Nat.ble (zfk a.toNat b) 1 with
      | true => rw [h1, cond_true] at h; exact zsame h
      | false =>
        rw [h1, cond_false] at h
        cases h2 : Nat.beq (zfk a.toNat b) 2 with
        | true => rw [h2, cond_true] at h; exact zsame h
        | false => rw [h2, cond_false] at h; exact zsame (zbif h).2
    · cases h
  | putfield ix =>
    dsimp only [zact] at h
    unfold zputf at h
    split at h
    · rename_i v r t
      obtain ⟨hg, h⟩ := zbif h
      simp only [Bool.and_eq_true] at hg
      have g2 := zlt' hg.1.1.2
      have up : ∀ x : Int, zcnt (zup s r.1 r.2 b x) = zcnt s := fun x => zcnt_up (by omega)
      have fin : ∀ x : Int, some (pc + 3, ls, t, zup s r.1 r.2 b x) = some (pc', ls', st', s') → zcnt s ≤ zcnt s' := fun x hh => by
        have := zsame hh
        rw [up x] at this
        exact this
      rcases v with x | x | w | u
      · dsimp only at h
        cases h1 : Nat.beq (zfk a.toNat b) 0 with
        | true => rw [h1, cond_true] at h; exact fin _ h
        | false => rw [h1, cond_false] at h; exact fin _ (zif (zbif h).2).2
      · exact fin _ (zbif h).2
      · exact fin _ (zbif h).2
      · cases h
    · cases h
  | iastore =>
    dsimp only [zact] at h
    split at h
    · obtain ⟨hc, h⟩ := zif h
      have := zsame h
      rw [zcnt_up (by omega)] at this
      exact this
    · cases h
  | bastore =>
    dsimp only [zact] at h
    split at h
    · obtain ⟨hc, h⟩ := zif h
      have := zsame h
      rw [zcnt_up (fun z => by rw [z] at hc; omega)] at this
      exact this
    · cases h
  | lastore =>
    dsimp only [zact] at h
    split at h
    · obtain ⟨hc, h⟩ := zif h
      have := zsame h
      rw [zcnt_up (fun z => by rw [z] at hc; omega)] at this
      exact this
    · cases h
  | aastore =>
    dsimp only [zact] at h
    split at h
    · obtain ⟨hc, h⟩ := zif h
      have := zsame h
      rw [zcnt_up (fun z => by rw [z] at hc; omega)] at this
      exact this
    · cases h
  | new ix =>
    dsimp only [zact] at h
    split at h
    · rename_i g i s9 hal
      obtain ⟨_, _, _, _, _, _, hs9⟩ := zal hal
      have := zsame (zbif h).2
      rw [hs9, zal_cnt] at this
      omega
    · cases h
  | newarray t =>
    dsimp only [zact] at h
    split at h
    · split at h
      · rename_i g i s9 hal
        obtain ⟨_, _, _, _, _, _, hs9⟩ := zal hal
        have := zsame h
        rw [hs9, zal_cnt] at this
        omega
      · cases h
    · cases h
  | anewarray ix =>
    dsimp only [zact] at h
    split at h
    · split at h
      · rename_i g i s9 hal
        obtain ⟨_, _, _, _, _, _, hs9⟩ := zal hal
        have := zsame h
        rw [hs9, zal_cnt] at this
        omega
      · cases h
    · cases h
  | multianewarray ix d =>
    dsimp only [zact] at h
    split at h
    · obtain ⟨hc, h⟩ := zif h
      have := zsame h
      rw [zmu_cnt] at this
      omega
    · cases h
  | invokestatic ix =>
    dsimp only [zact] at h
    by_cases a2 : a = 902
    · rw [decide_eq_true a2, cond_true] at h
      split at h
      · exact zsame (zbif h).2
      · cases h
    · rw [decide_eq_false a2, cond_false] at h
      by_cases a3 : a = 903
      · rw [decide_eq_true a3, cond_true] at h
        split at h
        · exact zsame (zbif h).2
        · cases h
      · rw [decide_eq_false a3, cond_false] at h
        by_cases a4 : a = 904
        · rw [decide_eq_true a4, cond_true] at h
          split at h
          · exact zsame (zbif h).2
          · cases h
        · rw [decide_eq_false a4, cond_false] at h
          have h := (zbif h).2
          split at h
          · rename_i n dp w sp r t _
            obtain ⟨hc, h⟩ := zif (zbif h).2
            have := zsame h
            have e : zcnt (zcpy s r.1 r.2 sp w.1 w.2 dp n) = zcnt s := by
              unfold zcnt zcpy
              rw [if_neg (fun z => by omega)]
            rw [e] at this
            exact this
          · cases h
  | _ => exact absurd h (by intro z; cases z)
theorem zbs_cnt {ph : Bool} : ∀ (n : Nat) {m pc : Nat} {ls st : List zV} {s s' : zS} {v : Option zV}, zbs ph n m pc ls st s = some (v, s') → zcnt s ≤ zcnt s' := by
  intro n
  induction n with
  | zero => intro m pc ls st s s' v h; cases h
  | succ n ih =>
    intro m pc ls st s s' v h
    unfold zbs at h
    split at h
    · cases h
    · split at h
      · cases h; exact Nat.le_refl _
      · split at h
        · split at h
          · rename_i hc
            exact Nat.le_trans (ih hc) (ih h)
          · cases h
        · split at h
          · rename_i ha
            exact Nat.le_trans (zact_cnt ha) (ih h)
          · cases h

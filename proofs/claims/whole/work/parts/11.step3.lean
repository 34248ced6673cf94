theorem zc_i {j : Int} (h : 0 ≤ j) : ((j.toNat : Nat) : Int) = j := Int.toNat_of_nonneg h
/-- what is known of a live array -/
theorem z_arr {n : Nat} {r : Nat × Int} {q : Nat} {dA : Nat → ClassId} (q2 : q < zN) (q3 : znm q = r) (hk : zak r.1 ≤ 3) : 12 < r.1 ∧ r.1 ≤ 107 ∧ lg r.1 < 10000 ∧ (∃ t0 : Nat, (ztys dA)[t0]? = some (dA (tg r.1), zat (tg r.1))) ∧ (zak r.1 = 0 → zat (tg r.1) = .int) ∧ (zak r.1 = 1 → zat (tg r.1) = .boolean) ∧ (zak r.1 = 2 → zat (tg r.1) = .long) := by
  have g := zarr_g q2 q3 hk
  obtain ⟨h1, h2, h3, h4⟩ := zarr_f q2 q3 g
  refine ⟨g, by rw [← q3]; exact zg_le' q q2, h4, ztys_at h2, fun h => ?_, fun h => ?_, fun h => ?_⟩
  · rw [h3, if_pos h]
  · rw [h3, if_neg (by omega), if_pos h]
  · rw [h3, if_neg (by omega), if_neg (by omega), if_pos h]
theorem zra_f : ∀ k, k < 115 → zak (zn k).1 = 3 → (tg (zra (zn k).1) < 12 → (zn k).1 ≠ 43 ∧ tg (zn k).1 - 30 = tg (zra (zn k).1) ∧ zra (zn k).1 ≤ 12) ∧ zra (zn k).1 ≤ 107 := by decide +kernel
theorem zat_ref : ∀ k, k < 115 → zak (zn k).1 = 3 → (zat (tg (zn k).1)).isReference = true := by decide +kernel
theorem zup_arr {s : zS} {r : Nat × Int} {j x : Int} (hj : 0 ≤ j) (f : Int → Int32) : upd (fun k : Nat => f (s r.1 r.2 k)) j.toNat (f x) = fun k : Nat => f (zup s r.1 r.2 j x r.1 r.2 k) := by
  funext k
  unfold upd
  rw [zup_at]
  by_cases e : k = j.toNat
  · rw [if_pos e, if_pos (by omega)]
  · rw [if_neg e, if_neg (by omega)]
theorem zup_arrL {s : zS} {r : Nat × Int} {j x : Int} (hj : 0 ≤ j) (f : Int → Int64) : vp_updL (fun k : Nat => f (s r.1 r.2 k)) j.toNat (f x) = fun k : Nat => f (zup s r.1 r.2 j x r.1 r.2 k) := by
  funext k
  unfold vp_updL
  rw [zup_at]
  by_cases e : k = j.toNat
  · rw [if_pos e, if_pos (by omega)]
  · rw [if_neg e, if_neg (by omega)]
theorem zlow {n : Nat} {r : Nat × Int} (h : zov n (.inr (.inr (.inl r)))) (hk : 1 ≤ zak r.1) : r.1 ≤ 107 := by
  rcases h with h | h | h | h
  · obtain ⟨k, _, k2, k3⟩ := h
    rw [← k3]
    exact zg_le' k k2
  · subst h; exact absurd hk (by decide)
  · subst h; exact absurd hk (by decide)
  · subst h; exact absurd hk (by decide)
section ZS3
variable {p : Program} {l : Launch} {e : Env} {R : Room} {s0 : State} {M : MethodId} {args : Array Value} {below : List Frame} {meth : Method} {c : Code} {Q : State → Prop}
variable {ph : Bool} {D : va_G} {dA : Nat → ClassId} {A : Nat → Prop} {L : Nat} {xs : Nat → Int32} {mm n0 pc pc' len bb : Nat} {a : Int} {i : Instr} {ad : Nat → Int → Nat} {s s' : zS} {H : Heap} {locs : List Loc} {ls : Array Slot} {al al' st st' : List zV}
/-- behind a store into an array: the world goes on -/
theorem z_stored (X : zAt ph D dA A L xs s0.heap ad s H locs) {r : Nat × Int} {q : Nat} {j x : Int} {F : (Nat → Int32) ⊕ (Nat → Int64) ⊕ (Nat → UInt32) ⊕ (Nat → UInt64) ⊕ (Nat → Option Nat)} (q1 : q < zcnt s) (q3 : znm q = r) (hg : 12 < r.1) (hg2 : r.1 ≤ 107) (hj : 0 ≤ j) (hso : zso ph (zcnt s) r j.toNat x) (hF : F = zar ph ad (zup s r.1 r.2 j x r.1 r.2) r) {H1 : Heap} {locs1 : List Loc}
    (hP : va_P D vwCl ((zws ph dA ad s).set q (ad r.1 r.2, .inl (dA (tg r.1), lg r.1, F))) H1) (hD : va_D A ((zws ph dA ad s).set q (ad r.1 r.2, .inl (dA (tg r.1), lg r.1, F)))) (hS : va_S A s0.heap H1 locs1) : zcnt (zup s r.1 r.2 j x) = zcnt s ∧ zAt ph D dA A L xs s0.heap ad (zup s r.1 r.2 j x) H1 locs1 := by
  have hc : zcnt (zup s r.1 r.2 j x) = zcnt s := zcnt_up (by omega)
  have hw : (zws ph dA ad s).set q (ad r.1 r.2, .inl (dA (tg r.1), lg r.1, F)) = zws ph dA ad (zup s r.1 r.2 j x) := by
    refine zws_set X.2.2.2.1.1 q1 q3 hc (fun r' hr' _ => zup_row (fun z => hr' z)) zg_le' ?_
    unfold zcell
    rw [zbln hg, cond_false, hF]
  rw [hw] at hP hD
  refine ⟨hc, hP, hD, hS, ?_, zsta_up X.2.2.2.2 hg2⟩
  have := zoks_up (j := j.toNat) (x := x) X.2.2.2.1 q3 q1 hso (by omega)
  rw [zc_i hj] at this
  exact this
theorem zs_arraylength (C : zCt p R s0 M args meth c mm D dA A) (T : zSt ad A L xs s0 s0.heap) (X : zAt ph D dA A L xs s0.heap ad s H locs) (hl : zLr ad ls (znl mm) al) (ho : ∀ v ∈ al, zov (zcnt s) v) (hs : ∀ v ∈ st, zov (zcnt s) v) (hz : zi mm pc = some (.arraylength, len, a, bb)) (ha : zact ph mm pc al st s (.arraylength) a bb = some (pc', al', st', s')) (hn : n0 ≤ zcnt s) (hRc : zcnt s' - n0 ≤ R.cells) (hRs : zsl (zcnt s') - zsl n0 ≤ R.slots)
    (kk : zKt p l e R s0 M args below meth c Q ph D dA A L xs mm n0 s ad pc' al' st' s') : W p l e R s0 M args below meth c H locs (zcnt s - n0) (zsl (zcnt s) - zsl n0) Q (F0 M pc ls (st.map (zcv ad))) := by
  obtain ⟨hx, hb, hml, hown, hts, hnm, hfr, hlo, hK, hNw, hA, hAO⟩ := C
  have hd := z_dec hz
  have e2 := z_ec2 hz
  obtain rfl : len = 1 := z_len hz (by intros; intro z; cases z)
  dsimp only [zact] at ha
  split at ha
  · rename_i r t
    obtain ⟨hk, ha⟩ := zbif ha
    cases ha
    rw [Bool.and_eq_true, decide_eq_true_eq] at hk
    have hk0 := hk.2
    have hk := zlt' hk.1
    obtain ⟨hr, h2⟩ := List.forall_mem_cons.mp hs
    rcases hr with hr | hr | hr | hr
    · obtain ⟨q, q1, q2, q3⟩ := hr
      obtain ⟨g1, g2, g3, ⟨t0, ht⟩, -⟩ := z_arr (dA := dA) (n := 0) q2 q3 hk
      have e9 : zln s r.1 = (lg r.1 : Int) := zln_g g2
      refine va_alen hx hb hK X.1 q t0 (zws_arr q1 q3 g1) ht (v := Int32.ofInt (zln s r.1)) (by rw [e9]; rfl) hd ?_
      exact kk ad H locs ls zext.rf X hl ho (List.forall_mem_cons.mpr ⟨(by show _ ∧ _; rw [e9]; omega), h2⟩)
    · subst hr
      exact va_tlen hx hb T.1.2 X.2.2.1 (v := Int32.ofInt (zln s 108)) rfl hd (kk ad H locs ls zext.rf X hl ho (List.forall_mem_cons.mpr ⟨(show -2147483648 ≤ (4 : Int) ∧ (4 : Int) < 2147483648 by omega), h2⟩))
    · subst hr
      exact va_tlen hx hb T.2.1.2 X.2.2.1 (v := Int32.ofInt (zln s 109)) rfl hd (kk ad H locs ls zext.rf X hl ho (List.forall_mem_cons.mpr ⟨(show -2147483648 ≤ (4 : Int) ∧ (4 : Int) < 2147483648 by omega), h2⟩))
    · subst hr
      have e10 : zln s 110 = s 111 0 0 := rfl
      have hsc : s 111 0 0 = (L : Int) ∧ L < 2147483648 := by
        rcases X.2.2.2.2.2.2 with h | ⟨h1, h3, -⟩
        · rw [e10] at hk0; omega
        · exact ⟨h1, h3⟩
      have e9 : zln s 110 = (L : Int) := hsc.1
      refine va_slen hx hb T.2.2.1 T.2.2.2.1 T.2.2.2.2 X.2.2.1 hd ?_
      have hk9 := kk ad H locs ls zext.rf X hl ho (List.forall_mem_cons.mpr ⟨(by show _ ∧ _; rw [e9]; have := hsc.2; omega), h2⟩)
      rw [List.map_cons, show zcv ad (.inl (zln s 110)) = .int (Int32.ofNat L) by show Value.int _ = _; rw [e9]; rfl] at hk9
      exact hk9
  · cases ha
theorem zs_iaload (C : zCt p R s0 M args meth c mm D dA A) (T : zSt ad A L xs s0 s0.heap) (X : zAt ph D dA A L xs s0.heap ad s H locs) (hl : zLr ad ls (znl mm) al) (ho : ∀ v ∈ al, zov (zcnt s) v) (hs : ∀ v ∈ st, zov (zcnt s) v) (hz : zi mm pc = some (.iaload, len, a, bb)) (ha : zact ph mm pc al st s (.iaload) a bb = some (pc', al', st', s')) (hn : n0 ≤ zcnt s) (hRc : zcnt s' - n0 ≤ R.cells) (hRs : zsl (zcnt s') - zsl n0 ≤ R.slots)
    (kk : zKt p l e R s0 M args below meth c Q ph D dA A L xs mm n0 s ad pc' al' st' s') : W p l e R s0 M args below meth c H locs (zcnt s - n0) (zsl (zcnt s) - zsl n0) Q (F0 M pc ls (st.map (zcv ad))) := by
  obtain ⟨hx, hb, hml, hown, hts, hnm, hfr, hlo, hK, hNw, hA, hAO⟩ := C
  have hd := z_dec hz
  have e2 := z_ec2 hz
  obtain rfl : len = 1 := z_len hz (by intros; intro z; cases z)
  dsimp only [zact] at ha
  split at ha
  · rename_i j r t
    obtain ⟨⟨k0, j0, j1⟩, ha⟩ := zif ha
    cases ha
    obtain ⟨hj, h1⟩ := List.forall_mem_cons.mp hs
    obtain ⟨hr, h2⟩ := List.forall_mem_cons.mp h1
    rcases hr with hr | hr | hr | hr
    · obtain ⟨q, q1, q2, q3⟩ := hr
      obtain ⟨g1, g2, g3, ⟨t0, ht⟩, gi, gz, gl⟩ := z_arr (dA := dA) (n := 0) q2 q3 (by omega)
      rw [zln_g g2] at j1
      have hws : (zws ph dA ad s)[q]? = some _ := zws_arr q1 q3 g1
      rw [zar_i (by omega)] at hws
      rw [gi k0] at ht
      refine va_iald hx hb hK X.1 q t0 hws ht (zn_in j0 j1 (by omega)) hd ?_
      have hok := X.2.2.2.1.2 q q1 j.toNat (by rw [q3]; omega)
      rw [q3, zc_i j0] at hok
      unfold zso at hok
      rw [zsk_a g1] at hok
      have hk9 := kk ad H locs ls zext.rf X hl ho (List.forall_mem_cons.mpr ⟨hok.1 k0, h2⟩)
      rw [zn_cl j0 (by omega), zc_i j0]
      exact hk9
    · subst hr
      have e9 : zln s 108 = 4 := rfl
      rw [e9] at j1
      have e8 := X.2.2.2.2.1 j.toNat (by omega)
      rw [zc_i j0] at e8
      refine va_ti hx hb T.1.2 X.2.2.1 (zn_in j0 j1 (by omega)) (v := zcv ad (zI (s 108 0 j))) (by rw [zn_cl j0 (by omega), e8]; rfl) hd ?_
      refine kk ad H locs ls zext.rf X hl ho (List.forall_mem_cons.mpr ⟨?_, h2⟩)
      show _ ∧ _
      rw [e8]
      have h4 : ∀ k, k < 4 → -2147483648 ≤ z108 k ∧ z108 k < 2147483648 := by decide
      exact h4 _ (by omega)
    · subst hr
      have e9 : zln s 109 = 4 := rfl
      rw [e9] at j1
      have e8 := X.2.2.2.2.2.1 j.toNat (by omega)
      rw [zc_i j0] at e8
      refine va_ti hx hb T.2.1.2 X.2.2.1 (zn_in j0 j1 (by omega)) (v := zcv ad (zI (s 109 0 j))) (by rw [zn_cl j0 (by omega), e8]; rfl) hd ?_
      refine kk ad H locs ls zext.rf X hl ho (List.forall_mem_cons.mpr ⟨?_, h2⟩)
      show _ ∧ _
      rw [e8]
      have h4 : ∀ k, k < 4 → -2147483648 ≤ z109 k ∧ z109 k < 2147483648 := by decide
      exact h4 _ (by omega)
    · subst hr
      have e10 : zln s 110 = s 111 0 0 := rfl
      have hsc : s 111 0 0 = (L : Int) ∧ L < 2147483648 ∧ ∀ j : Nat, j < L → s 110 0 j = (xs j).toInt := by
        rcases X.2.2.2.2.2.2 with h | h
        · rw [e10] at j1; omega
        · exact h
      rw [e10, hsc.1] at j1
      have hL := hsc.2.1
      have e8 := hsc.2.2 j.toNat (by omega)
      rw [zc_i j0] at e8
      refine va_sld hx hb T.2.2.1 T.2.2.2.1 T.2.2.2.2 X.2.2.1 (zn_in j0 j1 hL) hd ?_
      have hk9 := kk ad H locs ls zext.rf X hl ho (List.forall_mem_cons.mpr ⟨(by show _ ∧ _; rw [e8]; exact zr_ti _), h2⟩)
      rw [List.map_cons, show zcv ad (.inl (s 110 0 j)) = .int (xs (Int32.ofInt j).toNatClampNeg) by show Value.int _ = _; rw [zn_cl j0 (by omega), e8, zn_oi]] at hk9
      exact hk9
  · cases ha
theorem zs_baload (C : zCt p R s0 M args meth c mm D dA A) (T : zSt ad A L xs s0 s0.heap) (X : zAt ph D dA A L xs s0.heap ad s H locs) (hl : zLr ad ls (znl mm) al) (ho : ∀ v ∈ al, zov (zcnt s) v) (hs : ∀ v ∈ st, zov (zcnt s) v) (hz : zi mm pc = some (.baload, len, a, bb)) (ha : zact ph mm pc al st s (.baload) a bb = some (pc', al', st', s')) (hn : n0 ≤ zcnt s) (hRc : zcnt s' - n0 ≤ R.cells) (hRs : zsl (zcnt s') - zsl n0 ≤ R.slots)
    (kk : zKt p l e R s0 M args below meth c Q ph D dA A L xs mm n0 s ad pc' al' st' s') : W p l e R s0 M args below meth c H locs (zcnt s - n0) (zsl (zcnt s) - zsl n0) Q (F0 M pc ls (st.map (zcv ad))) := by
  obtain ⟨hx, hb, hml, hown, hts, hnm, hfr, hlo, hK, hNw, hA, hAO⟩ := C
  have hd := z_dec hz
  have e2 := z_ec2 hz
  obtain rfl : len = 1 := z_len hz (by intros; intro z; cases z)
  dsimp only [zact] at ha
  split at ha
  · rename_i j r t
    obtain ⟨⟨k0, j0, j1⟩, ha⟩ := zif ha
    cases ha
    obtain ⟨hj, h1⟩ := List.forall_mem_cons.mp hs
    obtain ⟨hr, h2⟩ := List.forall_mem_cons.mp h1
    rcases hr with hr | hr | hr | hr
    · obtain ⟨q, q1, q2, q3⟩ := hr
      obtain ⟨g1, g2, g3, ⟨t0, ht⟩, gi, gz, gl⟩ := z_arr (dA := dA) (n := 0) q2 q3 (by omega)
      rw [zln_g g2] at j1
      have hws : (zws ph dA ad s)[q]? = some _ := zws_arr q1 q3 g1
      rw [zar_i (by omega)] at hws
      rw [gz k0] at ht
      refine va_zald hx hb hK X.1 q t0 hws ht (zn_in j0 j1 (by omega)) hd ?_
      have hok := X.2.2.2.1.2 q q1 j.toNat (by rw [q3]; omega)
      rw [q3, zc_i j0] at hok
      unfold zso at hok
      rw [zsk_a g1] at hok
      have hk9 := kk ad H locs ls zext.rf X hl ho (List.forall_mem_cons.mpr ⟨(by show _ ∧ _; rcases hok.2.1 k0 with h | h <;> rw [h] <;> omega), h2⟩)
      rw [zn_cl j0 (by omega), zc_i j0]
      exact hk9
    · subst hr; exact absurd k0 (by decide)
    · subst hr; exact absurd k0 (by decide)
    · subst hr; exact absurd k0 (by decide)
  · cases ha
theorem zs_laload (C : zCt p R s0 M args meth c mm D dA A) (T : zSt ad A L xs s0 s0.heap) (X : zAt ph D dA A L xs s0.heap ad s H locs) (hl : zLr ad ls (znl mm) al) (ho : ∀ v ∈ al, zov (zcnt s) v) (hs : ∀ v ∈ st, zov (zcnt s) v) (hz : zi mm pc = some (.laload, len, a, bb)) (ha : zact ph mm pc al st s (.laload) a bb = some (pc', al', st', s')) (hn : n0 ≤ zcnt s) (hRc : zcnt s' - n0 ≤ R.cells) (hRs : zsl (zcnt s') - zsl n0 ≤ R.slots)
    (kk : zKt p l e R s0 M args below meth c Q ph D dA A L xs mm n0 s ad pc' al' st' s') : W p l e R s0 M args below meth c H locs (zcnt s - n0) (zsl (zcnt s) - zsl n0) Q (F0 M pc ls (st.map (zcv ad))) := by
  obtain ⟨hx, hb, hml, hown, hts, hnm, hfr, hlo, hK, hNw, hA, hAO⟩ := C
  have hd := z_dec hz
  have e2 := z_ec2 hz
  obtain rfl : len = 1 := z_len hz (by intros; intro z; cases z)
  dsimp only [zact] at ha
  split at ha
  · rename_i j r t
    obtain ⟨⟨k0, j0, j1⟩, ha⟩ := zif ha
    cases ha
    obtain ⟨hj, h1⟩ := List.forall_mem_cons.mp hs
    obtain ⟨hr, h2⟩ := List.forall_mem_cons.mp h1
    rcases hr with hr | hr | hr | hr
    · obtain ⟨q, q1, q2, q3⟩ := hr
      obtain ⟨g1, g2, g3, ⟨t0, ht⟩, gi, gz, gl⟩ := z_arr (dA := dA) (n := 0) q2 q3 (by omega)
      rw [zln_g g2] at j1
      have hws : (zws ph dA ad s)[q]? = some _ := zws_arr q1 q3 g1
      rw [zar_l k0] at hws
      rw [gl k0] at ht
      refine va_lald hx hb hK X.1 q t0 hws ht (zn_in j0 j1 (by omega)) hd ?_
      have hok := X.2.2.2.1.2 q q1 j.toNat (by rw [q3]; omega)
      rw [q3, zc_i j0] at hok
      unfold zso at hok
      rw [zsk_a g1] at hok
      have hk9 := kk ad H locs ls zext.rf X hl ho (List.forall_mem_cons.mpr ⟨hok.2.2.1 k0, h2⟩)
      rw [zn_cl j0 (by omega), zc_i j0]
      exact hk9
    · subst hr; exact absurd k0 (by decide)
    · subst hr; exact absurd k0 (by decide)
    · subst hr; exact absurd k0 (by decide)
  · cases ha
theorem zs_aaload (C : zCt p R s0 M args meth c mm D dA A) (T : zSt ad A L xs s0 s0.heap) (X : zAt ph D dA A L xs s0.heap ad s H locs) (hl : zLr ad ls (znl mm) al) (ho : ∀ v ∈ al, zov (zcnt s) v) (hs : ∀ v ∈ st, zov (zcnt s) v) (hz : zi mm pc = some (.aaload, len, a, bb)) (ha : zact ph mm pc al st s (.aaload) a bb = some (pc', al', st', s')) (hn : n0 ≤ zcnt s) (hRc : zcnt s' - n0 ≤ R.cells) (hRs : zsl (zcnt s') - zsl n0 ≤ R.slots)
    (kk : zKt p l e R s0 M args below meth c Q ph D dA A L xs mm n0 s ad pc' al' st' s') : W p l e R s0 M args below meth c H locs (zcnt s - n0) (zsl (zcnt s) - zsl n0) Q (F0 M pc ls (st.map (zcv ad))) := by
  obtain ⟨hx, hb, hml, hown, hts, hnm, hfr, hlo, hK, hNw, hA, hAO⟩ := C
  have hd := z_dec hz
  have e2 := z_ec2 hz
  obtain rfl : len = 1 := z_len hz (by intros; intro z; cases z)
  dsimp only [zact] at ha
  split at ha
  · rename_i j r t
    obtain ⟨⟨k0, j0, j1⟩, ha⟩ := zif ha
    obtain ⟨hfl, ha⟩ := zbif ha
    cases ha
    obtain ⟨hj, h1⟩ := List.forall_mem_cons.mp hs
    obtain ⟨hr, h2⟩ := List.forall_mem_cons.mp h1
    rcases hr with hr | hr | hr | hr
    · obtain ⟨q, q1, q2, q3⟩ := hr
      obtain ⟨g1, g2, g3, ⟨t0, ht⟩, gi, gz, gl⟩ := z_arr (dA := dA) (n := 0) q2 q3 (by omega)
      rw [zln_g g2] at j1
      have hws : (zws ph dA ad s)[q]? = some _ := zws_arr q1 q3 g1
      rw [zar_q k0] at hws
      have hlt : (Int32.ofInt j).toNatClampNeg < lg r.1 := by rw [zn_cl j0 (by omega)]; omega
      have href : (zat (tg r.1)).isReference = true := by
        have := zat_ref q q2 (by have := congrArg Prod.fst q3; unfold znm at this; dsimp only at this; rw [this]; exact k0)
        have e9 := congrArg Prod.fst q3
        unfold znm at e9
        dsimp only at e9
        rw [e9] at this
        exact this
      have hok := X.2.2.2.1.2 q q1 j.toNat (by rw [q3]; omega)
      rw [q3, zc_i j0] at hok
      unfold zso at hok
      rw [zsk_a g1] at hok
      refine W.aald (v := .ref (ad (zra r.1) j)) (ty := zat (tg r.1)) hx hb (X.1 q _ hws) ((hK.2 t0 _ ht).1 (lg r.1) _) href (fun z => by cases z) ?_ ?_ rfl rfl hd ?_
      · show ¬ (_ ∨ (arrV _ _ _).slots.size ≤ _)
        rw [arrV_size]
        exact zn_in (n := lg r.1) j0 j1 (by omega)
      · show (arrV _ _ _).slots[_]? = _
        rw [arrV_read _ _ hlt, zn_cl j0 (by omega)]
        dsimp only
        rw [zc_i j0, hfl, zbl (show j.toNat + 1 ≤ lg r.1 by omega)]
        rfl
      · refine kk ad H locs ls zext.rf X hl ho (List.forall_mem_cons.mpr ⟨Or.inl ?_, h2⟩)
        have h8 := hok.2.2.2 (by omega) (by
          rw [Bool.or_eq_true, decide_eq_true_eq] at hfl
          exact hfl)
        unfold ztr at h8
        rw [zbln g1, cond_false, zc_i j0] at h8
        exact h8
    · subst hr; exact absurd k0 (by decide)
    · subst hr; exact absurd k0 (by decide)
    · subst hr; exact absurd k0 (by decide)
  · cases ha
theorem zs_iastore (C : zCt p R s0 M args meth c mm D dA A) (T : zSt ad A L xs s0 s0.heap) (X : zAt ph D dA A L xs s0.heap ad s H locs) (hl : zLr ad ls (znl mm) al) (ho : ∀ v ∈ al, zov (zcnt s) v) (hs : ∀ v ∈ st, zov (zcnt s) v) (hz : zi mm pc = some (.iastore, len, a, bb)) (ha : zact ph mm pc al st s (.iastore) a bb = some (pc', al', st', s')) (hn : n0 ≤ zcnt s) (hRc : zcnt s' - n0 ≤ R.cells) (hRs : zsl (zcnt s') - zsl n0 ≤ R.slots)
    (kk : zKt p l e R s0 M args below meth c Q ph D dA A L xs mm n0 s ad pc' al' st' s') : W p l e R s0 M args below meth c H locs (zcnt s - n0) (zsl (zcnt s) - zsl n0) Q (F0 M pc ls (st.map (zcv ad))) := by
  obtain ⟨hx, hb, hml, hown, hts, hnm, hfr, hlo, hK, hNw, hA, hAO⟩ := C
  have hd := z_dec hz
  have e2 := z_ec2 hz
  obtain rfl : len = 1 := z_len hz (by intros; intro z; cases z)
  dsimp only [zact] at ha
  split at ha
  · rename_i x j r t
    obtain ⟨⟨k0, j0, j1⟩, ha⟩ := zif ha
    cases ha
    obtain ⟨hx1, h0⟩ := List.forall_mem_cons.mp hs
    obtain ⟨hj, h1⟩ := List.forall_mem_cons.mp h0
    obtain ⟨hr, h2⟩ := List.forall_mem_cons.mp h1
    have ka : zak r.1 = 0 := k0.1
    obtain ⟨q, q1, q2, q3⟩ := z_live hr k0.2
    obtain ⟨g1, g2, g3, ⟨t0, ht⟩, gi, gz, gl⟩ := z_arr (dA := dA) (n := 0) q2 q3 (by omega)
    rw [zln_g g2] at j1
    have hws : (zws ph dA ad s)[q]? = some _ := zws_arr q1 q3 g1
    rw [zar_i (by omega)] at hws
    rw [gi ka] at ht
    refine va_iast (A := A) (H0 := s0.heap) hx hb hK X.1 X.2.1 X.2.2.1 q t0 hws ht (zn_in j0 j1 (by omega)) hd (fun H1 locs1 hP hD hS => ?_)
    rw [zn_cl j0 (by omega)] at hP hD
    obtain ⟨hc, X'⟩ := z_stored (x := x) (j := j) X q1 q3 g1 g2 j0 (by unfold zso; rw [zsk_a g1, ka]; exact ⟨fun _ => hx1, fun h => by omega, fun h => by omega, fun h => by omega⟩) (by rw [zar_i (by omega)]; exact congrArg Sum.inl (zup_arr j0 Int32.ofInt)) hP hD hS
    have hk9 := kk ad H1 locs1 ls zext.rf X' hl (by rw [hc]; exact ho) (by rw [hc]; exact h2)
    rw [hc] at hk9
    exact hk9
  · cases ha
theorem zs_bastore (C : zCt p R s0 M args meth c mm D dA A) (T : zSt ad A L xs s0 s0.heap) (X : zAt ph D dA A L xs s0.heap ad s H locs) (hl : zLr ad ls (znl mm) al) (ho : ∀ v ∈ al, zov (zcnt s) v) (hs : ∀ v ∈ st, zov (zcnt s) v) (hz : zi mm pc = some (.bastore, len, a, bb)) (ha : zact ph mm pc al st s (.bastore) a bb = some (pc', al', st', s')) (hn : n0 ≤ zcnt s) (hRc : zcnt s' - n0 ≤ R.cells) (hRs : zsl (zcnt s') - zsl n0 ≤ R.slots)
    (kk : zKt p l e R s0 M args below meth c Q ph D dA A L xs mm n0 s ad pc' al' st' s') : W p l e R s0 M args below meth c H locs (zcnt s - n0) (zsl (zcnt s) - zsl n0) Q (F0 M pc ls (st.map (zcv ad))) := by
  obtain ⟨hx, hb, hml, hown, hts, hnm, hfr, hlo, hK, hNw, hA, hAO⟩ := C
  have hd := z_dec hz
  have e2 := z_ec2 hz
  obtain rfl : len = 1 := z_len hz (by intros; intro z; cases z)
  dsimp only [zact] at ha
  split at ha
  · rename_i x j r t
    obtain ⟨⟨k0, j0, j1⟩, ha⟩ := zif ha
    cases ha
    obtain ⟨hx1, h0⟩ := List.forall_mem_cons.mp hs
    obtain ⟨hj, h1⟩ := List.forall_mem_cons.mp h0
    obtain ⟨hr, h2⟩ := List.forall_mem_cons.mp h1
    have ka : zak r.1 = 1 := k0.1
    obtain ⟨q, q1, q2, q3⟩ := z_live hr (zlow hr (by omega))
    obtain ⟨g1, g2, g3, ⟨t0, ht⟩, gi, gz, gl⟩ := z_arr (dA := dA) (n := 0) q2 q3 (by omega)
    rw [zln_g g2] at j1
    have hws : (zws ph dA ad s)[q]? = some _ := zws_arr q1 q3 g1
    rw [zar_i (by omega)] at hws
    rw [gz ka] at ht
    refine va_zast (A := A) (H0 := s0.heap) hx hb hK X.1 X.2.1 X.2.2.1 q t0 hws ht (zn_in j0 j1 (by omega)) hd (fun H1 locs1 hP hD hS => ?_)
    rw [zn_cl j0 (by omega)] at hP hD
    obtain ⟨hc, X'⟩ := z_stored (x := x) (j := j) X q1 q3 g1 g2 j0 (by unfold zso; rw [zsk_a g1, ka]; exact ⟨fun h => by omega, fun _ => k0.2, fun h => by omega, fun h => by omega⟩) (by rw [zar_i (by omega), show vp_nar .boolean (Int32.ofInt x) = Int32.ofInt x by unfold vp_nar; rw [(znb k0.2).1]]; exact congrArg Sum.inl (zup_arr j0 Int32.ofInt)) hP hD hS
    have hk9 := kk ad H1 locs1 ls zext.rf X' hl (by rw [hc]; exact ho) (by rw [hc]; exact h2)
    rw [hc] at hk9
    exact hk9
  · cases ha
theorem zs_lastore (C : zCt p R s0 M args meth c mm D dA A) (T : zSt ad A L xs s0 s0.heap) (X : zAt ph D dA A L xs s0.heap ad s H locs) (hl : zLr ad ls (znl mm) al) (ho : ∀ v ∈ al, zov (zcnt s) v) (hs : ∀ v ∈ st, zov (zcnt s) v) (hz : zi mm pc = some (.lastore, len, a, bb)) (ha : zact ph mm pc al st s (.lastore) a bb = some (pc', al', st', s')) (hn : n0 ≤ zcnt s) (hRc : zcnt s' - n0 ≤ R.cells) (hRs : zsl (zcnt s') - zsl n0 ≤ R.slots)
    (kk : zKt p l e R s0 M args below meth c Q ph D dA A L xs mm n0 s ad pc' al' st' s') : W p l e R s0 M args below meth c H locs (zcnt s - n0) (zsl (zcnt s) - zsl n0) Q (F0 M pc ls (st.map (zcv ad))) := by
  obtain ⟨hx, hb, hml, hown, hts, hnm, hfr, hlo, hK, hNw, hA, hAO⟩ := C
  have hd := z_dec hz
  have e2 := z_ec2 hz
  obtain rfl : len = 1 := z_len hz (by intros; intro z; cases z)
  dsimp only [zact] at ha
  split at ha
  · rename_i x j r t
    obtain ⟨⟨k0, j0, j1⟩, ha⟩ := zif ha
    cases ha
    obtain ⟨hx1, h0⟩ := List.forall_mem_cons.mp hs
    obtain ⟨hj, h1⟩ := List.forall_mem_cons.mp h0
    obtain ⟨hr, h2⟩ := List.forall_mem_cons.mp h1
    have ka : zak r.1 = 2 := k0
    obtain ⟨q, q1, q2, q3⟩ := z_live hr (zlow hr (by omega))
    obtain ⟨g1, g2, g3, ⟨t0, ht⟩, gi, gz, gl⟩ := z_arr (dA := dA) (n := 0) q2 q3 (by omega)
    rw [zln_g g2] at j1
    have hws : (zws ph dA ad s)[q]? = some _ := zws_arr q1 q3 g1
    rw [zar_l ka] at hws
    rw [gl ka] at ht
    refine va_last (A := A) (H0 := s0.heap) hx hb hK X.1 X.2.1 X.2.2.1 q t0 hws ht (zn_in j0 j1 (by omega)) hd (fun H1 locs1 hP hD hS => ?_)
    rw [zn_cl j0 (by omega)] at hP hD
    obtain ⟨hc, X'⟩ := z_stored (x := x) (j := j) X q1 q3 g1 g2 j0 (by unfold zso; rw [zsk_a g1, ka]; exact ⟨fun h => by omega, fun h => by omega, fun _ => hx1, fun h => by omega⟩) (by rw [zar_l ka]; exact congrArg (fun z => Sum.inr (Sum.inl z)) (zup_arrL j0 Int64.ofInt)) hP hD hS
    have hk9 := kk ad H1 locs1 ls zext.rf X' hl (by rw [hc]; exact ho) (by rw [hc]; exact h2)
    rw [hc] at hk9
    exact hk9
  · cases ha
theorem zs_aastore (C : zCt p R s0 M args meth c mm D dA A) (T : zSt ad A L xs s0 s0.heap) (X : zAt ph D dA A L xs s0.heap ad s H locs) (hl : zLr ad ls (znl mm) al) (ho : ∀ v ∈ al, zov (zcnt s) v) (hs : ∀ v ∈ st, zov (zcnt s) v) (hz : zi mm pc = some (.aastore, len, a, bb)) (ha : zact ph mm pc al st s (.aastore) a bb = some (pc', al', st', s')) (hn : n0 ≤ zcnt s) (hRc : zcnt s' - n0 ≤ R.cells) (hRs : zsl (zcnt s') - zsl n0 ≤ R.slots)
    (kk : zKt p l e R s0 M args below meth c Q ph D dA A L xs mm n0 s ad pc' al' st' s') : W p l e R s0 M args below meth c H locs (zcnt s - n0) (zsl (zcnt s) - zsl n0) Q (F0 M pc ls (st.map (zcv ad))) := by
  obtain ⟨hx, hb, hml, hown, hts, hnm, hfr, hlo, hK, hNw, hA, hAO⟩ := C
  have hd := z_dec hz
  have e2 := z_ec2 hz
  obtain rfl : len = 1 := z_len hz (by intros; intro z; cases z)
  dsimp only [zact] at ha
  split at ha
  · rename_i w j r t
    obtain ⟨⟨⟨hph, ka, hw⟩, j0, j1, hob⟩, ha⟩ := zif ha
    cases ha
    obtain ⟨hx1, h0⟩ := List.forall_mem_cons.mp hs
    obtain ⟨hj, h1⟩ := List.forall_mem_cons.mp h0
    obtain ⟨hr, h2⟩ := List.forall_mem_cons.mp h1
    obtain ⟨q, q1, q2, q3⟩ := z_live hr (zlow hr (by omega))
    obtain ⟨g1, g2, g3, ⟨t0, ht⟩, gi, gz, gl⟩ := z_arr (dA := dA) (n := 0) q2 q3 (by omega)
    rw [zln_g g2] at j1
    have e3 := congrArg Prod.fst q3
    unfold znm at e3
    dsimp only at e3
    obtain ⟨f1, f2⟩ := zra_f q q2 (by rw [e3]; exact ka)
    obtain ⟨f3, f4, f5⟩ := f1 (by rw [e3]; exact hob)
    rw [e3] at f2 f3 f4 f5
    obtain ⟨k, k1, k2, k3⟩ := z_live hx1 (by rw [hw]; exact f2)
    have k4 : w.1 ≤ 12 := by rw [hw]; exact f5
    have hws : (zws ph dA ad s)[q]? = some _ := zws_arr q1 q3 g1
    rw [zar_q ka] at hws
    have hat := (zarr_f q2 q3 g1).2.2.1
    rw [if_neg (by omega), if_neg (by omega), if_neg (by omega), if_neg f3, f4] at hat
    rw [hat] at ht
    have etg : tg w.1 = tg (zra r.1) := by rw [hw]
    refine va_astq (A := A) (H0 := s0.heap) (r := (zcl (tg (zra r.1)), zTc (tg (zra r.1)), lg (tg (zra r.1)))) hx hb hK X.1 X.2.1 X.2.2.1 q t0 k (tg w.1) hws ht (zws_obj k1 k3 k4) (by rw [etg]; exact zvw _ hob) (zn_in j0 j1 (by omega)) hd (fun H1 locs1 hP hD hS => ?_)
    rw [zn_cl j0 (by omega)] at hP hD
    obtain ⟨hc, X'⟩ := z_stored (x := 1) (j := j) X q1 q3 g1 g2 j0 (by
      unfold zso
      rw [zsk_a g1, ka]
      refine ⟨fun h => by omega, fun h => by omega, fun h => by omega, fun _ _ => ?_⟩
      unfold ztr
      rw [zbln g1, cond_false, zc_i j0, ← hw]
      exact ⟨k, k1, k2, k3⟩) (by
      rw [zar_q ka]
      refine congrArg (fun z => Sum.inr (Sum.inr (Sum.inr (Sum.inr z)))) ?_
      funext k'
      unfold va_up
      rw [zup_at]
      by_cases e : k' = j.toNat
      · rw [if_pos e, if_pos (by omega), e, zc_i j0, zbl (show j.toNat + 1 ≤ lg r.1 by omega), hph, hw]
        rfl
      · rw [if_neg e, if_neg (by omega)]) hP hD hS
    have hk9 := kk ad H1 locs1 ls zext.rf X' hl (by rw [hc]; exact ho) (by rw [hc]; exact h2)
    rw [hc] at hk9
    exact hk9
  · cases ha
theorem zs_getstatic {idx : Nat} (C : zCt p R s0 M args meth c mm D dA A) (T : zSt ad A L xs s0 s0.heap) (X : zAt ph D dA A L xs s0.heap ad s H locs) (hl : zLr ad ls (znl mm) al) (ho : ∀ v ∈ al, zov (zcnt s) v) (hs : ∀ v ∈ st, zov (zcnt s) v) (hz : zi mm pc = some (.getstatic idx, len, a, bb)) (ha : zact ph mm pc al st s (.getstatic idx) a bb = some (pc', al', st', s')) (hn : n0 ≤ zcnt s) (hRc : zcnt s' - n0 ≤ R.cells) (hRs : zsl (zcnt s') - zsl n0 ≤ R.slots)
    (kk : zKt p l e R s0 M args below meth c Q ph D dA A L xs mm n0 s ad pc' al' st' s') : W p l e R s0 M args below meth c H locs (zcnt s - n0) (zsl (zcnt s) - zsl n0) Q (F0 M pc ls (st.map (zcv ad))) := by
  obtain ⟨hx, hb, hml, hown, hts, hnm, hfr, hlo, hK, hNw, hA, hAO⟩ := C
  have hd := z_dec hz
  have e2 := z_ec2 hz
  obtain rfl : len = 3 := z_len hz (by intros; intro z; cases z)
  cases ha
  obtain ⟨h1, h2⟩ := z_sl e2
  have hnw := va_Nw.use (A := args) rfl (hNw _ h2)
  rcases h1 with h1 | h1
  · rw [h1] at hnw kk
    exact va_getsN hx hb T.1.1 X.2.2.1 hown hnw (fun _ h9 => h9) hd (kk ad H locs ls zext.rf X hl ho (List.forall_mem_cons.mpr ⟨Or.inr (Or.inl rfl), hs⟩))
  · rw [h1] at hnw kk
    exact va_getsN hx hb T.2.1.1 X.2.2.1 hown hnw (fun _ h9 => h9) hd (kk ad H locs ls zext.rf X hl ho (List.forall_mem_cons.mpr ⟨Or.inr (Or.inr (Or.inl rfl)), hs⟩))
end ZS3

theorem zcell_ext {ph : Bool} {dA : Nat → ClassId} {n : Nat} {ad ad' : Nat → Int → Nat} {f : Int → Int} {r : Nat × Int} (he : zext n ad ad') (h : ∀ j : Nat, j < lg r.1 → zso ph n r j (f j)) (hk : r.1 ≤ 12 ∨ zak r.1 ≤ 3) : zcell ph dA ad' f r = zcell ph dA ad f r := by
  unfold zcell
  by_cases hg : r.1 ≤ 12
  · rw [zbl hg, cond_true, cond_true]
    refine congrArg (fun z => Sum.inr (tg r.1, z)) (List.map_congr_left (fun k hk' => ?_))
    have hso := h k (List.mem_range.mp hk')
    unfold zso at hso
    rw [zsk_o hg] at hso
    unfold zfv
    by_cases k1 : zfk (tg r.1) k ≤ 1
    · rw [zbl k1]; rfl
    · by_cases k2 : zfk (tg r.1) k = 2
      · rw [k2]; rfl
      · rw [zbln (show 1 < zfk (tg r.1) k by omega), zbq k2, cond_false, cond_false, cond_false, cond_false]
        cases hf : (ph || decide (f k = 1)) with
        | false => rfl
        | true =>
          rw [Bool.or_eq_true, decide_eq_true_eq] at hf
          have h8 := hso.2.2.2 (by omega) hf
          unfold ztr at h8
          rw [zbl hg, cond_true] at h8
          show Value.ref _ = Value.ref _
          exact congrArg Value.ref (he.1 _ h8)
  · have hg : 12 < r.1 := by omega
    rw [zbln hg, cond_false, cond_false]
    refine congrArg (fun z => Sum.inl (dA (tg r.1), lg r.1, z)) ?_
    have hk : zak r.1 ≤ 3 := by omega
    by_cases k1 : zak r.1 ≤ 1
    · rw [zar_i k1, zar_i k1]
    · by_cases k2 : zak r.1 = 2
      · rw [zar_l k2, zar_l k2]
      · have k3 : zak r.1 = 3 := by omega
        rw [zar_q k3, zar_q k3]
        refine congrArg (fun z => Sum.inr (Sum.inr (Sum.inr (Sum.inr z)))) (funext fun j => ?_)
        cases hf : (ph || decide (f j = 1)) with
        | false => rfl
        | true =>
          cases hj : Nat.ble (j + 1) (lg r.1) with
          | false => rfl
          | true =>
            have hso := h j (by have := zlt' hj; omega)
            unfold zso at hso
            rw [zsk_a hg] at hso
            rw [Bool.or_eq_true, decide_eq_true_eq] at hf
            have h8 := hso.2.2.2 (by omega) hf
            unfold ztr at h8
            rw [zbln hg, cond_false] at h8
            show some _ = some _
            exact congrArg some (he.1 _ h8)
theorem znm_k (k : Nat) (h : k < zN) : (znm k).1 ≤ 12 ∨ zak (znm k).1 ≤ 3 := by
  by_cases hg : (znm k).1 ≤ 12
  · exact Or.inl hg
  · have := (zarr_ok k h (by show 12 < (znm k).1; omega)).1
    exact Or.inr (by show zak (zn k).1 ≤ 3; omega)
theorem zws_push {ph : Bool} {dA : Nat → ClassId} {s s' : zS} {ad ad' : Nat → Int → Nat} (hok : zoks ph s) (hc : zcnt s' = zcnt s + 1) (hrow : ∀ k, k < zcnt s → s' (znm k).1 (znm k).2 = s (znm k).1 (znm k).2) (he : zext (zcnt s) ad ad') : zws ph dA ad' s' = zws ph dA ad s ++ [zwk ph dA ad' s' (zcnt s)] := by
  unfold zws
  rw [hc, List.range_succ, List.map_append]
  refine congrArg (fun z => z ++ [zwk ph dA ad' s' (zcnt s)]) (List.map_congr_left (fun k hk => ?_))
  have hk := List.mem_range.mp hk
  unfold zwk
  rw [hrow k hk, he.1 (znm k) ⟨k, hk, by have := hok.1; omega, rfl⟩, zcell_ext he (fun j hj => hok.2 k hk j hj) (znm_k k (by have := hok.1; omega))]
theorem zsl_mono {a b : Nat} (h : a ≤ b) : zsl a ≤ zsl b := by
  induction h with
  | refl => exact Nat.le_refl _
  | step _ ih => exact Nat.le_trans ih (Nat.le_add_right _ _)
theorem zal {ph : Bool} {s s' : zS} {t g : Nat} {i len : Int} (h : zalloc ph s t len = some (g, i, s')) : ph = false ∧ zcnt s < zN ∧ znm (zcnt s) = (g, i) ∧ tg g = t ∧ len = (lg g : Int) ∧ g ≤ 107 ∧ s' = zup (zcz s g i) 200 0 0 ((zcnt s : Int) + 1) := by
  unfold zalloc at h
  obtain ⟨h1, h2⟩ := zbif h
  simp only [Bool.and_eq_true, decide_eq_true_eq] at h1
  have e := Option.some.inj h2
  have e1 : (zn (zcnt s)).1 = g := congrArg Prod.fst e
  have e2 : ((zn (zcnt s)).2 : Int) = i := congrArg (fun z => z.2.1) e
  have e3 := congrArg (fun z => z.2.2) e
  dsimp only at e3
  have hN : zcnt s < zN := zlt' h1.1.1.2
  refine ⟨by cases ph with | true => cases h1.1.1.1 | false => rfl, hN, Prod.ext e1 e2, by rw [← e1]; exact zbt h1.1.2, by rw [← e1]; exact h1.2, by rw [← e1]; exact zg_le' (zcnt s) hN, ?_⟩
  rw [← e3, e1, e2]
def zad (ad : Nat → Int → Nat) (g : Nat) (i : Int) (q : Nat) : Nat → Int → Nat := fun g' i' => if g' = g ∧ i' = i then q else ad g' i'
theorem zal_row {s : zS} {g : Nat} {i x : Int} {r : Nat × Int} (h : r.1 ≤ 107) (hr : r ≠ (g, i)) : zup (zcz s g i) 200 0 0 x r.1 r.2 = s r.1 r.2 := by
  rw [zup_row (r := r) (fun z => by have := congrArg Prod.fst z; dsimp only at this; omega)]
  funext k
  unfold zcz
  rw [if_neg (fun z => hr (Prod.ext z.1 z.2))]
theorem zal_new {s : zS} {g : Nat} {i x : Int} (h : g ≤ 107) : zup (zcz s g i) 200 0 0 x g i = fun _ => 0 := by
  rw [zup_row (r := (g, i)) (fun z => by have := congrArg Prod.fst z; dsimp only at this; omega)]
  funext k
  unfold zcz
  rw [if_pos ⟨rfl, rfl⟩]
theorem zal_cnt {s : zS} {g : Nat} {i : Int} {n : Nat} : zcnt (zup (zcz s g i) 200 0 0 ((n : Int) + 1)) = n + 1 := by
  unfold zcnt zup
  rw [if_pos ⟨rfl, rfl, rfl⟩]
  omega
theorem zal_sta {L : Nat} {xs : Nat → Int32} {s : zS} {g : Nat} {i x : Int} (h : zsta L xs s) (hg : g ≤ 107) : zsta L xs (zup (zcz s g i) 200 0 0 x) := by
  refine zsta_of h (fun g' i' k' h1 h2 => ?_)
  unfold zup zcz
  rw [if_neg (fun z => by omega), if_neg (fun z => by omega)]
theorem zad_ext {s : zS} {ad : Nat → Int → Nat} {g : Nat} {i : Int} {q : Nat} (hN : zcnt s < zN) (hg : g ≤ 107) (hz : znm (zcnt s) = (g, i)) : zext (zcnt s) ad (zad ad g i q) := by
  refine ⟨fun r hr => ?_, fun g' hg' => ?_⟩
  · obtain ⟨k, k1, k2, k3⟩ := hr
    unfold zad
    rw [if_neg (fun z => ?_)]
    have : znm k = znm (zcnt s) := by rw [k3, hz]; exact Prod.ext z.1 z.2
    have := znm_inj k2 hN this
    omega
  · unfold zad
    rw [if_neg (fun z => by omega)]
theorem zso_0 {n j : Nat} {r : Nat × Int} : zso false n r j 0 := ⟨fun _ => by omega, fun _ => by omega, fun _ => by omega, fun _ z => by rcases z with z | z <;> cases z⟩
section ZS4
variable {p : Program} {l : Launch} {e : Env} {R : Room} {s0 : State} {M : MethodId} {args : Array Value} {below : List Frame} {meth : Method} {c : Code} {Q : State → Prop}
variable {ph : Bool} {D : va_G} {dA : Nat → ClassId} {A : Nat → Prop} {L : Nat} {xs : Nat → Int32} {mm n0 pc pc' len bb : Nat} {a : Int} {i : Instr} {ad : Nat → Int → Nat} {s s' : zS} {H : Heap} {locs : List Loc} {ls : Array Slot} {al al' st st' : List zV}
/-- behind a new cell: the world goes on, and so does the frame -/
theorem z_alloced (X : zAt false D dA A L xs s0.heap ad s H locs) (hl : zLr ad ls (znl mm) al) (ho : ∀ v ∈ al, zov (zcnt s) v) (hs : ∀ v ∈ st, zov (zcnt s) v) (hn : n0 ≤ zcnt s) {g : Nat} {i : Int} (hN : zcnt s < zN) (hz : znm (zcnt s) = (g, i)) (hg : g ≤ 107) (hs' : s' = zup (zcz s g i) 200 0 0 ((zcnt s : Int) + 1))
    (kk : zKt p l e R s0 M args below meth c Q false D dA A L xs mm n0 s ad pc' al (zR g i :: st) s') {q : Nat} {H1 : Heap} {locs1 : List Loc} {E : va_E} (hE : E = zcell false dA (zad ad g i q) (fun _ => 0) (g, i)) (hP : va_P D vwCl (zws false dA ad s ++ [(q, E)]) H1) (hD : va_D A (zws false dA ad s ++ [(q, E)])) (hS : va_S A s0.heap H1 locs1) :
    W p l e R s0 M args below meth c H1 locs1 (zcnt s - n0 + 1) (zsl (zcnt s) - zsl n0 + lg g) Q (F0 M pc' ls (.ref q :: st.map (zcv ad))) := by
  have hc : zcnt s' = zcnt s + 1 := by rw [hs']; exact zal_cnt
  have he : zext (zcnt s) ad (zad ad g i q) := zad_ext hN hg hz
  have hq : zad ad g i q g i = q := by unfold zad; rw [if_pos ⟨rfl, rfl⟩]
  have hw : zws false dA (zad ad g i q) s' = zws false dA ad s ++ [(q, E)] := by
    rw [zws_push X.2.2.2.1 hc (fun k hk => ?_) he]
    · congr 2
      unfold zwk
      rw [hz, hE]
      show (zad ad g i q g i, zcell false dA (zad ad g i q) (s' g i) (g, i)) = _
      rw [hq, hs', zal_new hg]
    · rw [hs']
      exact zal_row (zg_le' k (by omega)) (fun z => by have := znm_inj (by omega) hN (z.trans hz.symm); omega)
  rw [← hw] at hP hD
  have hX : zAt false D dA A L xs s0.heap (zad ad g i q) s' H1 locs1 := by
    refine ⟨hP, hD, hS, ⟨by rw [hc]; exact hN, fun k hk j hj => ?_⟩, by rw [hs']; exact zal_sta X.2.2.2.2 hg⟩
    rw [hc] at hk ⊢
    by_cases e : k = zcnt s
    · subst e
      rw [hz] at hj ⊢
      show zso false (zcnt s + 1) (g, i) j (s' g i j)
      rw [hs', zal_new hg]
      exact zso_0
    · have hk' : k < zcnt s := by omega
      rw [hs', zal_row (zg_le' k (by omega)) (fun z => e (znm_inj (by omega) hN (z.trans hz.symm)))]
      obtain ⟨o1, o2, o3, o4⟩ := X.2.2.2.1.2 k hk' j hj
      exact ⟨o1, o2, o3, fun z1 z2 => (o4 z1 z2).mono (by omega)⟩
  have hk9 := kk (zad ad g i q) H1 locs1 ls he hX (hl.ext he ho) (fun v hv => (ho v hv).mono (by omega)) (List.forall_mem_cons.mpr ⟨Or.inl ⟨zcnt s, by omega, hN, hz⟩, fun v hv => (hs v hv).mono (by omega)⟩)
  rw [List.map_cons, zcv_exts he hs, show zcv (zad ad g i q) (zR g i) = .ref q by show Value.ref _ = _; rw [hq], hc] at hk9
  have e1 : zcnt s + 1 - n0 = zcnt s - n0 + 1 := by omega
  have e2 : zsl (zcnt s + 1) - zsl n0 = zsl (zcnt s) - zsl n0 + lg g := by
    have := zsl_mono hn
    show zsl (zcnt s) + lg (zn (zcnt s)).1 - zsl n0 = _
    rw [show (zn (zcnt s)).1 = g from congrArg Prod.fst hz]
    omega
  rw [e1, e2] at hk9
  exact hk9
end ZS4

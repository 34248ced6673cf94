/-! the little machine's numbers beside the machine's -/
theorem zr_w32 (x : Int) : -2147483648 ≤ w32 x ∧ w32 x < 2147483648 := by unfold w32; omega
theorem zr_w64 (x : Int) : -9223372036854775808 ≤ w64 x ∧ w64 x < 9223372036854775808 := by unfold w64; omega
theorem zr_ti (v : Int32) : -2147483648 ≤ v.toInt ∧ v.toInt < 2147483648 := ⟨by have := Int32.le_toInt v; omega, by have := Int32.toInt_lt v; omega⟩
theorem zr_tl (v : Int64) : -9223372036854775808 ≤ v.toInt ∧ v.toInt < 9223372036854775808 := ⟨by have := Int64.le_toInt v; omega, by have := Int64.toInt_lt v; omega⟩
theorem zn_ti {x : Int} (h1 : -2147483648 ≤ x) (h2 : x < 2147483648) : (Int32.ofInt x).toInt = x := Int32.toInt_ofInt_of_le (by omega) (by omega)
theorem zn_tl {x : Int} (h1 : -9223372036854775808 ≤ x) (h2 : x < 9223372036854775808) : (Int64.ofInt x).toInt = x := Int64.toInt_ofInt_of_le (by omega) (by omega)
theorem zn_oi (v : Int32) : Int32.ofInt v.toInt = v := Int32.ofInt_toInt v
theorem zn_ol (v : Int64) : Int64.ofInt v.toInt = v := Int64.ofInt_toInt v
theorem zn_w32 (x : Int) : Int32.ofInt (w32 x) = Int32.ofInt x := by
  apply Int32.toInt_inj.mp
  rw [Int32.toInt_ofInt, Int32.toInt_ofInt]
  unfold w32
  rw [Int.bmod_def, Int.bmod_def]
  have : Int32.size = 4294967296 := rfl
  rw [this]
  omega
theorem zn_w64 (x : Int) : Int64.ofInt (w64 x) = Int64.ofInt x := by
  apply Int64.toInt_inj.mp
  rw [Int64.toInt_ofInt, Int64.toInt_ofInt]
  unfold w64
  rw [Int.bmod_def, Int.bmod_def]
  have : Int64.size = 18446744073709551616 := rfl
  rw [this]
  omega
theorem zn_l2i {x : Int} (h1 : -9223372036854775808 ≤ x) (h2 : x < 9223372036854775808) : (Int64.ofInt x).toInt32 = Int32.ofInt (w32 x) := by
  rw [zn_w32]
  apply Int32.toInt_inj.mp
  rw [Int64.toInt_toInt32, zn_tl h1 h2, Int32.toInt_ofInt]
theorem zn_i2l {x : Int} (h1 : -2147483648 ≤ x) (h2 : x < 2147483648) : (Int32.ofInt x).toInt64 = Int64.ofInt x := by
  apply Int64.toInt_inj.mp
  rw [Int32.toInt_toInt64, zn_ti h1 h2, zn_tl (by omega) (by omega)]
theorem zn_le {x y : Int} (h1 : -2147483648 ≤ x) (h2 : x < 2147483648) (h3 : -2147483648 ≤ y) (h4 : y < 2147483648) : Int32.ofInt x ≤ Int32.ofInt y ↔ x ≤ y := by
  rw [Int32.le_iff_toInt_le, zn_ti h1 h2, zn_ti h3 h4]
theorem zn_lt {x y : Int} (h1 : -2147483648 ≤ x) (h2 : x < 2147483648) (h3 : -2147483648 ≤ y) (h4 : y < 2147483648) : Int32.ofInt x < Int32.ofInt y ↔ x < y := by
  rw [Int32.lt_iff_toInt_lt, zn_ti h1 h2, zn_ti h3 h4]
theorem zn_eq {x y : Int} (h1 : -2147483648 ≤ x) (h2 : x < 2147483648) (h3 : -2147483648 ≤ y) (h4 : y < 2147483648) : Int32.ofInt x = Int32.ofInt y ↔ x = y := by
  rw [← Int32.toInt_inj, zn_ti h1 h2, zn_ti h3 h4]
theorem zn_llt {x y : Int} (h1 : -9223372036854775808 ≤ x) (h2 : x < 9223372036854775808) (h3 : -9223372036854775808 ≤ y) (h4 : y < 9223372036854775808) : Int64.ofInt x < Int64.ofInt y ↔ x < y := by
  rw [Int64.lt_iff_toInt_lt, zn_tl h1 h2, zn_tl h3 h4]
theorem zn_leq {x y : Int} (h1 : -9223372036854775808 ≤ x) (h2 : x < 9223372036854775808) (h3 : -9223372036854775808 ≤ y) (h4 : y < 9223372036854775808) : Int64.ofInt x = Int64.ofInt y ↔ x = y := by
  rw [← Int64.toInt_inj, zn_tl h1 h2, zn_tl h3 h4]
theorem zn_cl {x : Int} (h1 : 0 ≤ x) (h2 : x < 2147483648) : (Int32.ofInt x).toNatClampNeg = x.toNat := by
  unfold Int32.toNatClampNeg
  rw [zn_ti (by omega) h2]
theorem zn_in {x : Int} {n : Nat} (h1 : 0 ≤ x) (h2 : x < n) (hn : n < 2147483648) : vp_in (Int32.ofInt x) n := by
  rw [vp_in_iff, zn_ti (by omega) (by omega)]
  exact ⟨h1, h2⟩
theorem zn_neg {x : Int} (h1 : 0 ≤ x) (h2 : x < 2147483648) : ¬ Int32.ofInt x < 0 := by
  rw [show (0 : Int32) = Int32.ofInt 0 from rfl, zn_lt (by omega) h2 (by omega) (by omega)]
  omega
theorem zn_of (n : Nat) : Int32.ofNat n = Int32.ofInt (n : Int) := rfl
theorem zn_b {n : Int} (h1 : -128 ≤ n) (h2 : n ≤ 127) : (Int8.ofInt n).toInt32 = Int32.ofInt n := by
  apply Int32.toInt_inj.mp
  rw [Int8.toInt_toInt32, Int8.toInt_ofInt_of_le (by omega) (by omega), zn_ti (by omega) (by omega)]
theorem zn_s {n : Int} (h1 : -32768 ≤ n) (h2 : n ≤ 32767) : (Int16.ofInt n).toInt32 = Int32.ofInt n := by
  apply Int32.toInt_inj.mp
  rw [Int16.toInt_toInt32, Int16.toInt_ofInt_of_le (by omega) (by omega), zn_ti (by omega) (by omega)]
/-! names and cells -/
def zcv (ad : Nat → Int → Nat) : zV → Value
  | .inl x => .int (Int32.ofInt x)
  | .inr (.inl x) => .long (Int64.ofInt x)
  | .inr (.inr (.inl r)) => .ref (ad r.1 r.2)
  | .inr (.inr (.inr _)) => .null
def znm (k : Nat) : Nat × Int := ((zn k).1, ((zn k).2 : Int))
theorem zn_ix : ∀ k, k < 115 → zn_L.idxOf (zn k) = k := by decide +kernel
theorem znm_inj {j k : Nat} (hj : j < zN) (hk : k < zN) (h : znm j = znm k) : j = k := by
  have e : zn j = zn k := by
    have h1 := congrArg Prod.fst h
    have h2 := congrArg Prod.snd h
    unfold znm at h1 h2
    dsimp only at h1 h2
    exact Prod.ext h1 (by omega)
  have a := zn_ix j hj
  rw [e, zn_ix k hk] at a
  exact a.symm
def zlv (n : Nat) (r : Nat × Int) : Prop := ∃ k, k < n ∧ k < zN ∧ znm k = r
theorem zlv.mono {n n' : Nat} {r : Nat × Int} (h : zlv n r) (hn : n ≤ n') : zlv n' r := by
  obtain ⟨k, h1, h2, h3⟩ := h
  exact ⟨k, by omega, h2, h3⟩
def zov (n : Nat) : zV → Prop
  | .inl x => -2147483648 ≤ x ∧ x < 2147483648
  | .inr (.inl x) => -9223372036854775808 ≤ x ∧ x < 9223372036854775808
  | .inr (.inr (.inl r)) => zlv n r ∨ r = (108, 0) ∨ r = (109, 0) ∨ r = (110, 0)
  | .inr (.inr (.inr _)) => True
theorem zov.mono {n n' : Nat} {v : zV} (h : zov n v) (hn : n ≤ n') : zov n' v := by
  rcases v with x | x | r | u
  · exact h
  · exact h
  · rcases h with h | h
    · exact Or.inl (h.mono hn)
    · exact Or.inr h
  · exact trivial
/-- one map of names to addresses goes on as another -/
def zext (n : Nat) (ad ad' : Nat → Int → Nat) : Prop := (∀ r : Nat × Int, zlv n r → ad' r.1 r.2 = ad r.1 r.2) ∧ ∀ g : Nat, 108 ≤ g → ad' g 0 = ad g 0
theorem zext.rf {n : Nat} {ad : Nat → Int → Nat} : zext n ad ad := ⟨fun _ _ => rfl, fun _ _ => rfl⟩
theorem zext.tr {n n' : Nat} {a b c : Nat → Int → Nat} (h : zext n a b) (h' : zext n' b c) (hn : n ≤ n') : zext n a c := ⟨fun r hr => (h'.1 r (hr.mono hn)).trans (h.1 r hr), fun g hg => (h'.2 g hg).trans (h.2 g hg)⟩
theorem zcv_ext {n : Nat} {ad ad' : Nat → Int → Nat} {v : zV} (he : zext n ad ad') (h : zov n v) : zcv ad' v = zcv ad v := by
  rcases v with x | x | r | u
  · rfl
  · rfl
  · show Value.ref (ad' r.1 r.2) = Value.ref (ad r.1 r.2)
    congr 1
    rcases h with h | h | h | h
    · exact he.1 r h
    · subst h; exact he.2 108 (by omega)
    · subst h; exact he.2 109 (by omega)
    · subst h; exact he.2 110 (by omega)
  · rfl
theorem zcv_exts {n : Nat} {ad ad' : Nat → Int → Nat} (he : zext n ad ad') : ∀ {l : List zV}, (∀ v ∈ l, zov n v) → l.map (zcv ad') = l.map (zcv ad) := by
  intro l h
  exact List.map_congr_left (fun v hv => zcv_ext he (h v hv))
theorem zcat_cv (ad : Nat → Int → Nat) (v : zV) : (zcv ad v).category = zcat v := by
  rcases v with x | x | r | u <;> rfl
theorem zwsum_cv (ad : Nat → Int → Nat) (l : List zV) : ((l.map (zcv ad)).map fun v => v.category).sum = zwsum l := by
  unfold zwsum
  rw [List.map_map]
  congr 1
  exact List.map_congr_left (fun v _ => zcat_cv ad v)
/-- a field's value, out of the cell's numbers -/
def zfv (ph : Bool) (ad : Nat → Int → Nat) (f : Int → Int) (r : Nat × Int) (k : Nat) : Value :=
  bif Nat.ble (zfk (tg r.1) k) 1 then .int (Int32.ofInt (f k)) else bif Nat.beq (zfk (tg r.1) k) 2 then .long (Int64.ofInt (f k)) else bif ph || decide (f k = 1) then .ref (ad (zrg (tg r.1) k) r.2) else .null
def zar (ph : Bool) (ad : Nat → Int → Nat) (f : Int → Int) (r : Nat × Int) : (Nat → Int32) ⊕ (Nat → Int64) ⊕ (Nat → UInt32) ⊕ (Nat → UInt64) ⊕ (Nat → Option Nat) :=
  bif Nat.ble (zak r.1) 1 then .inl (fun j => Int32.ofInt (f j)) else bif Nat.beq (zak r.1) 2 then .inr (.inl (fun j => Int64.ofInt (f j)))
  else .inr (.inr (.inr (.inr (fun j => bif (ph || decide (f j = 1)) && Nat.ble (j + 1) (lg r.1) then some (ad (zra r.1) j) else none))))
def zcell (ph : Bool) (dA : Nat → ClassId) (ad : Nat → Int → Nat) (f : Int → Int) (r : Nat × Int) : va_E :=
  bif Nat.ble r.1 12 then .inr (tg r.1, (List.range (lg r.1)).map (zfv ph ad f r)) else .inl (dA (tg r.1), (lg r.1, zar ph ad f r))
def zwk (ph : Bool) (dA : Nat → ClassId) (ad : Nat → Int → Nat) (s : zS) (k : Nat) : Nat × va_E := (ad (znm k).1 (znm k).2, zcell ph dA ad (s (znm k).1 (znm k).2) (znm k))
def zws (ph : Bool) (dA : Nat → ClassId) (ad : Nat → Int → Nat) (s : zS) : va_W := (List.range (zcnt s)).map (zwk ph dA ad s)
theorem zws_at {ph : Bool} {dA : Nat → ClassId} {ad : Nat → Int → Nat} {s : zS} {k : Nat} (h : k < zcnt s) : (zws ph dA ad s)[k]? = some (zwk ph dA ad s k) := by
  unfold zws
  rw [List.getElem?_map, List.getElem?_range h]
  rfl
theorem zws_none {ph : Bool} {dA : Nat → ClassId} {ad : Nat → Int → Nat} {s : zS} {k : Nat} (h : zcnt s ≤ k) : (zws ph dA ad s)[k]? = none := by
  unfold zws
  apply List.getElem?_eq_none
  rw [List.length_map, List.length_range]
  exact h
theorem zws_set {ph : Bool} {dA : Nat → ClassId} {ad : Nat → Int → Nat} {s s' : zS} {q : Nat} {r : Nat × Int} {x : Nat × va_E} (hN : zcnt s ≤ zN) (hq : q < zcnt s) (hr : znm q = r) (hc : zcnt s' = zcnt s) (hs : ∀ r' : Nat × Int, r' ≠ r → r'.1 ≤ 107 → s' r'.1 r'.2 = s r'.1 r'.2) (hg : ∀ k, k < zN → (znm k).1 ≤ 107) (hx : x = (ad r.1 r.2, zcell ph dA ad (s' r.1 r.2) r)) : (zws ph dA ad s).set q x = zws ph dA ad s' := by
  apply List.ext_getElem?
  intro j
  by_cases hj : j < zcnt s
  · rw [zws_at (by rw [hc]; exact hj), List.getElem?_set]
    by_cases e : q = j
    · subst e
      rw [if_pos rfl, if_pos (by unfold zws; rw [List.length_map, List.length_range]; exact hq), hx]
      unfold zwk
      rw [hr]
    · rw [if_neg e, zws_at hj]
      unfold zwk
      rw [hs (znm j) (fun z => e (znm_inj (by omega) (by omega) (hr.trans z.symm))) (hg j (by omega))]
  · rw [zws_none (by rw [hc]; omega), List.getElem?_set]
    have e : ¬ q = j := by omega
    rw [if_neg e, zws_none (by omega)]
theorem zg_le : ∀ k, k < 115 → (zn k).1 ≤ 105 := by decide +kernel
theorem zg_le' (k : Nat) (h : k < zN) : (znm k).1 ≤ 107 := Nat.le_trans (zg_le k h) (by omega)
/-- what a slot may hold -/
def zsk (g j : Nat) : Nat := bif Nat.ble g 12 then zfk (tg g) j else zak g
def ztr (r : Nat × Int) (j : Nat) : Nat × Int := bif Nat.ble r.1 12 then (zrg (tg r.1) j, r.2) else (zra r.1, (j : Int))
def zso (ph : Bool) (n : Nat) (r : Nat × Int) (j : Nat) (x : Int) : Prop :=
  (zsk r.1 j = 0 → -2147483648 ≤ x ∧ x < 2147483648) ∧ (zsk r.1 j = 1 → x = 0 ∨ x = 1) ∧ (zsk r.1 j = 2 → -9223372036854775808 ≤ x ∧ x < 9223372036854775808) ∧ (3 ≤ zsk r.1 j → (ph = true ∨ x = 1) → zlv n (ztr r j))
def zoks (ph : Bool) (s : zS) : Prop := zcnt s ≤ zN ∧ ∀ k, k < zcnt s → ∀ j : Nat, j < lg (znm k).1 → zso ph (zcnt s) (znm k) j (s (znm k).1 (znm k).2 j)
/-- the two static rows, the script -/
def z108 (j : Nat) : Int := [1, 3, 5, 11].getD j 0
def z109 (j : Nat) : Int := [1, 3, 5, 13].getD j 0
def zsta (L : Nat) (xs : Nat → Int32) (s : zS) : Prop := (∀ j : Nat, j < 4 → s 108 0 j = z108 j) ∧ (∀ j : Nat, j < 4 → s 109 0 j = z109 j) ∧ (s 111 0 0 = -1 ∨ (s 111 0 0 = (L : Int) ∧ L < 2147483648 ∧ ∀ j : Nat, j < L → s 110 0 j = (xs j).toInt))
theorem zcnt_up {s : zS} {g : Nat} {i k x : Int} (h : g ≠ 200) : zcnt (zup s g i k x) = zcnt s := by
  unfold zcnt zup
  rw [if_neg (fun z => h z.1.symm)]
theorem zup_row {s : zS} {g : Nat} {i k x : Int} {r : Nat × Int} (h : r ≠ (g, i)) : zup s g i k x r.1 r.2 = s r.1 r.2 := by
  funext k'
  unfold zup
  rw [if_neg (fun z => h (Prod.ext z.1 z.2.1))]
theorem zup_at {s : zS} {g : Nat} {i k x k' : Int} : zup s g i k x g i k' = if k' = k then x else s g i k' := by
  unfold zup
  by_cases e : k' = k
  · rw [if_pos ⟨rfl, rfl, e⟩, if_pos e]
  · rw [if_neg (fun z => e z.2.2), if_neg e]
theorem zsta_of {L : Nat} {xs : Nat → Int32} {s s' : zS} (h : zsta L xs s) (e : ∀ (g' : Nat) (i' k' : Int), 108 ≤ g' → g' ≤ 111 → s' g' i' k' = s g' i' k') : zsta L xs s' := by
  refine ⟨fun j hj => ?_, fun j hj => ?_, ?_⟩
  · rw [e _ _ _ (by omega) (by omega)]; exact h.1 j hj
  · rw [e _ _ _ (by omega) (by omega)]; exact h.2.1 j hj
  · rw [e _ _ _ (by omega) (by omega)]
    rcases h.2.2 with h | ⟨h1, h2, h3⟩
    · exact Or.inl h
    · exact Or.inr ⟨h1, h2, fun j hj => by rw [e _ _ _ (by omega) (by omega)]; exact h3 j hj⟩
theorem zsta_up {L : Nat} {xs : Nat → Int32} {s : zS} {g : Nat} {i k x : Int} (h : zsta L xs s) (hg : g ≤ 107) : zsta L xs (zup s g i k x) := by
  refine zsta_of h (fun g' i' k' hg' _ => ?_)
  unfold zup
  rw [if_neg (fun z => by omega)]
theorem zoks_up {ph : Bool} {s : zS} {q : Nat} {r : Nat × Int} {j : Nat} {x : Int} (h : zoks ph s) (hr : znm q = r) (hq : q < zcnt s) (hx : zso ph (zcnt s) r j x) (hg : r.1 ≠ 200) : zoks ph (zup s r.1 r.2 j x) := by
  have hc : zcnt (zup s r.1 r.2 j x) = zcnt s := zcnt_up hg
  refine ⟨by rw [hc]; exact h.1, fun k hk j' hj' => ?_⟩
  rw [hc] at hk ⊢
  by_cases e : znm k = r
  · rw [e] at hj' ⊢
    rw [zup_at]
    by_cases ej : (j' : Int) = j
    · rw [if_pos ej]
      have : j' = j := by omega
      subst this
      exact hx
    · rw [if_neg ej]
      have := h.2 k hk j' (by rw [e]; exact hj')
      rw [e] at this
      exact this
  · rw [zup_row e]
    exact h.2 k hk j' hj'
/-- locals -/
def zLr (ad : Nat → Int → Nat) (ls : Array Slot) (nL : Nat) (al : List zV) : Prop := ls.size = nL ∧ lv_wf ls ∧ al.length = nL ∧ ∀ (i : Nat) (v : zV), al[i]? = some v → v ≠ zU → ls[i]? = some (.val (zcv ad v))
theorem zLr.get {ad : Nat → Int → Nat} {ls : Array Slot} {nL : Nat} {al : List zV} (h : zLr ad ls nL al) {k : Nat} {v : zV} (hv : zld al k = v) (hu : v ≠ zU) : ls[k]? = some (.val (zcv ad v)) := by
  unfold zld at hv
  rw [List.getD_eq_getElem?_getD] at hv
  cases e : al[k]? with
  | none => rw [e] at hv; exact absurd hv.symm hu
  | some w => rw [e] at hv; exact h.2.2.2 k v (by rw [e]; exact congrArg some hv) hu
/-- what the locals list, for the kit's rows -/
def zll (ad : Nat → Int → Nat) : Nat → List zV → List (Nat × Value)
  | _, [] => []
  | k, .inr (.inr (.inr _)) :: t => zll ad (k + 1) t
  | k, v :: t => (k, zcv ad v) :: zll ad (k + 1) t
theorem zll_mem {ad : Nat → Int → Nat} : ∀ {al : List zV} {k : Nat} {q : Nat × Value}, q ∈ zll ad k al ↔ ∃ (i : Nat) (v : zV), al[i]? = some v ∧ v ≠ zU ∧ q = (k + i, zcv ad v)
  | [], k, q => by simp [zll]
  | v :: t, k, q => by
    have ih := @zll_mem ad t (k + 1) q
    have st : ∀ P : Prop, (∃ (i : Nat) (w : zV), (v :: t)[i]? = some w ∧ w ≠ zU ∧ q = (k + i, zcv ad w)) ↔ ((v ≠ zU ∧ q = (k, zcv ad v)) ∨ ∃ (i : Nat) (w : zV), t[i]? = some w ∧ w ≠ zU ∧ q = (k + 1 + i, zcv ad w)) := by
      intro _
      constructor
      · rintro ⟨i, w, h1, h2, h3⟩
        cases i with
        | zero => left; cases h1; exact ⟨h2, h3⟩
        | succ i => right; exact ⟨i, w, h1, h2, by rw [h3]; congr 1; omega⟩
      · rintro (⟨h1, h2⟩ | ⟨i, w, h1, h2, h3⟩)
        · exact ⟨0, v, rfl, h1, h2⟩
        · exact ⟨i + 1, w, h1, h2, by rw [h3]; congr 1; omega⟩
    rw [st True]
    rcases v with x | x | r | u
    · simp only [zll, List.mem_cons, ih]
      constructor
      · rintro (h | h)
        · exact Or.inl ⟨(by intro z; cases z), h⟩
        · exact Or.inr h
      · rintro (h | h)
        · exact Or.inl h.2
        · exact Or.inr h
    · simp only [zll, List.mem_cons, ih]
      constructor
      · rintro (h | h)
        · exact Or.inl ⟨(by intro z; cases z), h⟩
        · exact Or.inr h
      · rintro (h | h)
        · exact Or.inl h.2
        · exact Or.inr h
    · simp only [zll, List.mem_cons, ih]
      constructor
      · rintro (h | h)
        · exact Or.inl ⟨(by intro z; cases z), h⟩
        · exact Or.inr h
      · rintro (h | h)
        · exact Or.inl h.2
        · exact Or.inr h
    · simp only [zll, ih]
      constructor
      · intro h; exact Or.inr h
      · rintro (h | h)
        · exact absurd rfl h.1
        · exact h
theorem zLr.has {ad : Nat → Int → Nat} {ls : Array Slot} {nL : Nat} {al : List zV} (h : zLr ad ls nL al) : lv_has ls nL (zll ad 0 al) := by
  refine ⟨h.1, h.2.1, fun q hq => ?_⟩
  obtain ⟨i, v, h1, h2, rfl⟩ := zll_mem.mp hq
  have := h.2.2.2 i v h1 h2
  dsimp only
  rw [Nat.zero_add]
  exact this
theorem zst_ss (k : Nat) (v a : zV) (t : List zV) : zst (k + 2) v (a :: t) = a :: zst (k + 1) v t := by cases t <;> rfl
theorem zst_len : ∀ (k : Nat) (v : zV) (al : List zV), (zst k v al).length = al.length
  | _, _, [] => by unfold zst; rfl
  | 0, v, _ :: t => by unfold zst; rfl
  | 1, v, [a] => by simp [zst]
  | 1, v, a :: b :: t => by simp [zst]
  | k + 2, v, a :: t => by
    rw [zst_ss, List.length_cons, List.length_cons, zst_len (k + 1) v t]
theorem zclr_ne {a w : zV} (h : zclr a = w) (hw : w ≠ zU) : a = w ∧ zcat a = 1 := by
  rcases a with x | x | r | u
  · exact ⟨h, rfl⟩
  · exact absurd h.symm hw
  · exact ⟨h, rfl⟩
  · exact absurd h.symm hw
theorem zst_at : ∀ {k : Nat} {v : zV} {al : List zV} {i : Nat} {w : zV}, (zst k v al)[i]? = some w → w ≠ zU → k < al.length → (i = k ∧ w = v) ∨ (i ≠ k ∧ al[i]? = some w ∧ ¬ (i + 1 = k ∧ zcat w = 2))
  | k, v, [], i, w, h, _, hk => by simp at hk
  | 0, v, a :: t, i, w, h, hw, hk => by
    unfold zst at h
    cases i with
    | zero => left; exact ⟨rfl, (Option.some.inj h).symm⟩
    | succ i => right; exact ⟨by omega, h, by omega⟩
  | 1, v, [a], i, w, h, hw, hk => by simp at hk
  | 1, v, a :: b :: t, i, w, h, hw, hk => by
    unfold zst at h
    match i with
    | 0 =>
      right
      obtain ⟨h1, h2⟩ := zclr_ne (Option.some.inj h) hw
      exact ⟨by omega, by rw [← h1]; rfl, by rw [← h1, h2]; omega⟩
    | 1 => left; exact ⟨rfl, (Option.some.inj h).symm⟩
    | i + 2 => right; exact ⟨by omega, h, by omega⟩
  | k + 2, v, a :: t, i, w, h, hw, hk => by
    rw [zst_ss] at h
    cases i with
    | zero => right; exact ⟨by omega, h, by omega⟩
    | succ i =>
      rcases zst_at (k := k + 1) h hw (by simp at hk; omega) with ⟨h1, h2⟩ | ⟨h1, h2, h3⟩
      · left; exact ⟨by omega, h2⟩
      · right; exact ⟨by omega, h2, by omega⟩
theorem zLr.put {ad : Nat → Int → Nat} {ls ls' : Array Slot} {nL : Nat} {al : List zV} {k : Nat} {v : zV} (h : zLr ad ls nL al) (hk : k < al.length) (h' : lv_has ls' nL ((k, zcv ad v) :: (zll ad 0 al).filter (fun q => !(q.1 == k) && !(q.1 + 1 == k && q.2.category == 2)))) : zLr ad ls' nL (zst k v al) := by
  refine ⟨h'.1, h'.2.1, by rw [zst_len]; exact h.2.2.1, fun i w hi hw => ?_⟩
  rcases zst_at hi hw hk with ⟨rfl, rfl⟩ | ⟨h1, h2, h3⟩
  · exact h'.2.2 _ List.mem_cons_self
  · refine h'.2.2 (i, zcv ad w) (List.mem_cons_of_mem _ (List.mem_filter.mpr ⟨zll_mem.mpr ⟨i, w, h2, hw, by rw [Nat.zero_add]⟩, ?_⟩))
    dsimp only
    rw [zcat_cv]
    by_cases e : i + 1 = k
    · have : ¬ zcat w = 2 := fun z => h3 ⟨e, z⟩
      simp [h1, this]
    · simp [h1, e]
theorem zLr.put2 {ad : Nat → Int → Nat} {ls ls' : Array Slot} {nL : Nat} {al : List zV} {k : Nat} {v : zV} (h : zLr ad ls nL al) (hk : k + 1 < al.length) (h' : lv_has ls' nL ((k, zcv ad v) :: (zll ad 0 al).filter (fun q => !(q.1 == k) && (!(q.1 == k + 1) && !(q.1 + 1 == k && q.2.category == 2))))) : zLr ad ls' nL ((zst k v al).set (k + 1) zU) := by
  refine ⟨h'.1, h'.2.1, by rw [List.length_set, zst_len]; exact h.2.2.1, fun i w hi hw => ?_⟩
  rw [List.getElem?_set] at hi
  by_cases ek : k + 1 = i
  · rw [if_pos ek] at hi
    split at hi
    · exact absurd (Option.some.inj hi).symm hw
    · cases hi
  · rw [if_neg ek] at hi
    rcases zst_at hi hw (by omega) with ⟨rfl, rfl⟩ | ⟨h1, h2, h3⟩
    · exact h'.2.2 _ List.mem_cons_self
    · refine h'.2.2 (i, zcv ad w) (List.mem_cons_of_mem _ (List.mem_filter.mpr ⟨zll_mem.mpr ⟨i, w, h2, hw, by rw [Nat.zero_add]⟩, ?_⟩))
      dsimp only
      rw [zcat_cv]
      have e2 : ¬ i = k + 1 := fun z => ek z.symm
      by_cases e : i + 1 = k
      · have : ¬ zcat w = 2 := fun z => h3 ⟨e, z⟩
        simp [h1, e2, this]
      · simp [h1, e, e2]
theorem zst_ok {n k : Nat} {v : zV} : ∀ {al : List zV}, (∀ w ∈ al, zov n w) → zov n v → ∀ w ∈ zst k v al, zov n w := by
  intro al hal hv w hw
  obtain ⟨i, hi⟩ := List.getElem?_of_mem hw
  by_cases hu : w = zU
  · subst hu; exact trivial
  · by_cases hk : k < al.length
    · rcases zst_at hi hu hk with ⟨_, rfl⟩ | ⟨_, h2, _⟩
      · exact hv
      · exact hal w (List.mem_of_getElem? h2)
    · have key : ∀ (k : Nat) (al : List zV), al.length ≤ k → zst k v al = al := by
        intro k al
        induction al generalizing k with
        | nil => intro _; unfold zst; rfl
        | cons a t ih =>
          intro hk
          match k with
          | 0 => simp at hk
          | 1 =>
            cases t with
            | nil => simp [zst]
            | cons b t => simp at hk
          | k + 2 =>
            rw [zst_ss, ih (k + 1) (by simp at hk; omega)]
      rw [key k al (by omega)] at hw
      exact hal w hw
theorem zLr.ext {n : Nat} {ad ad' : Nat → Int → Nat} {ls : Array Slot} {nL : Nat} {al : List zV} (he : zext n ad ad') (hal : ∀ v ∈ al, zov n v) (h : zLr ad ls nL al) : zLr ad' ls nL al :=
  ⟨h.1, h.2.1, h.2.2.1, fun i v hi hv => by rw [zcv_ext he (hal v (List.mem_of_getElem? hi))]; exact h.2.2.2 i v hi hv⟩

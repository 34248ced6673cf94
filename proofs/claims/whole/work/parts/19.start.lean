/-! the law's start; from the skeleton (kit/laws/SKELETON.whole.lean.txt): R_law, lw_P, lw_Q, lw_Z, lw_ret, lw_At -/
def R_law : String := "SnowSchoolLaw"
def lw_P (b : Addr) (xs : List Int32) (args : Array Value) (s : State) : Prop := args = #[.ref b] ∧ s.IntsAt b xs ∧ xs.length ≤ 3072 ∧ (Jvm.Cond.and given_1 narrow_1).before args s = true
def lw_Q (_ : Array Value) (s : State) (o : Outcome) (t : State) : Prop := o = .returned (some (.int 1)) ∧ Framed s o t [] 600000 7302250
def lw_Z (below : List Frame) (a : Array Value) (s : State) : State → Prop := fun t => ∃ o, t.status = .running ∧ Ended t below o ∧ lw_Q a s o t
/-- the law's own end, with 1 on the stack, nothing written that was there before, its room as the claim has it -/
theorem lw_ret {p : Program} {l : Launch} {e : Env} {s : State} {m : MethodId} {below : List Frame} {meth : Method} {c : Code} {b : Nat} (hx : p.tables.exec = Jvm.exec) (hb : c.code = code) (hr : meth.sig.returnType = ret) (hlocks : meth.locks = false) {pc : Nat} {H : Heap} {ls : Array Slot} (hdg : decode code pc = .ok (.ireturn, 1)) : W p l e room_1 s m #[Value.ref b] below meth c H [] 600000 7302250 (lw_Z below #[Value.ref b] s) (F0 m pc ls [.int 1]) := by
  intro T hT X
  obtain ⟨fs, hret, hrun, hended, hW, hframe⟩ := X.leave (v := some (.int 1)) (hlocks := hlocks) (fun h => by rw [hr] at h; cases h)
  have hmeth' : T.vm.method? m = some meth := X.method'
  refine ⟨T.setFrames fs, ?_, .returned (some (.int 1)), hrun, hended, rfl, ⟨_, rfl⟩, hW, hframe⟩
  jvm_step X.here [X.here.top, hx, hb, hdg, hmeth', hr, ret, narrow_b1]
  (try refine ⟨rfl, ?_⟩); (try refine ⟨rfl, ?_⟩)
  first | (intro acts; rw [hret _ acts rfl rfl rfl]) | rw [hret _ _ rfl rfl rfl]
  exact Steps.refl _
/-- what holds at the law's entry: the machine, the code, the tables' words (any of lw_tbl by 'hts w (by decide +kernel)'), the script of L ints xs at the cell b, what the Statement gives of the start (any of its parts by flat_of_before) -/
def lw_At (p : Program) (s : State) (m : MethodId) (meth : Method) (c : Code) (b L : Nat) (xs : Nat → Int32) : Prop :=
  p.tables.exec = Jvm.exec ∧ c.code = code ∧ meth.sig.returnType = ret ∧ c.maxLocals = 4 ∧ s.vm.findClass R_law = some m.cls ∧ (∀ w ∈ lw_tbl, w.before #[Value.ref b] s = true) ∧ va_X b L xs s s.heap ∧ b < s.heap.size ∧ meth.locks = false ∧ (Jvm.Cond.and given_1 narrow_1).before #[Value.ref b] s = true
/-- the state of the little machine at the law's loop -/
def zInit (L : Nat) (xs : Nat → Int32) (s : zS) : Prop :=
  zcnt s = 115 ∧ (∀ k, k < 115 → lg (zn k).1 ≤ 50 → ∀ j : Nat, j < lg (zn k).1 → s (znm k).1 (znm k).2 j = zini (zn k).1 j) ∧ (∀ j : Nat, j < 4 → s 108 0 j = z108 j) ∧ (∀ j : Nat, j < 4 → s 109 0 j = z109 j) ∧ s 111 0 0 = (L : Int) ∧ ∀ j : Nat, j < L → s 110 0 j = (xs j).toInt
def zLaw : Prop := ∀ (L : Nat) (xs : Nat → Int32) (s : zS), L ≤ 3072 → zInit L xs s → zEv true [(188, 18, [zR 110 0, zR 10 0, zR 11 0, zI 0], []), (999, 0, [], [])] s (fun st _ => st = [zI 1])
theorem zsameT {s s' : zS} {pc pc' : Nat} {ls ls' st st' : List zV} (h : some (pc, ls, st, s) = some (pc', ls', st', s')) : zcnt s' = zcnt s := by
  cases h
  rfl
theorem zact_cT {m pc pc' b : Nat} {ls ls' st st' : List zV} {s s' : zS} {i : Instr} {a : Int} (h : zact true m pc ls st s i a b = some (pc', ls', st', s')) : zcnt s' = zcnt s := by
  have z200 : zak 200 = 9 := by decide +kernel
  cases i with
  | iload_n k => 
    dsimp only [zact] at h
    split at h
    · exact zsameT h
    · cases h
  | iload k => 
    dsimp only [zact] at h
    split at h
    · exact zsameT h
    · cases h
  | lload_n k => 
    dsimp only [zact] at h
    split at h
    · exact zsameT h
    · cases h
  | lload k => 
    dsimp only [zact] at h
    split at h
    · exact zsameT h
    · cases h
  | aload_n k => 
    dsimp only [zact] at h
    split at h
    · exact zsameT h
    · cases h
  | aload k => 
    dsimp only [zact] at h
    split at h
    · exact zsameT h
    · cases h
  | istore_n k => 
    dsimp only [zact] at h
    split at h
    · exact zsameT (zbif h).2
    · cases h
  | istore k => 
    dsimp only [zact] at h
    split at h
    · exact zsameT (zbif h).2
    · cases h
  | astore_n k => 
    dsimp only [zact] at h
    split at h
    · exact zsameT (zbif h).2
    · cases h
  | astore k => 
    dsimp only [zact] at h
    split at h
    · exact zsameT (zbif h).2
    · cases h
  | lstore k => 
    dsimp only [zact] at h
    split at h
    · exact zsameT (zbif h).2
    · cases h
  | iinc k n => 
    dsimp only [zact] at h
    split at h
    · exact zsameT (zbif h).2
    · cases h
  | iconst n => exact zsameT h
  | bipush n => exact zsameT h
  | sipush n => exact zsameT h
  | ldc n => exact zsameT h
  | ldc_w n => exact zsameT h
  | ldc2_w n => exact zsameT h
  | lconst n => exact zsameT h
  | iadd => 
    dsimp only [zact] at h
    split at h
    · exact zsameT h
    · cases h
  | isub => 
    dsimp only [zact] at h
    split at h
    · exact zsameT h
    · cases h
  | imul => 
    dsimp only [zact] at h
    split at h
    · exact zsameT h
    · cases h
  | idiv => 
    dsimp only [zact] at h
    split at h
    · exact zsameT (zifn h).2
    · cases h
  | irem => 
    dsimp only [zact] at h
    split at h
    · exact zsameT (zifn h).2
    · cases h
  | iand => 
    dsimp only [zact] at h
    split at h
    · exact zsameT h
    · cases h
  | ior => 
    dsimp only [zact] at h
    split at h
    · exact zsameT h
    · cases h
  | ixor => 
    dsimp only [zact] at h
    split at h
    · exact zsameT h
    · cases h
  | ishl => 
    dsimp only [zact] at h
    split at h
    · exact zsameT h
    · cases h
  | ishr => 
    dsimp only [zact] at h
    split at h
    · exact zsameT h
    · cases h
  | iushr => 
    dsimp only [zact] at h
    split at h
    · exact zsameT h
    · cases h
  | ladd => 
    dsimp only [zact] at h
    split at h
    · exact zsameT h
    · cases h
  | lmul => 
    dsimp only [zact] at h
    split at h
    · exact zsameT h
    · cases h
  | lshl => 
    dsimp only [zact] at h
    split at h
    · exact zsameT h
    · cases h
  | lshr => 
    dsimp only [zact] at h
    split at h
    · exact zsameT h
    · cases h
  | lcmp => 
    dsimp only [zact] at h
    split at h
    · exact zsameT h
    · cases h
  | i2l => 
    dsimp only [zact] at h
    split at h
    · exact zsameT h
    · cases h
  | l2i => 
    dsimp only [zact] at h
    split at h
    · exact zsameT h
    · cases h
  | i2b => 
    dsimp only [zact] at h
    split at h
    · exact zsameT h
    · cases h
  | i2s => 
    dsimp only [zact] at h
    split at h
    · exact zsameT h
    · cases h
  | dup => 
    dsimp only [zact] at h
    split at h
    · exact zsameT h
    · exact zsameT h
    · cases h
  | dup2 => 
    dsimp only [zact] at h
    split at h
    · exact zsameT h
    · cases h
  | goto o => exact zsameT h
  | ifCond c o => 
    dsimp only [zact] at h
    split at h
    · exact zsameT h
    · cases h
  | if_icmp c o => 
    dsimp only [zact] at h
    split at h
    · exact zsameT h
    · cases h
  | if_acmp c o => 
    dsimp only [zact] at h
    split at h
    · exact zsameT (zbif h).2
    · cases h
  | tableswitch d lo hi os => 
    dsimp only [zact] at h
    split at h
    · exact zsameT (zif h).2
    · cases h
  | getstatic ix => exact zsameT h
  | arraylength => 
    dsimp only [zact] at h
    split at h
    · exact zsameT (zbif h).2
    · cases h
  | iaload => 
    dsimp only [zact] at h
    split at h
    · exact zsameT (zif h).2
    · cases h
  | baload => 
    dsimp only [zact] at h
    split at h
    · exact zsameT (zif h).2
    · cases h
  | laload => 
    dsimp only [zact] at h
    split at h
    · exact zsameT (zif h).2
    · cases h
  | aaload => 
    dsimp only [zact] at h
    split at h
    · exact zsameT (zbif (zif h).2).2
    · cases h
  | invokespecial ix => 
    dsimp only [zact] at h
    split at h
    · exact zsameT (zbif h).2
    · cases h
  | getfield ix =>
    dsimp only [zact] at h
    unfold zgetf at h
    split at h
    · have h := (zbif h).2
      cases h1 : Nat.ble (zfk a.toNat b) 1 with
      | true => rw [h1, cond_true] at h; exact zsameT h
      | false =>
        rw [h1, cond_false] at h
        cases h2 : Nat.beq (zfk a.toNat b) 2 with
        | true => rw [h2, cond_true] at h; exact zsameT h
        | false => rw [h2, cond_false] at h; exact zsameT (zbif h).2
    · cases h
  | putfield ix =>
    dsimp only [zact] at h
    unfold zputf at h
    split at h
    · rename_i v r t
      obtain ⟨hg, h⟩ := zbif h
      simp only [Bool.and_eq_true] at hg
      have g2 := zlt' hg.1.1.2
      have up : ∀ x : Int, zcnt (zup s r.1 r.2 b x) = zcnt s := fun x => zcnt_up (by omega)
      have fin : ∀ x : Int, some (pc + 3, ls, t, zup s r.1 r.2 b x) = some (pc', ls', st', s') → zcnt s' = zcnt s := fun x hh => by
        have := zsameT hh
        rw [up x] at this
        exact this
      rcases v with x | x | w | u
      · dsimp only at h
        cases h1 : Nat.beq (zfk a.toNat b) 0 with
        | true => rw [h1, cond_true] at h; exact fin _ h
        | false => rw [h1, cond_false] at h; exact fin _ (zif (zbif h).2).2
      · exact fin _ (zbif h).2
      · exact fin _ (zbif h).2
      · cases h
    · cases h
  | iastore =>
    dsimp only [zact] at h
    split at h
    · obtain ⟨hc, h⟩ := zif h
      have := zsameT h
      rw [zcnt_up (by omega)] at this
      exact this
    · cases h
  | bastore =>
    dsimp only [zact] at h
    split at h
    · obtain ⟨hc, h⟩ := zif h
      have := zsameT h
      rw [zcnt_up (fun z => by rw [z] at hc; omega)] at this
      exact this
    · cases h
  | lastore =>
    dsimp only [zact] at h
    split at h
    · obtain ⟨hc, h⟩ := zif h
      have := zsameT h
      rw [zcnt_up (fun z => by rw [z] at hc; omega)] at this
      exact this
    · cases h
  | aastore =>
    dsimp only [zact] at h
    split at h
    · obtain ⟨hc, h⟩ := zif h
      have := zsameT h
      rw [zcnt_up (fun z => by rw [z] at hc; omega)] at this
      exact this
    · cases h
  | new ix =>
    dsimp only [zact] at h
    split at h
    · rename_i g i s9 hal
      exact absurd (zal hal).1 (by decide)
    · cases h
  | newarray t =>
    dsimp only [zact] at h
    split at h
    · split at h
      · rename_i g i s9 hal
        exact absurd (zal hal).1 (by decide)
      · cases h
    · cases h
  | anewarray ix =>
    dsimp only [zact] at h
    split at h
    · split at h
      · rename_i g i s9 hal
        exact absurd (zal hal).1 (by decide)
      · cases h
    · cases h
  | multianewarray ix d =>
    dsimp only [zact] at h
    split at h
    · exact absurd (zif h).1.1 (by decide)
    · cases h
  | invokestatic ix =>
    dsimp only [zact] at h
    by_cases a2 : a = 902
    · rw [decide_eq_true a2, cond_true] at h
      split at h
      · exact zsameT (zbif h).2
      · cases h
    · rw [decide_eq_false a2, cond_false] at h
      by_cases a3 : a = 903
      · rw [decide_eq_true a3, cond_true] at h
        split at h
        · exact zsameT (zbif h).2
        · cases h
      · rw [decide_eq_false a3, cond_false] at h
        by_cases a4 : a = 904
        · rw [decide_eq_true a4, cond_true] at h
          split at h
          · exact zsameT (zbif h).2
          · cases h
        · rw [decide_eq_false a4, cond_false] at h
          have h := (zbif h).2
          split at h
          · rename_i n dp w sp r t _
            obtain ⟨hc, h⟩ := zif (zbif h).2
            have := zsameT h
            have e : zcnt (zcpy s r.1 r.2 sp w.1 w.2 dp n) = zcnt s := by
              unfold zcnt zcpy
              rw [if_neg (fun z => by omega)]
            rw [e] at this
            exact this
          · cases h
  | _ => exact absurd h (by intro z; cases z)
theorem zact_cntT {m pc pc' b : Nat} {ls ls' st st' : List zV} {s s' : zS} {i : Instr} {a : Int} (h : zact true m pc ls st s i a b = some (pc', ls', st', s')) (hc : zcnt s ≤ 115) : zcnt s' ≤ 115 := by
  rw [zact_cT h]
  exact hc
theorem zbs_cntT : ∀ (n : Nat) {m pc : Nat} {ls st : List zV} {s s' : zS} {v : Option zV}, zbs true n m pc ls st s = some (v, s') → zcnt s ≤ 115 → zcnt s' ≤ 115 := by
  intro n
  induction n with
  | zero => intro m pc ls st s s' v h; cases h
  | succ n ih =>
    intro m pc ls st s s' v h hc
    unfold zbs at h
    split at h
    · cases h
    · split at h
      · cases h; exact hc
      · split at h
        · split at h
          · rename_i hb
            exact ih h (ih hb hc)
          · cases h
        · split at h
          · rename_i ha
            exact ih h (zact_cntT ha hc)
          · cases h
theorem zdAx {s : State} {args : Array Value} (hts : ∀ w ∈ lw_tbl, w.before args s = true) (t : Nat) (ht : t ∈ zarr) : ∃ cA : ClassId, ArrOfT s cA (zat t) ∧ va_RA s cA (zat t) := by
  have hmem : t = 20 ∨ t = 21 ∨ t = 22 ∨ t = 29 ∨ (t ∈ zarr ∧ 30 ≤ t) := by
    have key : ∀ t ∈ zarr, t = 20 ∨ t = 21 ∨ t = 22 ∨ t = 29 ∨ 30 ≤ t := by decide
    rcases key t ht with h | h | h | h | h
    · exact Or.inl h
    · exact Or.inr (Or.inl h)
    · exact Or.inr (Or.inr (Or.inl h))
    · exact Or.inr (Or.inr (Or.inr (Or.inl h)))
    · exact Or.inr (Or.inr (Or.inr (Or.inr ⟨ht, h⟩)))
  rcases hmem with h | h | h | h | ⟨-, h⟩
  · subst h
    obtain ⟨c, k, comp, h1, h2, h3⟩ := Cond.arrayClass_spec (hts (.arrayClass .int) (by decide +kernel))
    exact ⟨c, fun N z => ⟨(fun q hq => by cases hq), k, h2, comp, h3⟩, h1⟩
  · subst h
    obtain ⟨c, k, comp, h1, h2, h3⟩ := Cond.arrayClass_spec (hts (.arrayClass .boolean) (by decide +kernel))
    exact ⟨c, fun N z => ⟨(fun q hq => by cases hq), k, h2, comp, h3⟩, h1⟩
  · subst h
    obtain ⟨c, k, comp, h1, h2, h3⟩ := Cond.arrayClass_spec (hts (.arrayClass .long) (by decide +kernel))
    exact ⟨c, fun N z => ⟨(fun q hq => by cases hq), k, h2, comp, h3⟩, h1⟩
  · subst h
    obtain ⟨comp, c, k, h1, -, h2, h3, h4⟩ := arrayOverA_spec (hts (.arrayOver (.array .long)) (by decide +kernel))
    exact ⟨c, fun N z => ⟨(fun q hq => by cases hq), k, h2, comp, h3⟩, h4⟩
  · have hz : zat t = .object (zcl (t - 30)) := by
      unfold zat
      rw [if_neg (by omega), if_neg (by omega), if_neg (by omega), if_neg (by omega)]
    obtain ⟨comp, c, k, h1, -, h2, h3, h4⟩ := Cond.arrayOver_spec (hts (.arrayOver (.object (zcl (t - 30)))) (List.mem_filter.mp (zao_in t ht h)).1)
    rw [hz]
    exact ⟨c, fun N z => ⟨(fun q hq => by cases hq), k, h2, comp, h3⟩, k, comp, h2, h3, h1, h4⟩
theorem zgw_sub (w : Cond) (h : w ∈ zgw) : w ∈ lw_tbl := (List.mem_filter.mp h).1
theorem zstat {s : State} {args : Array Value} {nm : String} {f : Nat → Int} {A : Nat → Prop} (hl : (Cond.laysStatic "SnowSchool" nm "[I").before args s = true) (hini : (Cond.initialized "SnowSchool").before args s = true) (harr : (Cond.arrayOf (Term.static "SnowSchool" nm "[I") .int).before args s = true) (hlen : (Cond.eq (Term.length (Term.static "SnowSchool" nm "[I")) (Term.int 4)).before args s = true) (hel : ∀ j : Nat, j < 4 → (Cond.eq (Term.elem (Term.static "SnowSchool" nm "[I") (Term.int (Int32.ofNat j))) (Term.int (Int32.ofInt (f j)))).before args s = true) (hA : ∀ a : Nat, a < s.heap.size → ¬ A a) : ∃ t : Nat, va_Z "SnowSchool" nm "[I" (.ref t) A s s.heap ∧ va_T .int t 4 (fun j => .int (Int32.ofInt (f j))) A s s.heap := by
  obtain ⟨t, h1, h2⟩ := va_Tof (f := fun j => .int (Int32.ofInt (f j))) (N := 4) (by decide) harr (va_eqt hlen) (fun j hj => va_eqt (hel j hj)) hA
  exact ⟨t, va_Zof hl hini h1 hA, h2⟩
theorem zsw_row {f : Int → Int} {r : Nat × Int} {dA : Nat → ClassId} {ad : Nat → Int → Nat} (h : ∀ j : Nat, j < lg r.1 → 3 ≤ zsk r.1 j → f j = 1) : zcell true dA ad f r = zcell false dA ad f r := by
  unfold zcell
  by_cases hg : r.1 ≤ 12
  · rw [zbl hg, cond_true, cond_true]
    refine congrArg (fun z => Sum.inr (tg r.1, z)) (List.map_congr_left (fun k hk => ?_))
    have hk := List.mem_range.mp hk
    have h9 := h k hk
    rw [zsk_o hg] at h9
    unfold zfv
    by_cases k1 : zfk (tg r.1) k ≤ 1
    · rw [zbl k1]; rfl
    · by_cases k2 : zfk (tg r.1) k = 2
      · rw [k2]; rfl
      · rw [h9 (by omega)]
        rfl
  · have hg : 12 < r.1 := by omega
    rw [zbln hg, cond_false, cond_false]
    refine congrArg (fun z => Sum.inl (dA (tg r.1), lg r.1, z)) ?_
    unfold zar
    by_cases k1 : zak r.1 ≤ 1
    · rw [zbl k1]; rfl
    · by_cases k2 : zak r.1 = 2
      · rw [k2]; rfl
      · rw [zbln (show 1 < zak r.1 by omega), zbq k2]
        refine congrArg (fun z => Sum.inr (Sum.inr (Sum.inr (Sum.inr z)))) (funext fun j => ?_)
        cases hj : Nat.ble (j + 1) (lg r.1) with
        | false => rw [Bool.and_false, Bool.and_false]
        | true =>
          have h9 := h j (zlt' hj)
          rw [zsk_a hg] at h9
          rw [h9 (by omega)]
          rfl
theorem zlg50 : ∀ k, k < 115 → ∀ j, j < lg (zn k).1 → 3 ≤ zsk (zn k).1 j → lg (zn k).1 ≤ 50 ∧ (∃ q, q < 115 ∧ zn q = ((ztr (znm k) j).1, (ztr (znm k) j).2.toNat)) ∧ 0 ≤ (ztr (znm k) j).2 := by
  have key : (List.range 115).all (fun k => (List.range (min 51 (lg (zn k).1))).all (fun j => !(Nat.ble 3 (zsk (zn k).1 j)) || (Nat.ble (lg (zn k).1) 50 && (List.range 115).any (fun q => zn q == ((ztr (znm k) j).1, (ztr (znm k) j).2.toNat)) && decide (0 ≤ (ztr (znm k) j).2)))) = true := by decide +kernel
  have big : (List.range 115).all (fun k => Nat.ble (lg (zn k).1) 50 || (Nat.ble (zak (zn k).1) 2 && Nat.ble 13 (zn k).1)) = true := by decide +kernel
  intro k hk j hj h3
  have hb := List.all_eq_true.mp big k (List.mem_range.mpr hk)
  rw [Bool.or_eq_true] at hb
  rcases hb with hb | hb
  · have hb := zlt' hb
    have := List.all_eq_true.mp (List.all_eq_true.mp key k (List.mem_range.mpr hk)) j (List.mem_range.mpr (by omega))
    rw [Bool.or_eq_true] at this
    rcases this with h | h
    · rw [zbl h3] at h; cases h
    · simp only [Bool.and_eq_true, decide_eq_true_eq, List.any_eq_true, beq_iff_eq] at h
      obtain ⟨⟨-, q, hq, h2⟩, h4⟩ := h
      exact ⟨hb, ⟨q, List.mem_range.mp hq, h2⟩, h4⟩
  · rw [Bool.and_eq_true] at hb
    rw [zsk_a (zlt' hb.2)] at h3
    have := zlt' hb.1
    omega
set_option maxHeartbeats 4000000 in
/-- the walk of the law's body, out of the little machine's -/
theorem whole_start_of (hlaw : zLaw) {p : Program} {e : Env} {s : State} {m : MethodId} {below : List Frame} {meth : Method} {c : Code} (l : Launch) {b L : Nat} {xs : Nat → Int32} (hL : L ≤ 3072) (C0 : lw_At p s m meth c b L xs) : W p l e room_1 s m #[Value.ref b] below meth c s.heap [] 0 0 (lw_Z below #[Value.ref b] s) (entryFrame m ([Value.ref b] : List Value).toArray 4) := by
  obtain ⟨hx, hb, hr, hml, hown, hts, hX, hbl, hlocks, hgv⟩ := C0
  have hA : ∀ a : Nat, a < s.heap.size → ¬ (fun q => s.heap.size ≤ q) a := fun a ha z => by have : s.heap.size ≤ a := z; omega
  have hgw : ∀ w ∈ zgw, w.before #[Value.ref b] s = true := fun w hw => hts w (zgw_sub w hw)
  have hex : ∀ c : Nat, ∃ x : ClassId × (Nat → Nat), c < 12 → u_Kn s (zcl c) (zTc c) (lg c) x.1 x.2 := fun c => by
    by_cases hc : c < 12
    · obtain ⟨cC, iS, h⟩ := u_known hgw (zhin c hc) (hgw _ (zkia c hc).1)
      exact ⟨(cC, iS), fun _ => h⟩
    · exact ⟨(0, fun _ => 0), fun z => absurd z hc⟩
  obtain ⟨fD, hfD⟩ := Classical.axiomOfChoice hex
  have hexA : ∀ t : Nat, ∃ cA : ClassId, t ∈ zarr → ArrOfT s cA (zat t) ∧ va_RA s cA (zat t) := fun t => by
    by_cases ht : t ∈ zarr
    · obtain ⟨cA, h⟩ := zdAx hts t ht
      exact ⟨cA, fun _ => h⟩
    · exact ⟨0, fun z => absurd z ht⟩
  obtain ⟨dA, hdA⟩ := Classical.axiomOfChoice hexA
  have hK : va_K (fun c => (fD c).1, fun c => (fD c).2) vwCl (ztys dA) s := by
    refine ⟨fun c q hq => ?_, fun k q hq => ?_⟩
    · have hc : c < 12 := (List.getElem?_eq_some_iff.mp hq).1
      have := zvw c hc
      rw [this] at hq
      cases hq
      exact hfD c hc
    · unfold ztys at hq
      rw [List.getElem?_map] at hq
      cases ht : zarr[k]? with
      | none => rw [ht] at hq; cases hq
      | some t =>
        rw [ht] at hq
        cases hq
        exact hdA t (List.mem_of_getElem? ht)
  have hs := flat_of_before _ hgv
  obtain ⟨t8, z8, y8⟩ := zstat (f := z108) (nm := "PUPIL_KINDS") (hts _ (by decide +kernel)) (hts _ (by decide +kernel)) (hs _ (by decide +kernel)) (hs _ (by decide +kernel)) (fun j hj => by
    match j, hj with
    | 0, _ => exact hs _ (by decide +kernel)
    | 1, _ => exact hs _ (by decide +kernel)
    | 2, _ => exact hs _ (by decide +kernel)
    | 3, _ => exact hs _ (by decide +kernel)
    | j + 4, hj => omega) hA
  obtain ⟨t9, z9, y9⟩ := zstat (f := z109) (nm := "TEACHER_KINDS") (hts _ (by decide +kernel)) (hts _ (by decide +kernel)) (hs _ (by decide +kernel)) (hs _ (by decide +kernel)) (fun j hj => by
    match j, hj with
    | 0, _ => exact hs _ (by decide +kernel)
    | 1, _ => exact hs _ (by decide +kernel)
    | 2, _ => exact hs _ (by decide +kernel)
    | 3, _ => exact hs _ (by decide +kernel)
    | j + 4, hj => omega) hA
  let ad0 : Nat → Int → Nat := fun g _ => if g = 108 then t8 else if g = 109 then t9 else b
  have hNw : ∀ w ∈ zbw, va_Nw w s := fun w hw => by
    have hm := hts w (List.mem_filter.mp hw).1
    have hbw := (List.mem_filter.mp hw).2
    cases w with
    | methodLinkNest => exact va_Nw.of rfl hm
    | fieldLinkNest => exact va_Nw.of rfl hm
    | arrayOver t =>
      cases t with
      | object C => exact va_AO.of hm
      | _ => cases hbw
    | _ => cases hbw
  have hC : zCt p room_1 s m #[Value.ref b] meth c 188 (fun c => (fD c).1, fun c => (fD c).2) dA (fun q => s.heap.size ≤ q) :=
    ⟨hx, hb, hml, hown, hgw, fun z => absurd z (by decide), by decide, by decide, hK, hNw, fun q hq => hq, hts (.arrayOver (.array .long)) (by decide +kernel)⟩
  have hT : zSt ad0 (fun q => s.heap.size ≤ q) L xs s s.heap := ⟨⟨z8, y8⟩, ⟨z9, y9⟩, hX, hbl, hA b hbl⟩
  have hcn : zcnt zc0 = 0 := rfl
  have hX0 : zAt false (fun c => (fD c).1, fun c => (fD c).2) dA (fun q => s.heap.size ≤ q) L xs s.heap ad0 zc0 s.heap [] := by
    have hw : zws false dA ad0 zc0 = [] := rfl
    unfold zAt
    rw [hw]
    refine ⟨fun k q h => (by cases h), ⟨fun i j x y h => (by cases h), fun k q h => (by cases h)⟩, va_S.rf, ⟨by rw [hcn]; exact Nat.zero_le _, fun k hk => by rw [hcn] at hk; omega⟩, ⟨fun j hj => ?_, fun j hj => ?_, Or.inl rfl⟩⟩
    · show zc0 108 0 j = z108 j
      unfold zc0
      rw [if_pos ⟨rfl, rfl⟩]
      rfl
    · show zc0 109 0 j = z109 j
      unfold zc0
      rw [if_neg (fun z => by omega), if_pos ⟨rfl, rfl⟩]
      rfl
  obtain ⟨s1, hrun, hc1, hini⟩ := zrun1
  rw [lg_entry_eq]
  have hl0 : zLr ad0 _ 4 (zpad 4 [zR 110 0]) := zLr_entry (l := [zR 110 0]) (by decide)
  have hsl : zsl 115 = 18187 := by decide +kernel
  have key := z_part (D := (fun c => (fD c).1, fun c => (fD c).2)) (L := L) (xs := xs) l (p := p) (e := e) (below := below) (Q := lw_Z below #[Value.ref b] s) (n0 := 0) 10 hrun hC hT hX0 hl0 (fun v hv => by
      have hv : v ∈ [zR 110 0, zU, zU, zU] := hv
      simp only [List.mem_cons, List.not_mem_nil, or_false] at hv
      rcases hv with rfl | rfl | rfl | rfl
      · exact Or.inr (Or.inr (Or.inr rfl))
      · exact trivial
      · exact trivial
      · exact trivial) (fun v hv => by cases hv) (Nat.zero_le _) (by rw [hc1]; show 115 - 0 ≤ 600000; omega) (by rw [hc1, hsl]; show 18187 - 0 ≤ 7302250; omega) ?_
  · exact key
  · intro ad1 H1 locs1 ls1 he X1 hl1 ho1 hs1
    let s2 : zS := fun g i k => if g = 110 then (if 0 ≤ k ∧ k < (L : Int) then (xs k.toNat).toInt else 0) else if g = 111 then (L : Int) else s1 g i k
    have e2 : ∀ (g : Nat) (i : Int), g ≠ 110 → g ≠ 111 → s2 g i = s1 g i := fun g i h1 h2 => by
      funext k
      show (if g = 110 then _ else if g = 111 then _ else s1 g i k) = _
      rw [if_neg h1, if_neg h2]
    have hc2 : zcnt s2 = 115 := by
      unfold zcnt
      rw [e2 200 0 (by omega) (by omega)]
      exact hc1
    have e110 : ∀ j : Nat, j < L → s2 110 0 j = (xs j).toInt := fun j hj => by
      show (if (110 : Nat) = 110 then (if 0 ≤ (j : Int) ∧ (j : Int) < (L : Int) then (xs (j : Int).toNat).toInt else 0) else _) = _
      rw [if_pos rfl, if_pos ⟨by omega, by omega⟩]
      rfl
    have hI : zInit L xs s2 := ⟨hc2, fun k hk hl j hj => by
        have hg := zg_le k hk
        rw [e2 _ _ (by show (zn k).1 ≠ 110; omega) (by show (zn k).1 ≠ 111; omega)]
        exact hini k hk hl j hj, fun j hj => by rw [e2 _ _ (by omega) (by omega)]; exact X1.2.2.2.2.1 j hj, fun j hj => by rw [e2 _ _ (by omega) (by omega)]; exact X1.2.2.2.2.2.1 j hj, rfl, e110⟩
    obtain ⟨K, v, s3, hbs, hv⟩ := zEv_bs (hlaw L xs s2 hL hI) (by decide)
    have hw2 : zws true dA ad1 s2 = zws false dA ad1 s1 := by
      unfold zws
      rw [hc2, hc1]
      refine List.map_congr_left (fun k hk => ?_)
      have hk := List.mem_range.mp hk
      have hg := zg_le k hk
      unfold zwk
      rw [e2 _ _ (by show (zn k).1 ≠ 110; omega) (by show (zn k).1 ≠ 111; omega), zsw_row (fun j hj h3 => ?_)]
      obtain ⟨h50, -⟩ := zlg50 k hk j hj h3
      have := hini k hk h50 j hj
      rw [this]
      unfold zini
      rw [if_pos (show 3 ≤ zsk (zn k).1 j from h3)]
    have hX2 : zAt true (fun c => (fD c).1, fun c => (fD c).2) dA (fun q => s.heap.size ≤ q) L xs s.heap ad1 s2 H1 locs1 := by
      obtain ⟨x1, x2, x3, x4, x5⟩ := X1
      refine ⟨by rw [hw2]; exact x1, by rw [hw2]; exact x2, x3, ⟨by rw [hc2]; decide, fun k hk j hj => ?_⟩, ⟨fun j hj => ?_, fun j hj => ?_, Or.inr ⟨rfl, by omega, e110⟩⟩⟩
      · rw [hc2] at hk ⊢
        have hg := zg_le k hk
        rw [e2 _ _ (by show (zn k).1 ≠ 110; omega) (by show (zn k).1 ≠ 111; omega)]
        obtain ⟨o1, o2, o3, -⟩ := x4.2 k (by rw [hc1]; exact hk) j hj
        refine ⟨o1, o2, o3, fun h3 _ => ?_⟩
        obtain ⟨-, ⟨q, hq, h5⟩, h6⟩ := zlg50 k hk j hj h3
        refine ⟨q, hq, hq, ?_⟩
        show ((zn q).1, ((zn q).2 : Int)) = _
        rw [h5]
        exact Prod.ext rfl (Int.toNat_of_nonneg h6)
      · rw [e2 _ _ (by omega) (by omega)]; exact x5.1 j hj
      · rw [e2 _ _ (by omega) (by omega)]; exact x5.2.1 j hj
    have hcs : zcnt s1 = zcnt s2 := by rw [hc1, hc2]
    have hov : ∀ v ∈ [zR 110 0, zR 10 0, zR 11 0, zI 0], zov (zcnt s2) v := fun v hv => by rw [← hcs]; exact ho1 v hv
    have hcnt3 := zbs_cnt K hbs
    have hle3 : zcnt s3 ≤ 115 ∨ True := Or.inr trivial
    have hfin := z_sim (ph := true) (D := (fun c => (fD c).1, fun c => (fD c).2)) (dA := dA) (A := fun q => s.heap.size ≤ q) (L := L) (xs := xs) l K 188 18 _ [] s2 v s3 hbs p e room_1 s m #[Value.ref b] below meth c (lw_Z below #[Value.ref b] s) 0 ad1 H1 locs1 ls1 hC (hT.mv (Vm.Alike.refl _) (fun _ _ _ => rfl) (Nat.le_refl _) he.2) hX2 hl1 hov (fun v hv => by cases hv) (Nat.zero_le _) ?_ ?_ ?_
    · rw [hcs]
      exact hfin
    · have : zcnt s3 ≤ 115 := zbs_cntT K hbs (by rw [hc2]; exact Nat.le_refl _)
      show zcnt s3 - 0 ≤ 600000
      omega
    · have : zcnt s3 ≤ 115 := zbs_cntT K hbs (by rw [hc2]; exact Nat.le_refl _)
      have := zsl_mono this
      show zsl (zcnt s3) - 0 ≤ 7302250
      omega
    · intro ad' H' locs' ls' pc' i he' X' hd hret hvo
      have h3 : zcnt s3 ≤ 115 := zbs_cntT K hbs (by rw [hc2]; exact Nat.le_refl _)
      have h4 := zsl_mono h3
      rw [hv] at hret ⊢
      obtain ⟨-, hk⟩ := zret_f hret
      have hi : i = .ireturn := by
        rcases hk with ⟨h, -⟩ | ⟨-, -, x, h⟩ | ⟨-, -, r, h⟩ | ⟨-, -, h⟩
        · exact h
        · rw [h] at hv; cases hv
        · rw [h] at hv; cases hv
        · rw [h] at hv; cases hv
      subst hi
      refine va_forget X'.2.2.1.2.2 ?_
      refine W.widen (k := 600000) (n := 7302250) (by omega) (by omega) ?_
      exact lw_ret hx hb hr hlocks hd

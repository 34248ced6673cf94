/-! the little machine: numbers as Int, cells by name (group, index), no addresses -/
abbrev zV : Type := Int ⊕ Int ⊕ (Nat × Int) ⊕ Unit
abbrev zI (x : Int) : zV := .inl x
abbrev zL (x : Int) : zV := .inr (.inl x)
abbrev zR (g : Nat) (i : Int) : zV := .inr (.inr (.inl (g, i)))
abbrev zU : zV := .inr (.inr (.inr ()))
abbrev zS : Type := Nat → Int → Int → Int
def zup (s : zS) (g : Nat) (i k x : Int) : zS := fun g' i' k' => if g' = g ∧ i' = i ∧ k' = k then x else s g' i' k'
/-- a cell all 0 -/
def zcz (s : zS) (g : Nat) (i : Int) : zS := fun g' i' k' => if g' = g ∧ i' = i then 0 else s g' i' k'
def zcpy (s : zS) (g1 : Nat) (i1 sp : Int) (g2 : Nat) (i2 dp n : Int) : zS := fun g i k => if g = g2 ∧ i = i2 ∧ dp ≤ k ∧ k < dp + n then s g1 i1 (sp + (k - dp)) else s g i k
def w32 (x : Int) : Int := (x + 2147483648) % 4294967296 - 2147483648
def w64 (x : Int) : Int := (x + 9223372036854775808) % 18446744073709551616 - 9223372036854775808
def zand (x y : Int) : Int := (Int32.ofInt x &&& Int32.ofInt y).toInt
def zor (x y : Int) : Int := (Int32.ofInt x ||| Int32.ofInt y).toInt
def zxor (x y : Int) : Int := (Int32.ofInt x ^^^ Int32.ofInt y).toInt
def zshl (x y : Int) : Int := (Int32.ofInt x <<< (Int32.ofInt y &&& 31)).toInt
def zshr (x y : Int) : Int := (Int32.ofInt x >>> (Int32.ofInt y &&& 31)).toInt
def zushr (x y : Int) : Int := ((Int32.ofInt x).toUInt32 >>> ((Int32.ofInt y).toUInt32 &&& Int32.toUInt32 31)).toInt32.toInt
def zdiv (x y : Int) : Int := (Int32.ofInt x / Int32.ofInt y).toInt
def zrem (x y : Int) : Int := (Int32.ofInt x - Int32.ofInt x / Int32.ofInt y * Int32.ofInt y).toInt
def zlshl (x y : Int) : Int := (Int64.ofInt x <<< ((Int32.ofInt y).toInt64 &&& 63)).toInt
def zlshr (x y : Int) : Int := (Int64.ofInt x >>> ((Int32.ofInt y).toInt64 &&& 63)).toInt
def zi2b (x : Int) : Int := (Int32.ofInt x).toInt8.toInt32.toInt
def zi2s (x : Int) : Int := (Int32.ofInt x).toInt16.toInt32.toInt
def zclr : zV → zV
  | .inr (.inl _) => zU
  | v => v
def zst : Nat → zV → List zV → List zV
  | _, _, [] => []
  | 0, v, _ :: t => v :: t
  | 1, v, a :: _ :: t => zclr a :: v :: t
  | n + 1, v, a :: t => a :: zst n v t
def zld (ls : List zV) (k : Nat) : zV := ls.getD k zU
-- the layout once more
def zln (s : zS) (g : Nat) : Int := bif Nat.beq g 110 then s 111 0 0 else bif Nat.ble 108 g then 4 else (lg g : Int)
/-- what an array holds: 0 int, 1 boolean, 2 long, 3 references, 9 it's none -/
def zak (g : Nat) : Nat := bif Nat.beq g 110 then 0 else bif Nat.beq g 108 then 0 else bif Nat.beq g 109 then 0 else bif Nat.beq (tg g) 20 then 0 else bif Nat.beq (tg g) 21 then 1 else bif Nat.beq (tg g) 22 then 2 else bif Nat.ble (tg g) 28 then 9 else bif Nat.ble (tg g) 39 then 3 else 9
def zfk (c k : Nat) : Nat := match zty c k with
  | .int => 0
  | .boolean => 1
  | .long => 2
  | _ => 3
def zfin (c k : Nat) : Bool := (zTc c k).2.2.2
/-- the group to which a field of references leads, by class and field -/
def zm_rg : List ((Nat × Nat) × Nat) := [((1, 0), 51), ((1, 4), 52), ((3, 0), 48), ((3, 2), 49), ((3, 5), 50), ((4, 0), 43), ((4, 1), 45), ((4, 2), 55), ((4, 4), 46), ((4, 5), 47), ((5, 6), 42), ((6, 0), 40), ((6, 2), 41), ((6, 9), 2), ((7, 2), 54), ((10, 0), 6), ((10, 1), 4), ((10, 2), 3), ((10, 3), 1), ((10, 4), 53), ((11, 13), 73), ((11, 14), 74), ((11, 15), 75), ((11, 16), 76), ((11, 17), 77), ((11, 18), 78), ((11, 19), 79), ((11, 20), 80), ((11, 21), 81), ((11, 22), 82), ((11, 23), 83), ((11, 24), 84), ((11, 25), 85), ((11, 26), 86), ((11, 27), 87), ((11, 28), 88), ((11, 29), 89), ((11, 30), 90), ((11, 31), 91), ((11, 32), 92), ((11, 33), 93), ((11, 34), 94), ((11, 35), 95), ((11, 36), 96), ((11, 37), 97), ((11, 38), 98), ((11, 39), 99), ((11, 40), 100), ((11, 41), 101), ((11, 42), 102), ((11, 43), 103), ((11, 44), 104), ((11, 45), 105)]
def zrg (c k : Nat) : Nat := (zm_rg.lookup (c, k)).getD 99
/-- the group to which an array of references leads -/
def zm_ra : List (Nat × Nat) := [(40, 5), (41, 8), (43, 44), (48, 9), (49, 12), (51, 0), (53, 7)]
def zra (g : Nat) : Nat := (zm_ra.lookup g).getD 99
def zm_rk : List Nat := [0, 4, 4, 4, 1, 4, 0, 1, 1, 0, 0, 0, 4, 0, 4, 4, 4, 1, 4, 0, 0, 0, 0, 0, 4, 0, 4, 1, 4, 0, 0, 4, 4, 0, 0, 4, 1, 1, 1, 0, 1, 4, 1, 1, 1, 0, 0, 4, 0, 4, 0, 3, 0, 0, 0, 0, 0, 4, 0, 0, 4, 4, 1, 0, 1, 1, 4, 1, 1, 4, 1, 4, 0, 0, 0, 0, 0, 0, 0, 0, 0, 0, 0, 0, 0, 0, 0, 0, 0, 0, 0, 0, 0, 0, 0, 0, 0, 0, 0, 0, 0, 0, 0, 0, 0, 0, 0, 0, 0, 0, 0, 1, 1, 1, 1, 1, 4, 1, 0, 1, 1, 1, 0, 0, 0, 1, 1, 0, 0, 0, 0, 0, 0, 1, 0, 0, 0, 1, 0, 0, 1, 1, 1, 1, 0, 0, 0, 0, 0, 0, 0, 0, 0, 0, 1, 0, 0, 0, 0, 0, 0, 0, 0, 1, 1, 0, 0, 0, 0, 0, 0, 1, 1, 1, 1, 0, 0, 0, 0, 0, 0, 1, 0, 0, 0, 0, 0, 0, 1]
/-- what a method returns: 0 int, 1 boolean, 2 long, 3 a reference, 4 nothing -/
def zrk (m : Nat) : Nat := zm_rk.getD m 9
def zcat : zV → Nat
  | .inr (.inl _) => 2
  | _ => 1
def zwsum (l : List zV) : Nat := (l.map zcat).sum
def zxa : List zV → List zV
  | [] => []
  | .inr (.inl x) :: t => zL x :: zU :: zxa t
  | v :: t => v :: zxa t
def zpad (n : Nat) (l : List zV) : List zV := zxa l ++ List.replicate (n - (zxa l).length) zU
def zcnt (s : zS) : Nat := (s 200 0 0).toNat
def zcmp (c : ClassFile.Cond) (x y : Int) : Bool := match c with
  | .eq => decide (x = y)
  | .ne => decide (¬ x = y)
  | .lt => decide (x < y)
  | .ge => decide (y ≤ x)
  | .gt => decide (y < x)
  | .le => decide (x ≤ y)
def zts (pc : Nat) (dflt lo hi : Int) (offs : Array Int) (x : Int) : Int := if x < lo ∨ hi < x then (pc : Int) + dflt else (pc : Int) + offs.getD (x - lo).toNat (-10000000)
def zret (m : Nat) (i : Instr) (st : List zV) : Option (Option zV) := match i with
  | .ireturn => match st with
    | [.inl x] => bif Nat.beq (zrk m) 0 then some (some (zI x)) else bif Nat.beq (zrk m) 1 then (if x = 0 ∨ x = 1 then some (some (zI x)) else none) else none
    | _ => none
  | .lreturn => match st with
    | [.inr (.inl x)] => bif Nat.beq (zrk m) 2 then some (some (zL x)) else none
    | _ => none
  | .areturn => match st with
    | [.inr (.inr (.inl r))] => bif Nat.beq (zrk m) 3 then some (some (zR r.1 r.2)) else none
    | _ => none
  | .return_ => match st with
    | [] => bif Nat.beq (zrk m) 4 then some none else none
    | _ => none
  | _ => none
/-- a call of one of the program's own methods: the method, its arguments, what stays on the stack -/
def zca (virt : Bool) (a : Int) (st : List zV) : Option (Nat × List zV × List zV) :=
  bif decide (a < 900) then
    let k := znp a.toNat + (bif Nat.beq (zkd a.toNat) 1 then 0 else 1)
    bif Nat.ble k st.length && Nat.ble (zwsum (st.drop k)) 8 && Nat.ble (zxa (st.take k).reverse).length (znl a.toNat) then
      let args := (st.take k).reverse
      bif virt then (match args with
        | .inr (.inr (.inl r)) :: _ => bif Nat.beq (tg r.1) (zcn a.toNat) && Nat.ble r.1 12 then some (a.toNat, args, st.drop k) else none
        | _ => none)
      else some (a.toNat, args, st.drop k)
    else none
  else none
def zcal (i : Instr) (a : Int) (st : List zV) : Option (Nat × List zV × List zV) := match i with
  | .invokevirtual _ => zca true a st
  | .invokestatic _ => zca false a st
  | .invokespecial _ => (match (zca false a st) with
    | some (m, .inr (.inr (.inl r)) :: t, rest) => some (m, zR r.1 r.2 :: t, rest)
    | _ => none)
  | _ => none
abbrev zX : Type := Option (Nat × List zV × List zV × zS)
def zgetf (ph : Bool) (pc : Nat) (ls st : List zV) (s : zS) (c k : Nat) : zX := match st with
  | .inr (.inr (.inl r)) :: t => bif Nat.beq (tg r.1) c && Nat.ble r.1 12 && Nat.ble (k + 1) (lg r.1) then
      (bif Nat.ble (zfk c k) 1 then some (pc + 3, ls, zI (s r.1 r.2 k) :: t, s)
      else bif Nat.beq (zfk c k) 2 then some (pc + 3, ls, zL (s r.1 r.2 k) :: t, s)
      else bif ph || decide (s r.1 r.2 k = 1) then some (pc + 3, ls, zR (zrg c k) r.2 :: t, s) else none) else none
  | _ => none
def zputf (ph : Bool) (m pc : Nat) (ls st : List zV) (s : zS) (c k : Nat) : zX := match st with
  | v :: .inr (.inr (.inl r)) :: t => bif Nat.beq (tg r.1) c && Nat.ble r.1 12 && Nat.ble (k + 1) (lg r.1) && (!(zfin c k) || (Nat.beq (zkd m) 2 && Nat.beq (zcn m) c)) then
      (match v with
      | .inl x => bif Nat.beq (zfk c k) 0 then some (pc + 3, ls, t, zup s r.1 r.2 k x) else bif Nat.beq (zfk c k) 1 then (if x = 0 ∨ x = 1 then some (pc + 3, ls, t, zup s r.1 r.2 k x) else none) else none
      | .inr (.inl x) => bif Nat.beq (zfk c k) 2 then some (pc + 3, ls, t, zup s r.1 r.2 k x) else none
      | .inr (.inr (.inl q)) => bif !ph && Nat.beq (zfk c k) 3 && decide (q = (zrg c k, r.2)) then some (pc + 3, ls, t, zup s r.1 r.2 k 1) else none
      | _ => none) else none
  | _ => none
/-- the next cell, all 0 -/
def zalloc (ph : Bool) (s : zS) (t : Nat) (len : Int) : Option (Nat × Int × zS) :=
  bif !ph && Nat.ble (zcnt s + 1) zN && Nat.beq (tg (zn (zcnt s)).1) t && decide (len = (lg (zn (zcnt s)).1 : Int)) then
    some ((zn (zcnt s)).1, ((zn (zcnt s)).2 : Int), zup (zcz s (zn (zcnt s)).1 ((zn (zcnt s)).2 : Int)) 200 0 0 ((zcnt s : Int) + 1)) else none
/-- new long[5][1024] -/
def zmu (s : zS) : zS := fun g i k => if g = 200 ∧ i = 0 ∧ k = 0 then 37 else if g = 43 ∧ i = 0 then 1 else if g = 44 ∧ 0 ≤ i ∧ i < 5 then 0 else s g i k
def zact (ph : Bool) (m pc : Nat) (ls st : List zV) (s : zS) (i : Instr) (a : Int) (b : Nat) : zX := match i with
  | .iload_n k => (match zld ls k.val with | .inl x => some (pc + 1, ls, zI x :: st, s) | _ => none)
  | .iload k => (match zld ls k with | .inl x => some (pc + 2, ls, zI x :: st, s) | _ => none)
  | .lload_n k => (match zld ls k.val with | .inr (.inl x) => some (pc + 1, ls, zL x :: st, s) | _ => none)
  | .lload k => (match zld ls k with | .inr (.inl x) => some (pc + 2, ls, zL x :: st, s) | _ => none)
  | .aload_n k => (match zld ls k.val with | .inr (.inr (.inl r)) => some (pc + 1, ls, zR r.1 r.2 :: st, s) | _ => none)
  | .aload k => (match zld ls k with | .inr (.inr (.inl r)) => some (pc + 2, ls, zR r.1 r.2 :: st, s) | _ => none)
  | .istore_n k => (match st with | .inl x :: t => bif Nat.ble (k.val + 1) ls.length then some (pc + 1, zst k.val (zI x) ls, t, s) else none | _ => none)
  | .istore k => (match st with | .inl x :: t => bif Nat.ble (k + 1) ls.length then some (pc + 2, zst k (zI x) ls, t, s) else none | _ => none)
  | .astore_n k => (match st with | .inr (.inr (.inl r)) :: t => bif Nat.ble (k.val + 1) ls.length then some (pc + 1, zst k.val (zR r.1 r.2) ls, t, s) else none | _ => none)
  | .astore k => (match st with | .inr (.inr (.inl r)) :: t => bif Nat.ble (k + 1) ls.length then some (pc + 2, zst k (zR r.1 r.2) ls, t, s) else none | _ => none)
  | .lstore k => (match st with | .inr (.inl x) :: t => bif Nat.ble (k + 2) ls.length then some (pc + 2, (zst k (zL x) ls).set (k + 1) zU, t, s) else none | _ => none)
  | .iinc k n => (match zld ls k with | .inl x => bif Nat.ble (k + 1) ls.length then some (pc + 3, zst k (zI (w32 (x + n))) ls, st, s) else none | _ => none)
  | .iconst n => some (pc + 1, ls, zI n :: st, s)
  | .bipush n => some (pc + 2, ls, zI n :: st, s)
  | .sipush n => some (pc + 3, ls, zI n :: st, s)
  | .ldc _ => some (pc + 2, ls, zI a :: st, s)
  | .ldc_w _ => some (pc + 3, ls, zI a :: st, s)
  | .ldc2_w _ => some (pc + 3, ls, zL a :: st, s)
  | .lconst n => some (pc + 1, ls, zL (n.val : Int) :: st, s)
  | .iadd => (match st with | .inl y :: .inl x :: t => some (pc + 1, ls, zI (w32 (x + y)) :: t, s) | _ => none)
  | .isub => (match st with | .inl y :: .inl x :: t => some (pc + 1, ls, zI (w32 (x - y)) :: t, s) | _ => none)
  | .imul => (match st with | .inl y :: .inl x :: t => some (pc + 1, ls, zI (w32 (x * y)) :: t, s) | _ => none)
  | .idiv => (match st with | .inl y :: .inl x :: t => if y = 0 then none else some (pc + 1, ls, zI (zdiv x y) :: t, s) | _ => none)
  | .irem => (match st with | .inl y :: .inl x :: t => if y = 0 then none else some (pc + 1, ls, zI (zrem x y) :: t, s) | _ => none)
  | .iand => (match st with | .inl y :: .inl x :: t => some (pc + 1, ls, zI (zand x y) :: t, s) | _ => none)
  | .ior => (match st with | .inl y :: .inl x :: t => some (pc + 1, ls, zI (zor x y) :: t, s) | _ => none)
  | .ixor => (match st with | .inl y :: .inl x :: t => some (pc + 1, ls, zI (zxor x y) :: t, s) | _ => none)
  | .ishl => (match st with | .inl y :: .inl x :: t => some (pc + 1, ls, zI (zshl x y) :: t, s) | _ => none)
  | .ishr => (match st with | .inl y :: .inl x :: t => some (pc + 1, ls, zI (zshr x y) :: t, s) | _ => none)
  | .iushr => (match st with | .inl y :: .inl x :: t => some (pc + 1, ls, zI (zushr x y) :: t, s) | _ => none)
  | .ladd => (match st with | .inr (.inl y) :: .inr (.inl x) :: t => some (pc + 1, ls, zL (w64 (x + y)) :: t, s) | _ => none)
  | .lmul => (match st with | .inr (.inl y) :: .inr (.inl x) :: t => some (pc + 1, ls, zL (w64 (x * y)) :: t, s) | _ => none)
  | .lshl => (match st with | .inl y :: .inr (.inl x) :: t => some (pc + 1, ls, zL (zlshl x y) :: t, s) | _ => none)
  | .lshr => (match st with | .inl y :: .inr (.inl x) :: t => some (pc + 1, ls, zL (zlshr x y) :: t, s) | _ => none)
  | .lcmp => (match st with | .inr (.inl y) :: .inr (.inl x) :: t => some (pc + 1, ls, zI (if x < y then -1 else if x = y then 0 else 1) :: t, s) | _ => none)
  | .i2l => (match st with | .inl x :: t => some (pc + 1, ls, zL x :: t, s) | _ => none)
  | .l2i => (match st with | .inr (.inl x) :: t => some (pc + 1, ls, zI (w32 x) :: t, s) | _ => none)
  | .i2b => (match st with | .inl x :: t => some (pc + 1, ls, zI (zi2b x) :: t, s) | _ => none)
  | .i2s => (match st with | .inl x :: t => some (pc + 1, ls, zI (zi2s x) :: t, s) | _ => none)
  | .dup => (match st with
    | .inl x :: t => some (pc + 1, ls, zI x :: zI x :: t, s)
    | .inr (.inr (.inl r)) :: t => some (pc + 1, ls, zR r.1 r.2 :: zR r.1 r.2 :: t, s)
    | _ => none)
  | .dup2 => (match st with
    | .inl x :: .inr (.inr (.inl r)) :: t => some (pc + 1, ls, zI x :: zR r.1 r.2 :: zI x :: zR r.1 r.2 :: t, s)
    | _ => none)
  | .goto _ => some (b, ls, st, s)
  | .ifCond c _ => (match st with | .inl x :: t => some (bif zcmp c x 0 then b else pc + 3, ls, t, s) | _ => none)
  | .if_icmp c _ => (match st with | .inl y :: .inl x :: t => some (bif zcmp c x y then b else pc + 3, ls, t, s) | _ => none)
  | .if_acmp c _ => (match st with
    | .inr (.inr (.inl q)) :: .inr (.inr (.inl r)) :: t => bif Nat.ble q.1 99 && Nat.ble r.1 99 then some (bif (match c with | .eq => decide (r = q) | .ne => !(decide (r = q))) then b else pc + 3, ls, t, s) else none
    | _ => none)
  | .tableswitch dflt lo hi offs => (match st with | .inl x :: t => (if 0 ≤ zts pc dflt lo hi offs x then some ((zts pc dflt lo hi offs x).toNat, ls, t, s) else none) | _ => none)
  | .getfield _ => zgetf ph pc ls st s a.toNat b
  | .putfield _ => zputf ph m pc ls st s a.toNat b
  | .getstatic _ => some (pc + 3, ls, zR a.toNat 0 :: st, s)
  | .arraylength => (match st with | .inr (.inr (.inl r)) :: t => bif Nat.ble (zak r.1) 3 && decide (0 ≤ zln s r.1) then some (pc + 1, ls, zI (zln s r.1) :: t, s) else none | _ => none)
  | .iaload => (match st with | .inl j :: .inr (.inr (.inl r)) :: t => if zak r.1 = 0 ∧ 0 ≤ j ∧ j < zln s r.1 then some (pc + 1, ls, zI (s r.1 r.2 j) :: t, s) else none | _ => none)
  | .baload => (match st with | .inl j :: .inr (.inr (.inl r)) :: t => if zak r.1 = 1 ∧ 0 ≤ j ∧ j < zln s r.1 then some (pc + 1, ls, zI (s r.1 r.2 j) :: t, s) else none | _ => none)
  | .laload => (match st with | .inl j :: .inr (.inr (.inl r)) :: t => if zak r.1 = 2 ∧ 0 ≤ j ∧ j < zln s r.1 then some (pc + 1, ls, zL (s r.1 r.2 j) :: t, s) else none | _ => none)
  | .aaload => (match st with | .inl j :: .inr (.inr (.inl r)) :: t => if zak r.1 = 3 ∧ 0 ≤ j ∧ j < zln s r.1 then (bif ph || decide (s r.1 r.2 j = 1) then some (pc + 1, ls, zR (zra r.1) j :: t, s) else none) else none | _ => none)
  | .iastore => (match st with | .inl x :: .inl j :: .inr (.inr (.inl r)) :: t => if (zak r.1 = 0 ∧ r.1 ≤ 107) ∧ 0 ≤ j ∧ j < zln s r.1 then some (pc + 1, ls, t, zup s r.1 r.2 j x) else none | _ => none)
  | .bastore => (match st with | .inl x :: .inl j :: .inr (.inr (.inl r)) :: t => if (zak r.1 = 1 ∧ (x = 0 ∨ x = 1)) ∧ 0 ≤ j ∧ j < zln s r.1 then some (pc + 1, ls, t, zup s r.1 r.2 j x) else none | _ => none)
  | .lastore => (match st with | .inr (.inl x) :: .inl j :: .inr (.inr (.inl r)) :: t => if zak r.1 = 2 ∧ 0 ≤ j ∧ j < zln s r.1 then some (pc + 1, ls, t, zup s r.1 r.2 j x) else none | _ => none)
  | .aastore => (match st with | .inr (.inr (.inl q)) :: .inl j :: .inr (.inr (.inl r)) :: t => if (ph = false ∧ zak r.1 = 3 ∧ q = (zra r.1, j)) ∧ 0 ≤ j ∧ j < zln s r.1 ∧ tg (zra r.1) < 12 then some (pc + 1, ls, t, zup s r.1 r.2 j 1) else none | _ => none)
  | .new _ => (match zalloc ph s a.toNat (lg a.toNat) with | some (g, i, s') => bif Nat.ble g 12 then some (pc + 3, ls, zR g i :: st, s') else none | none => none)
  | .newarray t => (match st with | .inl n :: r => (match zalloc ph s (match t with | .int => 20 | .boolean => 21 | .long => 22 | _ => 98) n with | some (g, i, s') => some (pc + 2, ls, zR g i :: r, s') | none => none) | _ => none)
  | .anewarray _ => (match st with | .inl n :: r => (match zalloc ph s (30 + a.toNat) n with | some (g, i, s') => some (pc + 3, ls, zR g i :: r, s') | none => none) | _ => none)
  | .multianewarray ix d => (match st with | .inl k :: .inl n :: r => if ph = false ∧ k = 1024 ∧ n = 5 ∧ zcnt s = 31 ∧ m = 26 ∧ ix = 11 ∧ d = 2 then some (pc + 4, ls, zR 43 0 :: r, zmu s) else none | _ => none)
  | .invokespecial _ => (match st with | .inr (.inr (.inl _)) :: t => bif decide (a = 900) && Nat.ble (zwsum t) 8 then some (pc + 3, ls, t, s) else none | _ => none)
  | .invokestatic _ =>
    bif decide (a = 902) then (match st with | .inl y :: .inl x :: t => bif Nat.ble (zwsum t) 8 then some (pc + 3, ls, zI (if x < y then y else x) :: t, s) else none | _ => none)
    else bif decide (a = 903) then (match st with | .inl y :: .inl x :: t => bif Nat.ble (zwsum t) 8 then some (pc + 3, ls, zI (if y < x then y else x) :: t, s) else none | _ => none)
    else bif decide (a = 904) then (match st with | .inr (.inl y) :: .inr (.inl x) :: t => bif Nat.ble (zwsum t) 8 then some (pc + 3, ls, zL (if y < x then y else x) :: t, s) else none | _ => none)
    else bif decide (a = 901) then (match st with
      | .inl n :: .inl dp :: .inr (.inr (.inl q)) :: .inl sp :: .inr (.inr (.inl r)) :: t => bif Nat.ble (zwsum t) 8 then (if (zak r.1 = 0 ∧ zak q.1 = 0 ∧ r.1 ≤ 107 ∧ q.1 ≤ 107) ∧ 0 ≤ sp ∧ 0 ≤ dp ∧ 0 ≤ n ∧ sp + n ≤ zln s r.1 ∧ dp + n ≤ zln s q.1 then some (pc + 3, ls, t, zcpy s r.1 r.2 sp q.1 q.2 dp n) else none) else none
      | _ => none)
    else none
  | _ => none
/-- a method's run, callees and all, within n -/
def zbs (ph : Bool) : Nat → Nat → Nat → List zV → List zV → zS → Option (Option zV × zS)
  | 0, _, _, _, _, _ => none
  | n + 1, m, pc, ls, st, s => match zi m pc with
    | none => none
    | some (i, _, a, b) => match zret m i st with
      | some v => some (v, s)
      | none => match zcal i a st with
        | some (mm, args, rest) => (match zbs ph n mm 0 (zpad (znl mm) args) [] s with
          | some (v, s') => zbs ph n m (pc + 3) ls (v.toList ++ rest) s'
          | none => none)
        | none => match zact ph m pc ls st s i a b with
          | some (pc', ls', st', s') => zbs ph n m pc' ls' st' s'
          | none => none
abbrev zFr : Type := Nat × Nat × List zV × List zV
def zrn (ph : Bool) (Q : List zV → zS → Prop) : Nat → List zFr → zS → Prop
  | 0, _, _ => False
  | _ + 1, [], _ => False
  | n + 1, (m, pc, ls, st) :: fs, s => match zi m pc with
    | none => m = 999 ∧ Q st s
    | some (i, _, a, b) => match zret m i st with
      | some v => (match fs with
        | [] => False
        | (m', pc', ls', st') :: fs' => zrn ph Q n ((m', pc', ls', v.toList ++ st') :: fs') s)
      | none => match zcal i a st with
        | some (mm, args, rest) => zrn ph Q n ((mm, 0, zpad (znl mm) args, []) :: (m, pc + 3, ls, rest) :: fs) s
        | none => match zact ph m pc ls st s i a b with
          | some (pc', ls', st', s') => zrn ph Q n ((m, pc', ls', st') :: fs) s'
          | none => False
def zEv (ph : Bool) (fs : List zFr) (s : zS) (Q : List zV → zS → Prop) : Prop := ∃ n, zrn ph Q n fs s
theorem zbif0 {α : Type} {c : Bool} {x : Option α} {y : α} (h : (bif c then x else none) = some y) : c = true ∧ x = some y := by
  cases c with
  | false => cases h
  | true => exact ⟨rfl, h⟩
theorem zrn_mono {ph : Bool} {Q : List zV → zS → Prop} : ∀ {n : Nat} {fs : List zFr} {s : zS}, zrn ph Q n fs s → zrn ph Q (n + 1) fs s
  | 0, _, _, h => h.elim
  | _ + 1, [], _, h => h.elim
  | n + 1, (m, pc, ls, st) :: fs, s, h => by
    unfold zrn at h ⊢
    split at h
    · exact h
    · split at h
      · split at h
        · exact h
        · exact zrn_mono h
      · split at h
        · exact zrn_mono h
        · split at h
          · exact zrn_mono h
          · exact h
theorem zbs_mono {ph : Bool} : ∀ {n m pc : Nat} {ls st : List zV} {s : zS} {r : Option zV × zS}, zbs ph n m pc ls st s = some r → zbs ph (n + 1) m pc ls st s = some r
  | 0, _, _, _, _, _, _, h => by cases h
  | n + 1, m, pc, ls, st, s, r, h => by
    unfold zbs at h ⊢
    split at h
    · exact h
    · split at h
      · exact h
      · split at h
        · split at h
          · rename_i hc
            rw [zbs_mono hc]
            exact zbs_mono h
          · cases h
        · split at h
          · exact zbs_mono h
          · exact h
theorem zbs_le {ph : Bool} {m pc : Nat} {ls st : List zV} {s : zS} {r : Option zV × zS} {n k : Nat} (hk : n ≤ k) (h : zbs ph n m pc ls st s = some r) : zbs ph k m pc ls st s = some r := by
  induction hk with
  | refl => exact h
  | step _ ih => exact zbs_mono ih
/-- a run with frames below is a run of the top one, and then of the rest -/
theorem zrn_bs {ph : Bool} {Q : List zV → zS → Prop} : ∀ (N n : Nat), n ≤ N → ∀ (m pc : Nat) (ls st : List zV) (f : zFr) (fs : List zFr) (s : zS), zrn ph Q n ((m, pc, ls, st) :: f :: fs) s → m ≠ 999 →
    ∃ (k j : Nat) (v : Option zV) (s' : zS), j < n ∧ zbs ph k m pc ls st s = some (v, s') ∧ zrn ph Q j ((f.1, f.2.1, f.2.2.1, v.toList ++ f.2.2.2) :: fs) s' := by
  intro N
  induction N with
  | zero => intro n hn m pc ls st f fs s h _; cases Nat.le_zero.mp hn; exact h.elim
  | succ N ih =>
    intro n hn m pc ls st f fs s h hm
    cases n with
    | zero => exact h.elim
    | succ n =>
      unfold zrn at h
      split at h
      · exact absurd h.1 hm
      · rename_i i _ a b hz
        split at h
        · rename_i v hv
          exact ⟨1, n, v, s, Nat.lt_succ_self _, by unfold zbs; rw [hz]; dsimp only; rw [hv], h⟩
        · rename_i hv
          split at h
          · rename_i mm args rest hc
            have hmm : mm ≠ 999 := by
              intro e
              subst e
              cases n with
              | zero => exact h.elim
              | succ n =>
                unfold zcal at hc
                have key : ∀ (b : Bool) (x : List zV × List zV), zca b a st = some (999, x) → False := by
                  intro b x hx
                  unfold zca at hx
                  obtain ⟨h1, hx⟩ := zbif0 hx
                  have h1 := decide_eq_true_eq.mp h1
                  have hne : a.toNat ≠ 999 := by omega
                  obtain ⟨h2, hx⟩ := zbif0 hx
                  cases b with
                  | false => exact hne (congrArg Prod.fst (Option.some.inj hx))
                  | true =>
                    dsimp only [cond_true] at hx
                    split at hx
                    · obtain ⟨h3, hx⟩ := zbif0 hx
                      exact hne (congrArg Prod.fst (Option.some.inj hx))
                    · cases hx
                split at hc
                · exact key _ _ hc
                · exact key _ _ hc
                · split at hc
                  · rename_i heq
                    cases hc
                    exact key _ _ heq
                  · cases hc
                · cases hc
            obtain ⟨k1, j1, v1, s1, h1, h2, h3⟩ := ih n (by omega) _ _ _ _ _ _ _ h hmm
            obtain ⟨k2, j2, v2, s2, g1, g2, g3⟩ := ih j1 (by omega) _ _ _ _ _ _ _ h3 hm
            refine ⟨max k1 k2 + 1, j2, v2, s2, by omega, ?_, g3⟩
            unfold zbs
            rw [hz]
            dsimp only
            rw [hv]
            dsimp only
            rw [hc]
            dsimp only
            rw [zbs_le (Nat.le_max_left k1 k2) h2]
            dsimp only
            exact zbs_le (Nat.le_max_right k1 k2) g2
          · rename_i hc
            split at h
            · rename_i pc' ls' st' s' ha
              obtain ⟨k1, j1, v1, s1, h1, h2, h3⟩ := ih n (by omega) _ _ _ _ _ _ _ h hm
              refine ⟨k1 + 1, j1, v1, s1, by omega, ?_, h3⟩
              unfold zbs
              rw [hz]
              dsimp only
              rw [hv]
              dsimp only
              rw [hc]
              dsimp only
              rw [ha]
              exact h2
            · exact h.elim
theorem zEv_bs {ph : Bool} {Q : List zV → zS → Prop} {m pc : Nat} {ls st : List zV} {s : zS} (h : zEv ph [(m, pc, ls, st), (999, 0, [], [])] s Q) (hm : m ≠ 999) : ∃ (k : Nat) (v : Option zV) (s' : zS), zbs ph k m pc ls st s = some (v, s') ∧ Q v.toList s' := by
  obtain ⟨n, h⟩ := h
  obtain ⟨k, j, v, s', _, h2, h3⟩ := zrn_bs n n (Nat.le_refl _) _ _ _ _ _ _ _ h hm
  refine ⟨k, v, s', h2, ?_⟩
  cases j with
  | zero => exact h3.elim
  | succ j =>
    have h4 : (999 : Nat) = 999 ∧ Q (v.toList ++ []) s' := h3
    rw [List.append_nil] at h4
    exact h4.2

theorem zbl {a b : Nat} (h : a ≤ b) : Nat.ble a b = true := Nat.ble_eq_true_of_le h
theorem zbq {a b : Nat} (h : a ≠ b) : Nat.beq a b = false := by
  cases e : Nat.beq a b with
  | false => rfl
  | true => exact absurd (Nat.eq_of_beq_eq_true e) h
theorem zbln {a b : Nat} (h : b < a) : Nat.ble a b = false := by
  cases e : Nat.ble a b with
  | false => rfl
  | true => exact absurd (Nat.le_of_ble_eq_true e) (by omega)
theorem zo_0 (pc : Nat) (h : 53 ≤ pc) : zk0 pc = none := by
  unfold zk0
  rw [zbl (show 27 ≤ pc by omega), cond_true, zbl (show 40 ≤ pc by omega), cond_true, zbl (show 46 ≤ pc by omega), cond_true, zbl (show 49 ≤ pc by omega), cond_true, zbl (show 51 ≤ pc by omega), cond_true, zbl (show 52 ≤ pc by omega), cond_true, zbq (show pc ≠ 52 by omega)]
  rfl
theorem zo_1 (pc : Nat) (h : 23 ≤ pc) : zk1 pc = none := by
  unfold zk1
  rw [zbl (show 9 ≤ pc by omega), cond_true, zbl (show 15 ≤ pc by omega), cond_true, zbl (show 19 ≤ pc by omega), cond_true, zbl (show 22 ≤ pc by omega), cond_true, zbq (show pc ≠ 22 by omega)]
  rfl
theorem zo_2 (pc : Nat) (h : 21 ≤ pc) : zk2 pc = none := by
  unfold zk2
  rw [zbl (show 7 ≤ pc by omega), cond_true, zbl (show 13 ≤ pc by omega), cond_true, zbl (show 17 ≤ pc by omega), cond_true, zbl (show 20 ≤ pc by omega), cond_true, zbq (show pc ≠ 20 by omega)]
  rfl
theorem zo_3 (pc : Nat) (h : 5 ≤ pc) : zk3 pc = none := by
  unfold zk3
  rw [zbl (show 1 ≤ pc by omega), cond_true, zbl (show 4 ≤ pc by omega), cond_true, zbq (show pc ≠ 4 by omega)]
  rfl
theorem zo_4 (pc : Nat) (h : 22 ≤ pc) : zk4 pc = none := by
  unfold zk4
  rw [zbl (show 10 ≤ pc by omega), cond_true, zbl (show 17 ≤ pc by omega), cond_true, zbl (show 20 ≤ pc by omega), cond_true, zbl (show 21 ≤ pc by omega), cond_true, zbq (show pc ≠ 21 by omega)]
  rfl
theorem zo_5 (pc : Nat) (h : 59 ≤ pc) : zk5 pc = none := by
  unfold zk5
  rw [zbl (show 28 ≤ pc by omega), cond_true, zbl (show 43 ≤ pc by omega), cond_true, zbl (show 51 ≤ pc by omega), cond_true, zbl (show 55 ≤ pc by omega), cond_true, zbl (show 58 ≤ pc by omega), cond_true, zbq (show pc ≠ 58 by omega)]
  rfl
theorem zo_6 (pc : Nat) (h : 62 ≤ pc) : zk6 pc = none := by
  unfold zk6
  rw [zbl (show 30 ≤ pc by omega), cond_true, zbl (show 46 ≤ pc by omega), cond_true, zbl (show 54 ≤ pc by omega), cond_true, zbl (show 56 ≤ pc by omega), cond_true, zbl (show 59 ≤ pc by omega), cond_true, zbl (show 61 ≤ pc by omega), cond_true, zbq (show pc ≠ 61 by omega)]
  rfl
theorem zo_7 (pc : Nat) (h : 88 ≤ pc) : zk7 pc = none := by
  unfold zk7
  rw [zbl (show 44 ≤ pc by omega), cond_true, zbl (show 67 ≤ pc by omega), cond_true, zbl (show 78 ≤ pc by omega), cond_true, zbl (show 83 ≤ pc by omega), cond_true, zbl (show 84 ≤ pc by omega), cond_true, zbl (show 87 ≤ pc by omega), cond_true, zbq (show pc ≠ 87 by omega)]
  rfl
theorem zo_8 (pc : Nat) (h : 35 ≤ pc) : zk8 pc = none := by
  unfold zk8
  rw [zbl (show 16 ≤ pc by omega), cond_true, zbl (show 26 ≤ pc by omega), cond_true, zbl (show 30 ≤ pc by omega), cond_true, zbl (show 33 ≤ pc by omega), cond_true, zbl (show 34 ≤ pc by omega), cond_true, zbq (show pc ≠ 34 by omega)]
  rfl
theorem zo_9 (pc : Nat) (h : 161 ≤ pc) : zk9 pc = none := by
  unfold zk9
  rw [zbl (show 79 ≤ pc by omega), cond_true, zbl (show 120 ≤ pc by omega), cond_true, zbl (show 141 ≤ pc by omega), cond_true, zbl (show 151 ≤ pc by omega), cond_true, zbl (show 158 ≤ pc by omega), cond_true, zbl (show 159 ≤ pc by omega), cond_true, zbl (show 160 ≤ pc by omega), cond_true, zbq (show pc ≠ 160 by omega)]
  rfl
theorem zo_10 (pc : Nat) (h : 12 ≤ pc) : zk10 pc = none := by
  unfold zk10
  rw [zbl (show 6 ≤ pc by omega), cond_true, zbl (show 10 ≤ pc by omega), cond_true, zbl (show 11 ≤ pc by omega), cond_true, zbq (show pc ≠ 11 by omega)]
  rfl
theorem zo_11 (pc : Nat) (h : 11 ≤ pc) : zk11 pc = none := by
  unfold zk11
  rw [zbl (show 7 ≤ pc by omega), cond_true, zbl (show 9 ≤ pc by omega), cond_true, zbl (show 10 ≤ pc by omega), cond_true, zbq (show pc ≠ 10 by omega)]
  rfl
theorem zo_12 (pc : Nat) (h : 44 ≤ pc) : zk12 pc = none := by
  unfold zk12
  rw [zbl (show 20 ≤ pc by omega), cond_true, zbl (show 30 ≤ pc by omega), cond_true, zbl (show 37 ≤ pc by omega), cond_true, zbl (show 40 ≤ pc by omega), cond_true, zbl (show 43 ≤ pc by omega), cond_true, zbq (show pc ≠ 43 by omega)]
  rfl
theorem zo_13 (pc : Nat) (h : 35 ≤ pc) : zk13 pc = none := by
  unfold zk13
  rw [zbl (show 13 ≤ pc by omega), cond_true, zbl (show 24 ≤ pc by omega), cond_true, zbl (show 30 ≤ pc by omega), cond_true, zbl (show 33 ≤ pc by omega), cond_true, zbl (show 34 ≤ pc by omega), cond_true, zbq (show pc ≠ 34 by omega)]
  rfl
theorem zo_14 (pc : Nat) (h : 5 ≤ pc) : zk14 pc = none := by
  unfold zk14
  rw [zbl (show 1 ≤ pc by omega), cond_true, zbl (show 4 ≤ pc by omega), cond_true, zbq (show pc ≠ 4 by omega)]
  rfl
theorem zo_15 (pc : Nat) (h : 51 ≤ pc) : zk15 pc = none := by
  unfold zk15
  rw [zbl (show 25 ≤ pc by omega), cond_true, zbl (show 37 ≤ pc by omega), cond_true, zbl (show 45 ≤ pc by omega), cond_true, zbl (show 47 ≤ pc by omega), cond_true, zbl (show 50 ≤ pc by omega), cond_true, zbq (show pc ≠ 50 by omega)]
  rfl
theorem zo_16 (pc : Nat) (h : 131 ≤ pc) : zk16 pc = none := by
  unfold zk16
  rw [zbl (show 68 ≤ pc by omega), cond_true, zbl (show 98 ≤ pc by omega), cond_true, zbl (show 114 ≤ pc by omega), cond_true, zbl (show 122 ≤ pc by omega), cond_true, zbl (show 126 ≤ pc by omega), cond_true, zbl (show 127 ≤ pc by omega), cond_true, zbl (show 130 ≤ pc by omega), cond_true, zbq (show pc ≠ 130 by omega)]
  rfl
theorem zo_17 (pc : Nat) (h : 17 ≤ pc) : zk17 pc = none := by
  unfold zk17
  rw [zbl (show 8 ≤ pc by omega), cond_true, zbl (show 12 ≤ pc by omega), cond_true, zbl (show 15 ≤ pc by omega), cond_true, zbl (show 16 ≤ pc by omega), cond_true, zbq (show pc ≠ 16 by omega)]
  rfl
theorem zo_18 (pc : Nat) (h : 85 ≤ pc) : zk18 pc = none := by
  unfold zk18
  rw [zbl (show 42 ≤ pc by omega), cond_true, zbl (show 62 ≤ pc by omega), cond_true, zbl (show 73 ≤ pc by omega), cond_true, zbl (show 78 ≤ pc by omega), cond_true, zbl (show 81 ≤ pc by omega), cond_true, zbl (show 84 ≤ pc by omega), cond_true, zbq (show pc ≠ 84 by omega)]
  rfl
theorem zo_19 (pc : Nat) (h : 45 ≤ pc) : zk19 pc = none := by
  unfold zk19
  rw [zbl (show 23 ≤ pc by omega), cond_true, zbl (show 34 ≤ pc by omega), cond_true, zbl (show 39 ≤ pc by omega), cond_true, zbl (show 43 ≤ pc by omega), cond_true, zbl (show 44 ≤ pc by omega), cond_true, zbq (show pc ≠ 44 by omega)]
  rfl
theorem zo_20 (pc : Nat) (h : 61 ≤ pc) : zk20 pc = none := by
  unfold zk20
  rw [zbl (show 32 ≤ pc by omega), cond_true, zbl (show 45 ≤ pc by omega), cond_true, zbl (show 53 ≤ pc by omega), cond_true, zbl (show 55 ≤ pc by omega), cond_true, zbl (show 58 ≤ pc by omega), cond_true, zbl (show 60 ≤ pc by omega), cond_true, zbq (show pc ≠ 60 by omega)]
  rfl
theorem zo_21 (pc : Nat) (h : 91 ≤ pc) : zk21 pc = none := by
  unfold zk21
  rw [zbl (show 38 ≤ pc by omega), cond_true, zbl (show 64 ≤ pc by omega), cond_true, zbl (show 78 ≤ pc by omega), cond_true, zbl (show 82 ≤ pc by omega), cond_true, zbl (show 88 ≤ pc by omega), cond_true, zbl (show 90 ≤ pc by omega), cond_true, zbq (show pc ≠ 90 by omega)]
  rfl
theorem zo_22 (pc : Nat) (h : 28 ≤ pc) : zk22 pc = none := by
  unfold zk22
  rw [zbl (show 15 ≤ pc by omega), cond_true, zbl (show 20 ≤ pc by omega), cond_true, zbl (show 25 ≤ pc by omega), cond_true, zbl (show 26 ≤ pc by omega), cond_true, zbl (show 27 ≤ pc by omega), cond_true, zbq (show pc ≠ 27 by omega)]
  rfl
theorem zo_23 (pc : Nat) (h : 107 ≤ pc) : zk23 pc = none := by
  unfold zk23
  rw [zbl (show 52 ≤ pc by omega), cond_true, zbl (show 78 ≤ pc by omega), cond_true, zbl (show 92 ≤ pc by omega), cond_true, zbl (show 99 ≤ pc by omega), cond_true, zbl (show 103 ≤ pc by omega), cond_true, zbl (show 106 ≤ pc by omega), cond_true, zbq (show pc ≠ 106 by omega)]
  rfl
theorem zo_24 (pc : Nat) (h : 56 ≤ pc) : zk24 pc = none := by
  unfold zk24
  rw [zbl (show 31 ≤ pc by omega), cond_true, zbl (show 47 ≤ pc by omega), cond_true, zbl (show 52 ≤ pc by omega), cond_true, zbl (show 54 ≤ pc by omega), cond_true, zbl (show 55 ≤ pc by omega), cond_true, zbq (show pc ≠ 55 by omega)]
  rfl
theorem zo_25 (pc : Nat) (h : 54 ≤ pc) : zk25 pc = none := by
  unfold zk25
  rw [zbl (show 24 ≤ pc by omega), cond_true, zbl (show 38 ≤ pc by omega), cond_true, zbl (show 46 ≤ pc by omega), cond_true, zbl (show 52 ≤ pc by omega), cond_true, zbl (show 53 ≤ pc by omega), cond_true, zbq (show pc ≠ 53 by omega)]
  rfl
theorem zo_26 (pc : Nat) (h : 47 ≤ pc) : zk26 pc = none := by
  unfold zk26
  rw [zbl (show 24 ≤ pc by omega), cond_true, zbl (show 36 ≤ pc by omega), cond_true, zbl (show 41 ≤ pc by omega), cond_true, zbl (show 43 ≤ pc by omega), cond_true, zbl (show 46 ≤ pc by omega), cond_true, zbq (show pc ≠ 46 by omega)]
  rfl
theorem zo_27 (pc : Nat) (h : 117 ≤ pc) : zk27 pc = none := by
  unfold zk27
  rw [zbl (show 56 ≤ pc by omega), cond_true, zbl (show 86 ≤ pc by omega), cond_true, zbl (show 102 ≤ pc by omega), cond_true, zbl (show 111 ≤ pc by omega), cond_true, zbl (show 115 ≤ pc by omega), cond_true, zbl (show 116 ≤ pc by omega), cond_true, zbq (show pc ≠ 116 by omega)]
  rfl
theorem zo_28 (pc : Nat) (h : 251 ≤ pc) : zk28 pc = none := by
  unfold zk28
  rw [zbl (show 130 ≤ pc by omega), cond_true, zbl (show 191 ≤ pc by omega), cond_true, zbl (show 219 ≤ pc by omega), cond_true, zbl (show 235 ≤ pc by omega), cond_true, zbl (show 240 ≤ pc by omega), cond_true, zbl (show 244 ≤ pc by omega), cond_true, zbl (show 247 ≤ pc by omega), cond_true, zbl (show 250 ≤ pc by omega), cond_true, zbq (show pc ≠ 250 by omega)]
  rfl
theorem zo_29 (pc : Nat) (h : 16 ≤ pc) : zk29 pc = none := by
  unfold zk29
  rw [zbl (show 9 ≤ pc by omega), cond_true, zbl (show 11 ≤ pc by omega), cond_true, zbl (show 14 ≤ pc by omega), cond_true, zbl (show 15 ≤ pc by omega), cond_true, zbq (show pc ≠ 15 by omega)]
  rfl
theorem zo_30 (pc : Nat) (h : 7 ≤ pc) : zk30 pc = none := by
  unfold zk30
  rw [zbl (show 4 ≤ pc by omega), cond_true, zbl (show 5 ≤ pc by omega), cond_true, zbl (show 6 ≤ pc by omega), cond_true, zbq (show pc ≠ 6 by omega)]
  rfl
theorem zo_31 (pc : Nat) (h : 137 ≤ pc) : zk31 pc = none := by
  unfold zk31
  rw [zbl (show 66 ≤ pc by omega), cond_true, zbl (show 100 ≤ pc by omega), cond_true, zbl (show 118 ≤ pc by omega), cond_true, zbl (show 125 ≤ pc by omega), cond_true, zbl (show 130 ≤ pc by omega), cond_true, zbl (show 133 ≤ pc by omega), cond_true, zbl (show 136 ≤ pc by omega), cond_true, zbq (show pc ≠ 136 by omega)]
  rfl
theorem zo_32 (pc : Nat) (h : 63 ≤ pc) : zk32 pc = none := by
  unfold zk32
  rw [zbl (show 32 ≤ pc by omega), cond_true, zbl (show 48 ≤ pc by omega), cond_true, zbl (show 55 ≤ pc by omega), cond_true, zbl (show 57 ≤ pc by omega), cond_true, zbl (show 59 ≤ pc by omega), cond_true, zbl (show 62 ≤ pc by omega), cond_true, zbq (show pc ≠ 62 by omega)]
  rfl
theorem zo_33 (pc : Nat) (h : 17 ≤ pc) : zk33 pc = none := by
  unfold zk33
  rw [zbl (show 9 ≤ pc by omega), cond_true, zbl (show 14 ≤ pc by omega), cond_true, zbl (show 15 ≤ pc by omega), cond_true, zbl (show 16 ≤ pc by omega), cond_true, zbq (show pc ≠ 16 by omega)]
  rfl
theorem zo_34 (pc : Nat) (h : 28 ≤ pc) : zk34 pc = none := by
  unfold zk34
  rw [zbl (show 16 ≤ pc by omega), cond_true, zbl (show 22 ≤ pc by omega), cond_true, zbl (show 26 ≤ pc by omega), cond_true, zbl (show 27 ≤ pc by omega), cond_true, zbq (show pc ≠ 27 by omega)]
  rfl
theorem zo_35 (pc : Nat) (h : 28 ≤ pc) : zk35 pc = none := by
  unfold zk35
  rw [zbl (show 15 ≤ pc by omega), cond_true, zbl (show 22 ≤ pc by omega), cond_true, zbl (show 24 ≤ pc by omega), cond_true, zbl (show 27 ≤ pc by omega), cond_true, zbq (show pc ≠ 27 by omega)]
  rfl
theorem zo_36 (pc : Nat) (h : 39 ≤ pc) : zk36 pc = none := by
  unfold zk36
  rw [zbl (show 22 ≤ pc by omega), cond_true, zbl (show 29 ≤ pc by omega), cond_true, zbl (show 34 ≤ pc by omega), cond_true, zbl (show 37 ≤ pc by omega), cond_true, zbl (show 38 ≤ pc by omega), cond_true, zbq (show pc ≠ 38 by omega)]
  rfl
theorem zo_37 (pc : Nat) (h : 45 ≤ pc) : zk37 pc = none := by
  unfold zk37
  rw [zbl (show 24 ≤ pc by omega), cond_true, zbl (show 33 ≤ pc by omega), cond_true, zbl (show 38 ≤ pc by omega), cond_true, zbl (show 43 ≤ pc by omega), cond_true, zbl (show 44 ≤ pc by omega), cond_true, zbq (show pc ≠ 44 by omega)]
  rfl
theorem zo_38 (pc : Nat) (h : 30 ≤ pc) : zk38 pc = none := by
  unfold zk38
  rw [zbl (show 15 ≤ pc by omega), cond_true, zbl (show 21 ≤ pc by omega), cond_true, zbl (show 25 ≤ pc by omega), cond_true, zbl (show 28 ≤ pc by omega), cond_true, zbl (show 29 ≤ pc by omega), cond_true, zbq (show pc ≠ 29 by omega)]
  rfl
theorem zo_39 (pc : Nat) (h : 35 ≤ pc) : zk39 pc = none := by
  unfold zk39
  rw [zbl (show 18 ≤ pc by omega), cond_true, zbl (show 25 ≤ pc by omega), cond_true, zbl (show 30 ≤ pc by omega), cond_true, zbl (show 31 ≤ pc by omega), cond_true, zbl (show 34 ≤ pc by omega), cond_true, zbq (show pc ≠ 34 by omega)]
  rfl
theorem zo_40 (pc : Nat) (h : 13 ≤ pc) : zk40 pc = none := by
  unfold zk40
  rw [zbl (show 7 ≤ pc by omega), cond_true, zbl (show 11 ≤ pc by omega), cond_true, zbl (show 12 ≤ pc by omega), cond_true, zbq (show pc ≠ 12 by omega)]
  rfl
theorem zo_41 (pc : Nat) (h : 108 ≤ pc) : zk41 pc = none := by
  unfold zk41
  rw [zbl (show 55 ≤ pc by omega), cond_true, zbl (show 82 ≤ pc by omega), cond_true, zbl (show 93 ≤ pc by omega), cond_true, zbl (show 100 ≤ pc by omega), cond_true, zbl (show 104 ≤ pc by omega), cond_true, zbl (show 107 ≤ pc by omega), cond_true, zbq (show pc ≠ 107 by omega)]
  rfl
theorem zo_42 (pc : Nat) (h : 9 ≤ pc) : zk42 pc = none := by
  unfold zk42
  rw [zbl (show 2 ≤ pc by omega), cond_true, zbl (show 5 ≤ pc by omega), cond_true, zbl (show 8 ≤ pc by omega), cond_true, zbq (show pc ≠ 8 by omega)]
  rfl
theorem zo_43 (pc : Nat) (h : 9 ≤ pc) : zk43 pc = none := by
  unfold zk43
  rw [zbl (show 2 ≤ pc by omega), cond_true, zbl (show 5 ≤ pc by omega), cond_true, zbl (show 8 ≤ pc by omega), cond_true, zbq (show pc ≠ 8 by omega)]
  rfl
theorem zo_44 (pc : Nat) (h : 20 ≤ pc) : zk44 pc = none := by
  unfold zk44
  rw [zbl (show 10 ≤ pc by omega), cond_true, zbl (show 15 ≤ pc by omega), cond_true, zbl (show 18 ≤ pc by omega), cond_true, zbl (show 19 ≤ pc by omega), cond_true, zbq (show pc ≠ 19 by omega)]
  rfl
theorem zo_45 (pc : Nat) (h : 99 ≤ pc) : zk45 pc = none := by
  unfold zk45
  rw [zbl (show 48 ≤ pc by omega), cond_true, zbl (show 72 ≤ pc by omega), cond_true, zbl (show 87 ≤ pc by omega), cond_true, zbl (show 92 ≤ pc by omega), cond_true, zbl (show 96 ≤ pc by omega), cond_true, zbl (show 98 ≤ pc by omega), cond_true, zbq (show pc ≠ 98 by omega)]
  rfl
theorem zo_46 (pc : Nat) (h : 70 ≤ pc) : zk46 pc = none := by
  unfold zk46
  rw [zbl (show 32 ≤ pc by omega), cond_true, zbl (show 52 ≤ pc by omega), cond_true, zbl (show 63 ≤ pc by omega), cond_true, zbl (show 65 ≤ pc by omega), cond_true, zbl (show 68 ≤ pc by omega), cond_true, zbl (show 69 ≤ pc by omega), cond_true, zbq (show pc ≠ 69 by omega)]
  rfl
theorem zo_47 (pc : Nat) (h : 39 ≤ pc) : zk47 pc = none := by
  unfold zk47
  rw [zbl (show 22 ≤ pc by omega), cond_true, zbl (show 31 ≤ pc by omega), cond_true, zbl (show 34 ≤ pc by omega), cond_true, zbl (show 35 ≤ pc by omega), cond_true, zbl (show 38 ≤ pc by omega), cond_true, zbq (show pc ≠ 38 by omega)]
  rfl
theorem zo_48 (pc : Nat) (h : 36 ≤ pc) : zk48 pc = none := by
  unfold zk48
  rw [zbl (show 16 ≤ pc by omega), cond_true, zbl (show 27 ≤ pc by omega), cond_true, zbl (show 31 ≤ pc by omega), cond_true, zbl (show 34 ≤ pc by omega), cond_true, zbl (show 35 ≤ pc by omega), cond_true, zbq (show pc ≠ 35 by omega)]
  rfl
theorem zo_49 (pc : Nat) (h : 53 ≤ pc) : zk49 pc = none := by
  unfold zk49
  rw [zbl (show 24 ≤ pc by omega), cond_true, zbl (show 40 ≤ pc by omega), cond_true, zbl (show 46 ≤ pc by omega), cond_true, zbl (show 48 ≤ pc by omega), cond_true, zbl (show 49 ≤ pc by omega), cond_true, zbl (show 52 ≤ pc by omega), cond_true, zbq (show pc ≠ 52 by omega)]
  rfl
theorem zo_50 (pc : Nat) (h : 36 ≤ pc) : zk50 pc = none := by
  unfold zk50
  rw [zbl (show 16 ≤ pc by omega), cond_true, zbl (show 27 ≤ pc by omega), cond_true, zbl (show 31 ≤ pc by omega), cond_true, zbl (show 34 ≤ pc by omega), cond_true, zbl (show 35 ≤ pc by omega), cond_true, zbq (show pc ≠ 35 by omega)]
  rfl
theorem zo_51 (pc : Nat) (h : 50 ≤ pc) : zk51 pc = none := by
  unfold zk51
  rw [zbl (show 23 ≤ pc by omega), cond_true, zbl (show 35 ≤ pc by omega), cond_true, zbl (show 42 ≤ pc by omega), cond_true, zbl (show 46 ≤ pc by omega), cond_true, zbl (show 49 ≤ pc by omega), cond_true, zbq (show pc ≠ 49 by omega)]
  rfl
theorem zo_52 (pc : Nat) (h : 118 ≤ pc) : zk52 pc = none := by
  unfold zk52
  rw [zbl (show 61 ≤ pc by omega), cond_true, zbl (show 89 ≤ pc by omega), cond_true, zbl (show 102 ≤ pc by omega), cond_true, zbl (show 108 ≤ pc by omega), cond_true, zbl (show 112 ≤ pc by omega), cond_true, zbl (show 115 ≤ pc by omega), cond_true, zbl (show 117 ≤ pc by omega), cond_true, zbq (show pc ≠ 117 by omega)]
  rfl
theorem zo_53 (pc : Nat) (h : 30 ≤ pc) : zk53 pc = none := by
  unfold zk53
  rw [zbl (show 15 ≤ pc by omega), cond_true, zbl (show 23 ≤ pc by omega), cond_true, zbl (show 27 ≤ pc by omega), cond_true, zbl (show 28 ≤ pc by omega), cond_true, zbl (show 29 ≤ pc by omega), cond_true, zbq (show pc ≠ 29 by omega)]
  rfl
theorem zo_54 (pc : Nat) (h : 12 ≤ pc) : zk54 pc = none := by
  unfold zk54
  rw [zbl (show 6 ≤ pc by omega), cond_true, zbl (show 8 ≤ pc by omega), cond_true, zbl (show 11 ≤ pc by omega), cond_true, zbq (show pc ≠ 11 by omega)]
  rfl
theorem zo_55 (pc : Nat) (h : 42 ≤ pc) : zk55 pc = none := by
  unfold zk55
  rw [zbl (show 20 ≤ pc by omega), cond_true, zbl (show 29 ≤ pc by omega), cond_true, zbl (show 34 ≤ pc by omega), cond_true, zbl (show 40 ≤ pc by omega), cond_true, zbl (show 41 ≤ pc by omega), cond_true, zbq (show pc ≠ 41 by omega)]
  rfl
theorem zo_56 (pc : Nat) (h : 42 ≤ pc) : zk56 pc = none := by
  unfold zk56
  rw [zbl (show 20 ≤ pc by omega), cond_true, zbl (show 29 ≤ pc by omega), cond_true, zbl (show 34 ≤ pc by omega), cond_true, zbl (show 40 ≤ pc by omega), cond_true, zbl (show 41 ≤ pc by omega), cond_true, zbq (show pc ≠ 41 by omega)]
  rfl
theorem zo_57 (pc : Nat) (h : 35 ≤ pc) : zk57 pc = none := by
  unfold zk57
  rw [zbl (show 16 ≤ pc by omega), cond_true, zbl (show 23 ≤ pc by omega), cond_true, zbl (show 28 ≤ pc by omega), cond_true, zbl (show 31 ≤ pc by omega), cond_true, zbl (show 34 ≤ pc by omega), cond_true, zbq (show pc ≠ 34 by omega)]
  rfl
theorem zo_58 (pc : Nat) (h : 35 ≤ pc) : zk58 pc = none := by
  unfold zk58
  rw [zbl (show 13 ≤ pc by omega), cond_true, zbl (show 24 ≤ pc by omega), cond_true, zbl (show 30 ≤ pc by omega), cond_true, zbl (show 33 ≤ pc by omega), cond_true, zbl (show 34 ≤ pc by omega), cond_true, zbq (show pc ≠ 34 by omega)]
  rfl
theorem zo_59 (pc : Nat) (h : 51 ≤ pc) : zk59 pc = none := by
  unfold zk59
  rw [zbl (show 25 ≤ pc by omega), cond_true, zbl (show 39 ≤ pc by omega), cond_true, zbl (show 43 ≤ pc by omega), cond_true, zbl (show 49 ≤ pc by omega), cond_true, zbl (show 50 ≤ pc by omega), cond_true, zbq (show pc ≠ 50 by omega)]
  rfl
theorem zo_60 (pc : Nat) (h : 13 ≤ pc) : zk60 pc = none := by
  unfold zk60
  rw [zbl (show 5 ≤ pc by omega), cond_true, zbl (show 9 ≤ pc by omega), cond_true, zbl (show 12 ≤ pc by omega), cond_true, zbq (show pc ≠ 12 by omega)]
  rfl
theorem zo_61 (pc : Nat) (h : 19 ≤ pc) : zk61 pc = none := by
  unfold zk61
  rw [zbl (show 7 ≤ pc by omega), cond_true, zbl (show 14 ≤ pc by omega), cond_true, zbl (show 15 ≤ pc by omega), cond_true, zbl (show 18 ≤ pc by omega), cond_true, zbq (show pc ≠ 18 by omega)]
  rfl
theorem zo_62 (pc : Nat) (h : 13 ≤ pc) : zk62 pc = none := by
  unfold zk62
  rw [zbl (show 7 ≤ pc by omega), cond_true, zbl (show 11 ≤ pc by omega), cond_true, zbl (show 12 ≤ pc by omega), cond_true, zbq (show pc ≠ 12 by omega)]
  rfl
theorem zo_63 (pc : Nat) (h : 28 ≤ pc) : zk63 pc = none := by
  unfold zk63
  rw [zbl (show 13 ≤ pc by omega), cond_true, zbl (show 22 ≤ pc by omega), cond_true, zbl (show 26 ≤ pc by omega), cond_true, zbl (show 27 ≤ pc by omega), cond_true, zbq (show pc ≠ 27 by omega)]
  rfl
theorem zo_64 (pc : Nat) (h : 24 ≤ pc) : zk64 pc = none := by
  unfold zk64
  rw [zbl (show 13 ≤ pc by omega), cond_true, zbl (show 18 ≤ pc by omega), cond_true, zbl (show 22 ≤ pc by omega), cond_true, zbl (show 23 ≤ pc by omega), cond_true, zbq (show pc ≠ 23 by omega)]
  rfl
theorem zo_65 (pc : Nat) (h : 40 ≤ pc) : zk65 pc = none := by
  unfold zk65
  rw [zbl (show 19 ≤ pc by omega), cond_true, zbl (show 30 ≤ pc by omega), cond_true, zbl (show 35 ≤ pc by omega), cond_true, zbl (show 38 ≤ pc by omega), cond_true, zbl (show 39 ≤ pc by omega), cond_true, zbq (show pc ≠ 39 by omega)]
  rfl
theorem zo_66 (pc : Nat) (h : 5 ≤ pc) : zk66 pc = none := by
  unfold zk66
  rw [zbl (show 1 ≤ pc by omega), cond_true, zbl (show 4 ≤ pc by omega), cond_true, zbq (show pc ≠ 4 by omega)]
  rfl
theorem zo_67 (pc : Nat) (h : 39 ≤ pc) : zk67 pc = none := by
  unfold zk67
  rw [zbl (show 22 ≤ pc by omega), cond_true, zbl (show 29 ≤ pc by omega), cond_true, zbl (show 34 ≤ pc by omega), cond_true, zbl (show 37 ≤ pc by omega), cond_true, zbl (show 38 ≤ pc by omega), cond_true, zbq (show pc ≠ 38 by omega)]
  rfl
theorem zo_68 (pc : Nat) (h : 44 ≤ pc) : zk68 pc = none := by
  unfold zk68
  rw [zbl (show 22 ≤ pc by omega), cond_true, zbl (show 32 ≤ pc by omega), cond_true, zbl (show 39 ≤ pc by omega), cond_true, zbl (show 42 ≤ pc by omega), cond_true, zbl (show 43 ≤ pc by omega), cond_true, zbq (show pc ≠ 43 by omega)]
  rfl
theorem zo_69 (pc : Nat) (h : 5 ≤ pc) : zk69 pc = none := by
  unfold zk69
  rw [zbl (show 1 ≤ pc by omega), cond_true, zbl (show 4 ≤ pc by omega), cond_true, zbq (show pc ≠ 4 by omega)]
  rfl
theorem zo_70 (pc : Nat) (h : 21 ≤ pc) : zk70 pc = none := by
  unfold zk70
  rw [zbl (show 11 ≤ pc by omega), cond_true, zbl (show 16 ≤ pc by omega), cond_true, zbl (show 19 ≤ pc by omega), cond_true, zbl (show 20 ≤ pc by omega), cond_true, zbq (show pc ≠ 20 by omega)]
  rfl
theorem zo_71 (pc : Nat) (h : 83 ≤ pc) : zk71 pc = none := by
  unfold zk71
  rw [zbl (show 42 ≤ pc by omega), cond_true, zbl (show 60 ≤ pc by omega), cond_true, zbl (show 71 ≤ pc by omega), cond_true, zbl (show 76 ≤ pc by omega), cond_true, zbl (show 79 ≤ pc by omega), cond_true, zbl (show 82 ≤ pc by omega), cond_true, zbq (show pc ≠ 82 by omega)]
  rfl
theorem zo_72 (pc : Nat) (h : 48 ≤ pc) : zk72 pc = none := by
  unfold zk72
  rw [zbl (show 26 ≤ pc by omega), cond_true, zbl (show 35 ≤ pc by omega), cond_true, zbl (show 40 ≤ pc by omega), cond_true, zbl (show 44 ≤ pc by omega), cond_true, zbl (show 47 ≤ pc by omega), cond_true, zbq (show pc ≠ 47 by omega)]
  rfl
theorem zo_73 (pc : Nat) (h : 36 ≤ pc) : zk73 pc = none := by
  unfold zk73
  rw [zbl (show 18 ≤ pc by omega), cond_true, zbl (show 27 ≤ pc by omega), cond_true, zbl (show 29 ≤ pc by omega), cond_true, zbl (show 32 ≤ pc by omega), cond_true, zbl (show 35 ≤ pc by omega), cond_true, zbq (show pc ≠ 35 by omega)]
  rfl
theorem zo_74 (pc : Nat) (h : 96 ≤ pc) : zk74 pc = none := by
  unfold zk74
  rw [zbl (show 49 ≤ pc by omega), cond_true, zbl (show 73 ≤ pc by omega), cond_true, zbl (show 85 ≤ pc by omega), cond_true, zbl (show 90 ≤ pc by omega), cond_true, zbl (show 92 ≤ pc by omega), cond_true, zbl (show 95 ≤ pc by omega), cond_true, zbq (show pc ≠ 95 by omega)]
  rfl
theorem zo_75 (pc : Nat) (h : 164 ≤ pc) : zk75 pc = none := by
  unfold zk75
  rw [zbl (show 108 ≤ pc by omega), cond_true, zbl (show 135 ≤ pc by omega), cond_true, zbl (show 151 ≤ pc by omega), cond_true, zbl (show 157 ≤ pc by omega), cond_true, zbl (show 160 ≤ pc by omega), cond_true, zbl (show 163 ≤ pc by omega), cond_true, zbq (show pc ≠ 163 by omega)]
  rfl
theorem zo_76 (pc : Nat) (h : 52 ≤ pc) : zk76 pc = none := by
  unfold zk76
  rw [zbl (show 29 ≤ pc by omega), cond_true, zbl (show 40 ≤ pc by omega), cond_true, zbl (show 46 ≤ pc by omega), cond_true, zbl (show 50 ≤ pc by omega), cond_true, zbl (show 51 ≤ pc by omega), cond_true, zbq (show pc ≠ 51 by omega)]
  rfl
theorem zo_77 (pc : Nat) (h : 63 ≤ pc) : zk77 pc = none := by
  unfold zk77
  rw [zbl (show 33 ≤ pc by omega), cond_true, zbl (show 48 ≤ pc by omega), cond_true, zbl (show 55 ≤ pc by omega), cond_true, zbl (show 57 ≤ pc by omega), cond_true, zbl (show 60 ≤ pc by omega), cond_true, zbl (show 62 ≤ pc by omega), cond_true, zbq (show pc ≠ 62 by omega)]
  rfl
theorem zo_78 (pc : Nat) (h : 55 ≤ pc) : zk78 pc = none := by
  unfold zk78
  rw [zbl (show 30 ≤ pc by omega), cond_true, zbl (show 43 ≤ pc by omega), cond_true, zbl (show 49 ≤ pc by omega), cond_true, zbl (show 53 ≤ pc by omega), cond_true, zbl (show 54 ≤ pc by omega), cond_true, zbq (show pc ≠ 54 by omega)]
  rfl
theorem zo_79 (pc : Nat) (h : 75 ≤ pc) : zk79 pc = none := by
  unfold zk79
  rw [zbl (show 37 ≤ pc by omega), cond_true, zbl (show 54 ≤ pc by omega), cond_true, zbl (show 65 ≤ pc by omega), cond_true, zbl (show 69 ≤ pc by omega), cond_true, zbl (show 71 ≤ pc by omega), cond_true, zbl (show 74 ≤ pc by omega), cond_true, zbq (show pc ≠ 74 by omega)]
  rfl
theorem zo_80 (pc : Nat) (h : 59 ≤ pc) : zk80 pc = none := by
  unfold zk80
  rw [zbl (show 29 ≤ pc by omega), cond_true, zbl (show 44 ≤ pc by omega), cond_true, zbl (show 53 ≤ pc by omega), cond_true, zbl (show 57 ≤ pc by omega), cond_true, zbl (show 58 ≤ pc by omega), cond_true, zbq (show pc ≠ 58 by omega)]
  rfl
theorem zo_81 (pc : Nat) (h : 94 ≤ pc) : zk81 pc = none := by
  unfold zk81
  rw [zbl (show 46 ≤ pc by omega), cond_true, zbl (show 71 ≤ pc by omega), cond_true, zbl (show 83 ≤ pc by omega), cond_true, zbl (show 89 ≤ pc by omega), cond_true, zbl (show 92 ≤ pc by omega), cond_true, zbl (show 93 ≤ pc by omega), cond_true, zbq (show pc ≠ 93 by omega)]
  rfl
theorem zo_82 (pc : Nat) (h : 48 ≤ pc) : zk82 pc = none := by
  unfold zk82
  rw [zbl (show 23 ≤ pc by omega), cond_true, zbl (show 35 ≤ pc by omega), cond_true, zbl (show 42 ≤ pc by omega), cond_true, zbl (show 44 ≤ pc by omega), cond_true, zbl (show 47 ≤ pc by omega), cond_true, zbq (show pc ≠ 47 by omega)]
  rfl
theorem zo_83 (pc : Nat) (h : 54 ≤ pc) : zk83 pc = none := by
  unfold zk83
  rw [zbl (show 28 ≤ pc by omega), cond_true, zbl (show 41 ≤ pc by omega), cond_true, zbl (show 46 ≤ pc by omega), cond_true, zbl (show 50 ≤ pc by omega), cond_true, zbl (show 53 ≤ pc by omega), cond_true, zbq (show pc ≠ 53 by omega)]
  rfl
theorem zo_84 (pc : Nat) (h : 44 ≤ pc) : zk84 pc = none := by
  unfold zk84
  rw [zbl (show 21 ≤ pc by omega), cond_true, zbl (show 30 ≤ pc by omega), cond_true, zbl (show 37 ≤ pc by omega), cond_true, zbl (show 40 ≤ pc by omega), cond_true, zbl (show 43 ≤ pc by omega), cond_true, zbq (show pc ≠ 43 by omega)]
  rfl
theorem zo_85 (pc : Nat) (h : 53 ≤ pc) : zk85 pc = none := by
  unfold zk85
  rw [zbl (show 26 ≤ pc by omega), cond_true, zbl (show 38 ≤ pc by omega), cond_true, zbl (show 45 ≤ pc by omega), cond_true, zbl (show 51 ≤ pc by omega), cond_true, zbl (show 52 ≤ pc by omega), cond_true, zbq (show pc ≠ 52 by omega)]
  rfl
theorem zo_86 (pc : Nat) (h : 37 ≤ pc) : zk86 pc = none := by
  unfold zk86
  rw [zbl (show 18 ≤ pc by omega), cond_true, zbl (show 26 ≤ pc by omega), cond_true, zbl (show 30 ≤ pc by omega), cond_true, zbl (show 33 ≤ pc by omega), cond_true, zbl (show 36 ≤ pc by omega), cond_true, zbq (show pc ≠ 36 by omega)]
  rfl
theorem zo_87 (pc : Nat) (h : 31 ≤ pc) : zk87 pc = none := by
  unfold zk87
  rw [zbl (show 17 ≤ pc by omega), cond_true, zbl (show 25 ≤ pc by omega), cond_true, zbl (show 27 ≤ pc by omega), cond_true, zbl (show 30 ≤ pc by omega), cond_true, zbq (show pc ≠ 30 by omega)]
  rfl
theorem zo_88 (pc : Nat) (h : 29 ≤ pc) : zk88 pc = none := by
  unfold zk88
  rw [zbl (show 15 ≤ pc by omega), cond_true, zbl (show 21 ≤ pc by omega), cond_true, zbl (show 25 ≤ pc by omega), cond_true, zbl (show 28 ≤ pc by omega), cond_true, zbq (show pc ≠ 28 by omega)]
  rfl
theorem zo_89 (pc : Nat) (h : 40 ≤ pc) : zk89 pc = none := by
  unfold zk89
  rw [zbl (show 21 ≤ pc by omega), cond_true, zbl (show 30 ≤ pc by omega), cond_true, zbl (show 33 ≤ pc by omega), cond_true, zbl (show 36 ≤ pc by omega), cond_true, zbl (show 39 ≤ pc by omega), cond_true, zbq (show pc ≠ 39 by omega)]
  rfl
theorem zo_90 (pc : Nat) (h : 62 ≤ pc) : zk90 pc = none := by
  unfold zk90
  rw [zbl (show 31 ≤ pc by omega), cond_true, zbl (show 46 ≤ pc by omega), cond_true, zbl (show 53 ≤ pc by omega), cond_true, zbl (show 57 ≤ pc by omega), cond_true, zbl (show 60 ≤ pc by omega), cond_true, zbl (show 61 ≤ pc by omega), cond_true, zbq (show pc ≠ 61 by omega)]
  rfl
theorem zo_91 (pc : Nat) (h : 34 ≤ pc) : zk91 pc = none := by
  unfold zk91
  rw [zbl (show 17 ≤ pc by omega), cond_true, zbl (show 25 ≤ pc by omega), cond_true, zbl (show 29 ≤ pc by omega), cond_true, zbl (show 32 ≤ pc by omega), cond_true, zbl (show 33 ≤ pc by omega), cond_true, zbq (show pc ≠ 33 by omega)]
  rfl
theorem zo_92 (pc : Nat) (h : 55 ≤ pc) : zk92 pc = none := by
  unfold zk92
  rw [zbl (show 26 ≤ pc by omega), cond_true, zbl (show 39 ≤ pc by omega), cond_true, zbl (show 48 ≤ pc by omega), cond_true, zbl (show 51 ≤ pc by omega), cond_true, zbl (show 54 ≤ pc by omega), cond_true, zbq (show pc ≠ 54 by omega)]
  rfl
theorem zo_93 (pc : Nat) (h : 70 ≤ pc) : zk93 pc = none := by
  unfold zk93
  rw [zbl (show 36 ≤ pc by omega), cond_true, zbl (show 52 ≤ pc by omega), cond_true, zbl (show 60 ≤ pc by omega), cond_true, zbl (show 64 ≤ pc by omega), cond_true, zbl (show 66 ≤ pc by omega), cond_true, zbl (show 69 ≤ pc by omega), cond_true, zbq (show pc ≠ 69 by omega)]
  rfl
theorem zo_94 (pc : Nat) (h : 77 ≤ pc) : zk94 pc = none := by
  unfold zk94
  rw [zbl (show 38 ≤ pc by omega), cond_true, zbl (show 57 ≤ pc by omega), cond_true, zbl (show 67 ≤ pc by omega), cond_true, zbl (show 70 ≤ pc by omega), cond_true, zbl (show 73 ≤ pc by omega), cond_true, zbl (show 76 ≤ pc by omega), cond_true, zbq (show pc ≠ 76 by omega)]
  rfl
theorem zo_95 (pc : Nat) (h : 88 ≤ pc) : zk95 pc = none := by
  unfold zk95
  rw [zbl (show 45 ≤ pc by omega), cond_true, zbl (show 67 ≤ pc by omega), cond_true, zbl (show 80 ≤ pc by omega), cond_true, zbl (show 83 ≤ pc by omega), cond_true, zbl (show 86 ≤ pc by omega), cond_true, zbl (show 87 ≤ pc by omega), cond_true, zbq (show pc ≠ 87 by omega)]
  rfl
theorem zo_96 (pc : Nat) (h : 69 ≤ pc) : zk96 pc = none := by
  unfold zk96
  rw [zbl (show 36 ≤ pc by omega), cond_true, zbl (show 53 ≤ pc by omega), cond_true, zbl (show 62 ≤ pc by omega), cond_true, zbl (show 64 ≤ pc by omega), cond_true, zbl (show 67 ≤ pc by omega), cond_true, zbl (show 68 ≤ pc by omega), cond_true, zbq (show pc ≠ 68 by omega)]
  rfl
theorem zo_97 (pc : Nat) (h : 16 ≤ pc) : zk97 pc = none := by
  unfold zk97
  rw [zbl (show 8 ≤ pc by omega), cond_true, zbl (show 14 ≤ pc by omega), cond_true, zbl (show 15 ≤ pc by omega), cond_true, zbq (show pc ≠ 15 by omega)]
  rfl
theorem zo_98 (pc : Nat) (h : 56 ≤ pc) : zk98 pc = none := by
  unfold zk98
  rw [zbl (show 32 ≤ pc by omega), cond_true, zbl (show 44 ≤ pc by omega), cond_true, zbl (show 47 ≤ pc by omega), cond_true, zbl (show 52 ≤ pc by omega), cond_true, zbl (show 55 ≤ pc by omega), cond_true, zbq (show pc ≠ 55 by omega)]
  rfl
theorem zo_99 (pc : Nat) (h : 33 ≤ pc) : zk99 pc = none := by
  unfold zk99
  rw [zbl (show 16 ≤ pc by omega), cond_true, zbl (show 24 ≤ pc by omega), cond_true, zbl (show 28 ≤ pc by omega), cond_true, zbl (show 31 ≤ pc by omega), cond_true, zbl (show 32 ≤ pc by omega), cond_true, zbq (show pc ≠ 32 by omega)]
  rfl
theorem zo_100 (pc : Nat) (h : 99 ≤ pc) : zk100 pc = none := by
  unfold zk100
  rw [zbl (show 49 ≤ pc by omega), cond_true, zbl (show 75 ≤ pc by omega), cond_true, zbl (show 88 ≤ pc by omega), cond_true, zbl (show 91 ≤ pc by omega), cond_true, zbl (show 95 ≤ pc by omega), cond_true, zbl (show 98 ≤ pc by omega), cond_true, zbq (show pc ≠ 98 by omega)]
  rfl
theorem zo_101 (pc : Nat) (h : 51 ≤ pc) : zk101 pc = none := by
  unfold zk101
  rw [zbl (show 29 ≤ pc by omega), cond_true, zbl (show 38 ≤ pc by omega), cond_true, zbl (show 45 ≤ pc by omega), cond_true, zbl (show 49 ≤ pc by omega), cond_true, zbl (show 50 ≤ pc by omega), cond_true, zbq (show pc ≠ 50 by omega)]
  rfl
theorem zo_102 (pc : Nat) (h : 52 ≤ pc) : zk102 pc = none := by
  unfold zk102
  rw [zbl (show 24 ≤ pc by omega), cond_true, zbl (show 37 ≤ pc by omega), cond_true, zbl (show 44 ≤ pc by omega), cond_true, zbl (show 48 ≤ pc by omega), cond_true, zbl (show 51 ≤ pc by omega), cond_true, zbq (show pc ≠ 51 by omega)]
  rfl
theorem zo_103 (pc : Nat) (h : 53 ≤ pc) : zk103 pc = none := by
  unfold zk103
  rw [zbl (show 27 ≤ pc by omega), cond_true, zbl (show 40 ≤ pc by omega), cond_true, zbl (show 45 ≤ pc by omega), cond_true, zbl (show 49 ≤ pc by omega), cond_true, zbl (show 52 ≤ pc by omega), cond_true, zbq (show pc ≠ 52 by omega)]
  rfl
theorem zo_104 (pc : Nat) (h : 90 ≤ pc) : zk104 pc = none := by
  unfold zk104
  rw [zbl (show 47 ≤ pc by omega), cond_true, zbl (show 67 ≤ pc by omega), cond_true, zbl (show 77 ≤ pc by omega), cond_true, zbl (show 84 ≤ pc by omega), cond_true, zbl (show 86 ≤ pc by omega), cond_true, zbl (show 89 ≤ pc by omega), cond_true, zbq (show pc ≠ 89 by omega)]
  rfl
theorem zo_105 (pc : Nat) (h : 83 ≤ pc) : zk105 pc = none := by
  unfold zk105
  rw [zbl (show 40 ≤ pc by omega), cond_true, zbl (show 64 ≤ pc by omega), cond_true, zbl (show 73 ≤ pc by omega), cond_true, zbl (show 79 ≤ pc by omega), cond_true, zbl (show 80 ≤ pc by omega), cond_true, zbl (show 82 ≤ pc by omega), cond_true, zbq (show pc ≠ 82 by omega)]
  rfl
theorem zo_106 (pc : Nat) (h : 134 ≤ pc) : zk106 pc = none := by
  unfold zk106
  rw [zbl (show 63 ≤ pc by omega), cond_true, zbl (show 98 ≤ pc by omega), cond_true, zbl (show 115 ≤ pc by omega), cond_true, zbl (show 124 ≤ pc by omega), cond_true, zbl (show 128 ≤ pc by omega), cond_true, zbl (show 131 ≤ pc by omega), cond_true, zbl (show 133 ≤ pc by omega), cond_true, zbq (show pc ≠ 133 by omega)]
  rfl
theorem zo_107 (pc : Nat) (h : 116 ≤ pc) : zk107 pc = none := by
  unfold zk107
  rw [zbl (show 61 ≤ pc by omega), cond_true, zbl (show 88 ≤ pc by omega), cond_true, zbl (show 99 ≤ pc by omega), cond_true, zbl (show 108 ≤ pc by omega), cond_true, zbl (show 114 ≤ pc by omega), cond_true, zbl (show 115 ≤ pc by omega), cond_true, zbq (show pc ≠ 115 by omega)]
  rfl
theorem zo_108 (pc : Nat) (h : 104 ≤ pc) : zk108 pc = none := by
  unfold zk108
  rw [zbl (show 72 ≤ pc by omega), cond_true, zbl (show 88 ≤ pc by omega), cond_true, zbl (show 96 ≤ pc by omega), cond_true, zbl (show 98 ≤ pc by omega), cond_true, zbl (show 100 ≤ pc by omega), cond_true, zbl (show 103 ≤ pc by omega), cond_true, zbq (show pc ≠ 103 by omega)]
  rfl
theorem zo_109 (pc : Nat) (h : 12 ≤ pc) : zk109 pc = none := by
  unfold zk109
  rw [zbl (show 6 ≤ pc by omega), cond_true, zbl (show 10 ≤ pc by omega), cond_true, zbl (show 11 ≤ pc by omega), cond_true, zbq (show pc ≠ 11 by omega)]
  rfl
theorem zo_110 (pc : Nat) (h : 17 ≤ pc) : zk110 pc = none := by
  unfold zk110
  rw [zbl (show 6 ≤ pc by omega), cond_true, zbl (show 12 ≤ pc by omega), cond_true, zbl (show 15 ≤ pc by omega), cond_true, zbl (show 16 ≤ pc by omega), cond_true, zbq (show pc ≠ 16 by omega)]
  rfl
theorem zo_111 (pc : Nat) (h : 15 ≤ pc) : zk111 pc = none := by
  unfold zk111
  rw [zbl (show 6 ≤ pc by omega), cond_true, zbl (show 10 ≤ pc by omega), cond_true, zbl (show 13 ≤ pc by omega), cond_true, zbl (show 14 ≤ pc by omega), cond_true, zbq (show pc ≠ 14 by omega)]
  rfl
theorem zo_112 (pc : Nat) (h : 14 ≤ pc) : zk112 pc = none := by
  unfold zk112
  rw [zbl (show 5 ≤ pc by omega), cond_true, zbl (show 9 ≤ pc by omega), cond_true, zbl (show 12 ≤ pc by omega), cond_true, zbl (show 13 ≤ pc by omega), cond_true, zbq (show pc ≠ 13 by omega)]
  rfl
theorem zo_113 (pc : Nat) (h : 16 ≤ pc) : zk113 pc = none := by
  unfold zk113
  rw [zbl (show 7 ≤ pc by omega), cond_true, zbl (show 11 ≤ pc by omega), cond_true, zbl (show 14 ≤ pc by omega), cond_true, zbl (show 15 ≤ pc by omega), cond_true, zbq (show pc ≠ 15 by omega)]
  rfl
theorem zo_114 (pc : Nat) (h : 29 ≤ pc) : zk114 pc = none := by
  unfold zk114
  rw [zbl (show 15 ≤ pc by omega), cond_true, zbl (show 23 ≤ pc by omega), cond_true, zbl (show 27 ≤ pc by omega), cond_true, zbl (show 28 ≤ pc by omega), cond_true, zbq (show pc ≠ 28 by omega)]
  rfl
theorem zo_115 (pc : Nat) (h : 21 ≤ pc) : zk115 pc = none := by
  unfold zk115
  rw [zbl (show 10 ≤ pc by omega), cond_true, zbl (show 16 ≤ pc by omega), cond_true, zbl (show 19 ≤ pc by omega), cond_true, zbl (show 20 ≤ pc by omega), cond_true, zbq (show pc ≠ 20 by omega)]
  rfl
theorem zo_116 (pc : Nat) (h : 296 ≤ pc) : zk116 pc = none := by
  unfold zk116
  rw [zbl (show 145 ≤ pc by omega), cond_true, zbl (show 219 ≤ pc by omega), cond_true, zbl (show 255 ≤ pc by omega), cond_true, zbl (show 277 ≤ pc by omega), cond_true, zbl (show 287 ≤ pc by omega), cond_true, zbl (show 290 ≤ pc by omega), cond_true, zbl (show 292 ≤ pc by omega), cond_true, zbl (show 295 ≤ pc by omega), cond_true, zbq (show pc ≠ 295 by omega)]
  rfl
theorem zo_117 (pc : Nat) (h : 16 ≤ pc) : zk117 pc = none := by
  unfold zk117
  rw [zbl (show 7 ≤ pc by omega), cond_true, zbl (show 11 ≤ pc by omega), cond_true, zbl (show 14 ≤ pc by omega), cond_true, zbl (show 15 ≤ pc by omega), cond_true, zbq (show pc ≠ 15 by omega)]
  rfl
theorem zo_118 (pc : Nat) (h : 12 ≤ pc) : zk118 pc = none := by
  unfold zk118
  rw [zbl (show 6 ≤ pc by omega), cond_true, zbl (show 10 ≤ pc by omega), cond_true, zbl (show 11 ≤ pc by omega), cond_true, zbq (show pc ≠ 11 by omega)]
  rfl
theorem zo_119 (pc : Nat) (h : 12 ≤ pc) : zk119 pc = none := by
  unfold zk119
  rw [zbl (show 6 ≤ pc by omega), cond_true, zbl (show 8 ≤ pc by omega), cond_true, zbl (show 11 ≤ pc by omega), cond_true, zbq (show pc ≠ 11 by omega)]
  rfl
theorem zo_120 (pc : Nat) (h : 12 ≤ pc) : zk120 pc = none := by
  unfold zk120
  rw [zbl (show 6 ≤ pc by omega), cond_true, zbl (show 8 ≤ pc by omega), cond_true, zbl (show 11 ≤ pc by omega), cond_true, zbq (show pc ≠ 11 by omega)]
  rfl
theorem zo_121 (pc : Nat) (h : 15 ≤ pc) : zk121 pc = none := by
  unfold zk121
  rw [zbl (show 5 ≤ pc by omega), cond_true, zbl (show 10 ≤ pc by omega), cond_true, zbl (show 13 ≤ pc by omega), cond_true, zbl (show 14 ≤ pc by omega), cond_true, zbq (show pc ≠ 14 by omega)]
  rfl
theorem zo_122 (pc : Nat) (h : 26 ≤ pc) : zk122 pc = none := by
  unfold zk122
  rw [zbl (show 12 ≤ pc by omega), cond_true, zbl (show 17 ≤ pc by omega), cond_true, zbl (show 21 ≤ pc by omega), cond_true, zbl (show 24 ≤ pc by omega), cond_true, zbl (show 25 ≤ pc by omega), cond_true, zbq (show pc ≠ 25 by omega)]
  rfl
theorem zo_123 (pc : Nat) (h : 144 ≤ pc) : zk123 pc = none := by
  unfold zk123
  rw [zbl (show 75 ≤ pc by omega), cond_true, zbl (show 111 ≤ pc by omega), cond_true, zbl (show 127 ≤ pc by omega), cond_true, zbl (show 133 ≤ pc by omega), cond_true, zbl (show 138 ≤ pc by omega), cond_true, zbl (show 141 ≤ pc by omega), cond_true, zbl (show 143 ≤ pc by omega), cond_true, zbq (show pc ≠ 143 by omega)]
  rfl
theorem zo_124 (pc : Nat) (h : 78 ≤ pc) : zk124 pc = none := by
  unfold zk124
  rw [zbl (show 41 ≤ pc by omega), cond_true, zbl (show 60 ≤ pc by omega), cond_true, zbl (show 68 ≤ pc by omega), cond_true, zbl (show 75 ≤ pc by omega), cond_true, zbl (show 76 ≤ pc by omega), cond_true, zbl (show 77 ≤ pc by omega), cond_true, zbq (show pc ≠ 77 by omega)]
  rfl
theorem zo_125 (pc : Nat) (h : 26 ≤ pc) : zk125 pc = none := by
  unfold zk125
  rw [zbl (show 14 ≤ pc by omega), cond_true, zbl (show 20 ≤ pc by omega), cond_true, zbl (show 24 ≤ pc by omega), cond_true, zbl (show 25 ≤ pc by omega), cond_true, zbq (show pc ≠ 25 by omega)]
  rfl
theorem zo_126 (pc : Nat) (h : 26 ≤ pc) : zk126 pc = none := by
  unfold zk126
  rw [zbl (show 14 ≤ pc by omega), cond_true, zbl (show 20 ≤ pc by omega), cond_true, zbl (show 24 ≤ pc by omega), cond_true, zbl (show 25 ≤ pc by omega), cond_true, zbq (show pc ≠ 25 by omega)]
  rfl
theorem zo_127 (pc : Nat) (h : 126 ≤ pc) : zk127 pc = none := by
  unfold zk127
  rw [zbl (show 61 ≤ pc by omega), cond_true, zbl (show 92 ≤ pc by omega), cond_true, zbl (show 108 ≤ pc by omega), cond_true, zbl (show 116 ≤ pc by omega), cond_true, zbl (show 120 ≤ pc by omega), cond_true, zbl (show 122 ≤ pc by omega), cond_true, zbl (show 125 ≤ pc by omega), cond_true, zbq (show pc ≠ 125 by omega)]
  rfl
theorem zo_128 (pc : Nat) (h : 33 ≤ pc) : zk128 pc = none := by
  unfold zk128
  rw [zbl (show 15 ≤ pc by omega), cond_true, zbl (show 24 ≤ pc by omega), cond_true, zbl (show 28 ≤ pc by omega), cond_true, zbl (show 31 ≤ pc by omega), cond_true, zbl (show 32 ≤ pc by omega), cond_true, zbq (show pc ≠ 32 by omega)]
  rfl
theorem zo_129 (pc : Nat) (h : 156 ≤ pc) : zk129 pc = none := by
  unfold zk129
  rw [zbl (show 105 ≤ pc by omega), cond_true, zbl (show 130 ≤ pc by omega), cond_true, zbl (show 142 ≤ pc by omega), cond_true, zbl (show 148 ≤ pc by omega), cond_true, zbl (show 150 ≤ pc by omega), cond_true, zbl (show 152 ≤ pc by omega), cond_true, zbl (show 155 ≤ pc by omega), cond_true, zbq (show pc ≠ 155 by omega)]
  rfl
theorem zo_130 (pc : Nat) (h : 40 ≤ pc) : zk130 pc = none := by
  unfold zk130
  rw [zbl (show 21 ≤ pc by omega), cond_true, zbl (show 29 ≤ pc by omega), cond_true, zbl (show 34 ≤ pc by omega), cond_true, zbl (show 38 ≤ pc by omega), cond_true, zbl (show 39 ≤ pc by omega), cond_true, zbq (show pc ≠ 39 by omega)]
  rfl
theorem zo_131 (pc : Nat) (h : 49 ≤ pc) : zk131 pc = none := by
  unfold zk131
  rw [zbl (show 27 ≤ pc by omega), cond_true, zbl (show 39 ≤ pc by omega), cond_true, zbl (show 45 ≤ pc by omega), cond_true, zbl (show 47 ≤ pc by omega), cond_true, zbl (show 48 ≤ pc by omega), cond_true, zbq (show pc ≠ 48 by omega)]
  rfl
theorem zo_132 (pc : Nat) (h : 44 ≤ pc) : zk132 pc = none := by
  unfold zk132
  rw [zbl (show 24 ≤ pc by omega), cond_true, zbl (show 35 ≤ pc by omega), cond_true, zbl (show 40 ≤ pc by omega), cond_true, zbl (show 42 ≤ pc by omega), cond_true, zbl (show 43 ≤ pc by omega), cond_true, zbq (show pc ≠ 43 by omega)]
  rfl
theorem zo_133 (pc : Nat) (h : 76 ≤ pc) : zk133 pc = none := by
  unfold zk133
  rw [zbl (show 40 ≤ pc by omega), cond_true, zbl (show 58 ≤ pc by omega), cond_true, zbl (show 67 ≤ pc by omega), cond_true, zbl (show 73 ≤ pc by omega), cond_true, zbl (show 74 ≤ pc by omega), cond_true, zbl (show 75 ≤ pc by omega), cond_true, zbq (show pc ≠ 75 by omega)]
  rfl
theorem zo_134 (pc : Nat) (h : 68 ≤ pc) : zk134 pc = none := by
  unfold zk134
  rw [zbl (show 36 ≤ pc by omega), cond_true, zbl (show 51 ≤ pc by omega), cond_true, zbl (show 58 ≤ pc by omega), cond_true, zbl (show 62 ≤ pc by omega), cond_true, zbl (show 64 ≤ pc by omega), cond_true, zbl (show 67 ≤ pc by omega), cond_true, zbq (show pc ≠ 67 by omega)]
  rfl
theorem zo_135 (pc : Nat) (h : 40 ≤ pc) : zk135 pc = none := by
  unfold zk135
  rw [zbl (show 21 ≤ pc by omega), cond_true, zbl (show 29 ≤ pc by omega), cond_true, zbl (show 34 ≤ pc by omega), cond_true, zbl (show 38 ≤ pc by omega), cond_true, zbl (show 39 ≤ pc by omega), cond_true, zbq (show pc ≠ 39 by omega)]
  rfl
theorem zo_136 (pc : Nat) (h : 71 ≤ pc) : zk136 pc = none := by
  unfold zk136
  rw [zbl (show 38 ≤ pc by omega), cond_true, zbl (show 54 ≤ pc by omega), cond_true, zbl (show 63 ≤ pc by omega), cond_true, zbl (show 66 ≤ pc by omega), cond_true, zbl (show 69 ≤ pc by omega), cond_true, zbl (show 70 ≤ pc by omega), cond_true, zbq (show pc ≠ 70 by omega)]
  rfl
theorem zo_137 (pc : Nat) (h : 20 ≤ pc) : zk137 pc = none := by
  unfold zk137
  rw [zbl (show 10 ≤ pc by omega), cond_true, zbl (show 15 ≤ pc by omega), cond_true, zbl (show 18 ≤ pc by omega), cond_true, zbl (show 19 ≤ pc by omega), cond_true, zbq (show pc ≠ 19 by omega)]
  rfl
theorem zo_138 (pc : Nat) (h : 81 ≤ pc) : zk138 pc = none := by
  unfold zk138
  rw [zbl (show 37 ≤ pc by omega), cond_true, zbl (show 61 ≤ pc by omega), cond_true, zbl (show 71 ≤ pc by omega), cond_true, zbl (show 76 ≤ pc by omega), cond_true, zbl (show 79 ≤ pc by omega), cond_true, zbl (show 80 ≤ pc by omega), cond_true, zbq (show pc ≠ 80 by omega)]
  rfl
theorem zo_139 (pc : Nat) (h : 36 ≤ pc) : zk139 pc = none := by
  unfold zk139
  rw [zbl (show 17 ≤ pc by omega), cond_true, zbl (show 26 ≤ pc by omega), cond_true, zbl (show 31 ≤ pc by omega), cond_true, zbl (show 34 ≤ pc by omega), cond_true, zbl (show 35 ≤ pc by omega), cond_true, zbq (show pc ≠ 35 by omega)]
  rfl
theorem zo_140 (pc : Nat) (h : 44 ≤ pc) : zk140 pc = none := by
  unfold zk140
  rw [zbl (show 23 ≤ pc by omega), cond_true, zbl (show 31 ≤ pc by omega), cond_true, zbl (show 36 ≤ pc by omega), cond_true, zbl (show 42 ≤ pc by omega), cond_true, zbl (show 43 ≤ pc by omega), cond_true, zbq (show pc ≠ 43 by omega)]
  rfl
theorem zo_141 (pc : Nat) (h : 38 ≤ pc) : zk141 pc = none := by
  unfold zk141
  rw [zbl (show 19 ≤ pc by omega), cond_true, zbl (show 28 ≤ pc by omega), cond_true, zbl (show 33 ≤ pc by omega), cond_true, zbl (show 36 ≤ pc by omega), cond_true, zbl (show 37 ≤ pc by omega), cond_true, zbq (show pc ≠ 37 by omega)]
  rfl
theorem zo_142 (pc : Nat) (h : 98 ≤ pc) : zk142 pc = none := by
  unfold zk142
  rw [zbl (show 51 ≤ pc by omega), cond_true, zbl (show 74 ≤ pc by omega), cond_true, zbl (show 85 ≤ pc by omega), cond_true, zbl (show 92 ≤ pc by omega), cond_true, zbl (show 96 ≤ pc by omega), cond_true, zbl (show 97 ≤ pc by omega), cond_true, zbq (show pc ≠ 97 by omega)]
  rfl
theorem zo_143 (pc : Nat) (h : 64 ≤ pc) : zk143 pc = none := by
  unfold zk143
  rw [zbl (show 32 ≤ pc by omega), cond_true, zbl (show 47 ≤ pc by omega), cond_true, zbl (show 55 ≤ pc by omega), cond_true, zbl (show 59 ≤ pc by omega), cond_true, zbl (show 62 ≤ pc by omega), cond_true, zbl (show 63 ≤ pc by omega), cond_true, zbq (show pc ≠ 63 by omega)]
  rfl
theorem zo_144 (pc : Nat) (h : 134 ≤ pc) : zk144 pc = none := by
  unfold zk144
  rw [zbl (show 65 ≤ pc by omega), cond_true, zbl (show 97 ≤ pc by omega), cond_true, zbl (show 113 ≤ pc by omega), cond_true, zbl (show 124 ≤ pc by omega), cond_true, zbl (show 129 ≤ pc by omega), cond_true, zbl (show 132 ≤ pc by omega), cond_true, zbl (show 133 ≤ pc by omega), cond_true, zbq (show pc ≠ 133 by omega)]
  rfl
theorem zo_145 (pc : Nat) (h : 32 ≤ pc) : zk145 pc = none := by
  unfold zk145
  rw [zbl (show 16 ≤ pc by omega), cond_true, zbl (show 22 ≤ pc by omega), cond_true, zbl (show 26 ≤ pc by omega), cond_true, zbl (show 28 ≤ pc by omega), cond_true, zbl (show 31 ≤ pc by omega), cond_true, zbq (show pc ≠ 31 by omega)]
  rfl
theorem zo_146 (pc : Nat) (h : 39 ≤ pc) : zk146 pc = none := by
  unfold zk146
  rw [zbl (show 18 ≤ pc by omega), cond_true, zbl (show 28 ≤ pc by omega), cond_true, zbl (show 31 ≤ pc by omega), cond_true, zbl (show 37 ≤ pc by omega), cond_true, zbl (show 38 ≤ pc by omega), cond_true, zbq (show pc ≠ 38 by omega)]
  rfl
theorem zo_147 (pc : Nat) (h : 117 ≤ pc) : zk147 pc = none := by
  unfold zk147
  rw [zbl (show 51 ≤ pc by omega), cond_true, zbl (show 83 ≤ pc by omega), cond_true, zbl (show 100 ≤ pc by omega), cond_true, zbl (show 107 ≤ pc by omega), cond_true, zbl (show 113 ≤ pc by omega), cond_true, zbl (show 115 ≤ pc by omega), cond_true, zbl (show 116 ≤ pc by omega), cond_true, zbq (show pc ≠ 116 by omega)]
  rfl
theorem zo_148 (pc : Nat) (h : 405 ≤ pc) : zk148 pc = none := by
  unfold zk148
  rw [zbl (show 199 ≤ pc by omega), cond_true, zbl (show 309 ≤ pc by omega), cond_true, zbl (show 354 ≤ pc by omega), cond_true, zbl (show 382 ≤ pc by omega), cond_true, zbl (show 391 ≤ pc by omega), cond_true, zbl (show 399 ≤ pc by omega), cond_true, zbl (show 403 ≤ pc by omega), cond_true, zbl (show 404 ≤ pc by omega), cond_true, zbq (show pc ≠ 404 by omega)]
  rfl
theorem zo_149 (pc : Nat) (h : 49 ≤ pc) : zk149 pc = none := by
  unfold zk149
  rw [zbl (show 23 ≤ pc by omega), cond_true, zbl (show 35 ≤ pc by omega), cond_true, zbl (show 41 ≤ pc by omega), cond_true, zbl (show 47 ≤ pc by omega), cond_true, zbl (show 48 ≤ pc by omega), cond_true, zbq (show pc ≠ 48 by omega)]
  rfl
theorem zo_150 (pc : Nat) (h : 24 ≤ pc) : zk150 pc = none := by
  unfold zk150
  rw [zbl (show 11 ≤ pc by omega), cond_true, zbl (show 19 ≤ pc by omega), cond_true, zbl (show 20 ≤ pc by omega), cond_true, zbl (show 23 ≤ pc by omega), cond_true, zbq (show pc ≠ 23 by omega)]
  rfl
theorem zo_151 (pc : Nat) (h : 29 ≤ pc) : zk151 pc = none := by
  unfold zk151
  rw [zbl (show 15 ≤ pc by omega), cond_true, zbl (show 23 ≤ pc by omega), cond_true, zbl (show 25 ≤ pc by omega), cond_true, zbl (show 27 ≤ pc by omega), cond_true, zbl (show 28 ≤ pc by omega), cond_true, zbq (show pc ≠ 28 by omega)]
  rfl
theorem zo_152 (pc : Nat) (h : 69 ≤ pc) : zk152 pc = none := by
  unfold zk152
  rw [zbl (show 34 ≤ pc by omega), cond_true, zbl (show 52 ≤ pc by omega), cond_true, zbl (show 59 ≤ pc by omega), cond_true, zbl (show 64 ≤ pc by omega), cond_true, zbl (show 67 ≤ pc by omega), cond_true, zbl (show 68 ≤ pc by omega), cond_true, zbq (show pc ≠ 68 by omega)]
  rfl
theorem zo_153 (pc : Nat) (h : 24 ≤ pc) : zk153 pc = none := by
  unfold zk153
  rw [zbl (show 12 ≤ pc by omega), cond_true, zbl (show 17 ≤ pc by omega), cond_true, zbl (show 20 ≤ pc by omega), cond_true, zbl (show 23 ≤ pc by omega), cond_true, zbq (show pc ≠ 23 by omega)]
  rfl
theorem zo_154 (pc : Nat) (h : 7 ≤ pc) : zk154 pc = none := by
  unfold zk154
  rw [zbl (show 2 ≤ pc by omega), cond_true, zbl (show 3 ≤ pc by omega), cond_true, zbl (show 6 ≤ pc by omega), cond_true, zbq (show pc ≠ 6 by omega)]
  rfl
theorem zo_155 (pc : Nat) (h : 79 ≤ pc) : zk155 pc = none := by
  unfold zk155
  rw [zbl (show 43 ≤ pc by omega), cond_true, zbl (show 62 ≤ pc by omega), cond_true, zbl (show 69 ≤ pc by omega), cond_true, zbl (show 76 ≤ pc by omega), cond_true, zbl (show 77 ≤ pc by omega), cond_true, zbl (show 78 ≤ pc by omega), cond_true, zbq (show pc ≠ 78 by omega)]
  rfl
theorem zo_156 (pc : Nat) (h : 99 ≤ pc) : zk156 pc = none := by
  unfold zk156
  rw [zbl (show 53 ≤ pc by omega), cond_true, zbl (show 77 ≤ pc by omega), cond_true, zbl (show 88 ≤ pc by omega), cond_true, zbl (show 93 ≤ pc by omega), cond_true, zbl (show 97 ≤ pc by omega), cond_true, zbl (show 98 ≤ pc by omega), cond_true, zbq (show pc ≠ 98 by omega)]
  rfl
theorem zo_157 (pc : Nat) (h : 46 ≤ pc) : zk157 pc = none := by
  unfold zk157
  rw [zbl (show 25 ≤ pc by omega), cond_true, zbl (show 34 ≤ pc by omega), cond_true, zbl (show 40 ≤ pc by omega), cond_true, zbl (show 44 ≤ pc by omega), cond_true, zbl (show 45 ≤ pc by omega), cond_true, zbq (show pc ≠ 45 by omega)]
  rfl
theorem zo_158 (pc : Nat) (h : 26 ≤ pc) : zk158 pc = none := by
  unfold zk158
  rw [zbl (show 14 ≤ pc by omega), cond_true, zbl (show 20 ≤ pc by omega), cond_true, zbl (show 24 ≤ pc by omega), cond_true, zbl (show 25 ≤ pc by omega), cond_true, zbq (show pc ≠ 25 by omega)]
  rfl
theorem zo_159 (pc : Nat) (h : 42 ≤ pc) : zk159 pc = none := by
  unfold zk159
  rw [zbl (show 21 ≤ pc by omega), cond_true, zbl (show 33 ≤ pc by omega), cond_true, zbl (show 36 ≤ pc by omega), cond_true, zbl (show 40 ≤ pc by omega), cond_true, zbl (show 41 ≤ pc by omega), cond_true, zbq (show pc ≠ 41 by omega)]
  rfl
theorem zo_160 (pc : Nat) (h : 134 ≤ pc) : zk160 pc = none := by
  unfold zk160
  rw [zbl (show 63 ≤ pc by omega), cond_true, zbl (show 99 ≤ pc by omega), cond_true, zbl (show 113 ≤ pc by omega), cond_true, zbl (show 122 ≤ pc by omega), cond_true, zbl (show 128 ≤ pc by omega), cond_true, zbl (show 131 ≤ pc by omega), cond_true, zbl (show 133 ≤ pc by omega), cond_true, zbq (show pc ≠ 133 by omega)]
  rfl
theorem zo_161 (pc : Nat) (h : 126 ≤ pc) : zk161 pc = none := by
  unfold zk161
  rw [zbl (show 57 ≤ pc by omega), cond_true, zbl (show 91 ≤ pc by omega), cond_true, zbl (show 109 ≤ pc by omega), cond_true, zbl (show 115 ≤ pc by omega), cond_true, zbl (show 120 ≤ pc by omega), cond_true, zbl (show 123 ≤ pc by omega), cond_true, zbl (show 125 ≤ pc by omega), cond_true, zbq (show pc ≠ 125 by omega)]
  rfl
theorem zo_162 (pc : Nat) (h : 72 ≤ pc) : zk162 pc = none := by
  unfold zk162
  rw [zbl (show 40 ≤ pc by omega), cond_true, zbl (show 56 ≤ pc by omega), cond_true, zbl (show 64 ≤ pc by omega), cond_true, zbl (show 69 ≤ pc by omega), cond_true, zbl (show 70 ≤ pc by omega), cond_true, zbl (show 71 ≤ pc by omega), cond_true, zbq (show pc ≠ 71 by omega)]
  rfl
theorem zo_163 (pc : Nat) (h : 8 ≤ pc) : zk163 pc = none := by
  unfold zk163
  rw [zbl (show 2 ≤ pc by omega), cond_true, zbl (show 4 ≤ pc by omega), cond_true, zbl (show 7 ≤ pc by omega), cond_true, zbq (show pc ≠ 7 by omega)]
  rfl
theorem zo_164 (pc : Nat) (h : 36 ≤ pc) : zk164 pc = none := by
  unfold zk164
  rw [zbl (show 18 ≤ pc by omega), cond_true, zbl (show 26 ≤ pc by omega), cond_true, zbl (show 31 ≤ pc by omega), cond_true, zbl (show 34 ≤ pc by omega), cond_true, zbl (show 35 ≤ pc by omega), cond_true, zbq (show pc ≠ 35 by omega)]
  rfl
theorem zo_165 (pc : Nat) (h : 103 ≤ pc) : zk165 pc = none := by
  unfold zk165
  rw [zbl (show 58 ≤ pc by omega), cond_true, zbl (show 83 ≤ pc by omega), cond_true, zbl (show 93 ≤ pc by omega), cond_true, zbl (show 97 ≤ pc by omega), cond_true, zbl (show 101 ≤ pc by omega), cond_true, zbl (show 102 ≤ pc by omega), cond_true, zbq (show pc ≠ 102 by omega)]
  rfl
theorem zo_166 (pc : Nat) (h : 78 ≤ pc) : zk166 pc = none := by
  unfold zk166
  rw [zbl (show 42 ≤ pc by omega), cond_true, zbl (show 62 ≤ pc by omega), cond_true, zbl (show 70 ≤ pc by omega), cond_true, zbl (show 75 ≤ pc by omega), cond_true, zbl (show 76 ≤ pc by omega), cond_true, zbl (show 77 ≤ pc by omega), cond_true, zbq (show pc ≠ 77 by omega)]
  rfl
theorem zo_167 (pc : Nat) (h : 62 ≤ pc) : zk167 pc = none := by
  unfold zk167
  rw [zbl (show 34 ≤ pc by omega), cond_true, zbl (show 50 ≤ pc by omega), cond_true, zbl (show 57 ≤ pc by omega), cond_true, zbl (show 59 ≤ pc by omega), cond_true, zbl (show 60 ≤ pc by omega), cond_true, zbl (show 61 ≤ pc by omega), cond_true, zbq (show pc ≠ 61 by omega)]
  rfl
theorem zo_168 (pc : Nat) (h : 56 ≤ pc) : zk168 pc = none := by
  unfold zk168
  rw [zbl (show 27 ≤ pc by omega), cond_true, zbl (show 41 ≤ pc by omega), cond_true, zbl (show 47 ≤ pc by omega), cond_true, zbl (show 51 ≤ pc by omega), cond_true, zbl (show 54 ≤ pc by omega), cond_true, zbl (show 55 ≤ pc by omega), cond_true, zbq (show pc ≠ 55 by omega)]
  rfl
theorem zo_169 (pc : Nat) (h : 121 ≤ pc) : zk169 pc = none := by
  unfold zk169
  rw [zbl (show 67 ≤ pc by omega), cond_true, zbl (show 93 ≤ pc by omega), cond_true, zbl (show 106 ≤ pc by omega), cond_true, zbl (show 114 ≤ pc by omega), cond_true, zbl (show 118 ≤ pc by omega), cond_true, zbl (show 119 ≤ pc by omega), cond_true, zbl (show 120 ≤ pc by omega), cond_true, zbq (show pc ≠ 120 by omega)]
  rfl
theorem zo_170 (pc : Nat) (h : 39 ≤ pc) : zk170 pc = none := by
  unfold zk170
  rw [zbl (show 21 ≤ pc by omega), cond_true, zbl (show 29 ≤ pc by omega), cond_true, zbl (show 34 ≤ pc by omega), cond_true, zbl (show 37 ≤ pc by omega), cond_true, zbl (show 38 ≤ pc by omega), cond_true, zbq (show pc ≠ 38 by omega)]
  rfl
theorem zo_171 (pc : Nat) (h : 12 ≤ pc) : zk171 pc = none := by
  unfold zk171
  rw [zbl (show 6 ≤ pc by omega), cond_true, zbl (show 8 ≤ pc by omega), cond_true, zbl (show 11 ≤ pc by omega), cond_true, zbq (show pc ≠ 11 by omega)]
  rfl
theorem zo_172 (pc : Nat) (h : 57 ≤ pc) : zk172 pc = none := by
  unfold zk172
  rw [zbl (show 26 ≤ pc by omega), cond_true, zbl (show 42 ≤ pc by omega), cond_true, zbl (show 48 ≤ pc by omega), cond_true, zbl (show 52 ≤ pc by omega), cond_true, zbl (show 55 ≤ pc by omega), cond_true, zbl (show 56 ≤ pc by omega), cond_true, zbq (show pc ≠ 56 by omega)]
  rfl
theorem zo_173 (pc : Nat) (h : 36 ≤ pc) : zk173 pc = none := by
  unfold zk173
  rw [zbl (show 19 ≤ pc by omega), cond_true, zbl (show 26 ≤ pc by omega), cond_true, zbl (show 31 ≤ pc by omega), cond_true, zbl (show 34 ≤ pc by omega), cond_true, zbl (show 35 ≤ pc by omega), cond_true, zbq (show pc ≠ 35 by omega)]
  rfl
theorem zo_174 (pc : Nat) (h : 62 ≤ pc) : zk174 pc = none := by
  unfold zk174
  rw [zbl (show 30 ≤ pc by omega), cond_true, zbl (show 45 ≤ pc by omega), cond_true, zbl (show 53 ≤ pc by omega), cond_true, zbl (show 57 ≤ pc by omega), cond_true, zbl (show 58 ≤ pc by omega), cond_true, zbl (show 61 ≤ pc by omega), cond_true, zbq (show pc ≠ 61 by omega)]
  rfl
theorem zo_175 (pc : Nat) (h : 60 ≤ pc) : zk175 pc = none := by
  unfold zk175
  rw [zbl (show 31 ≤ pc by omega), cond_true, zbl (show 47 ≤ pc by omega), cond_true, zbl (show 53 ≤ pc by omega), cond_true, zbl (show 57 ≤ pc by omega), cond_true, zbl (show 58 ≤ pc by omega), cond_true, zbl (show 59 ≤ pc by omega), cond_true, zbq (show pc ≠ 59 by omega)]
  rfl
theorem zo_176 (pc : Nat) (h : 39 ≤ pc) : zk176 pc = none := by
  unfold zk176
  rw [zbl (show 21 ≤ pc by omega), cond_true, zbl (show 29 ≤ pc by omega), cond_true, zbl (show 34 ≤ pc by omega), cond_true, zbl (show 37 ≤ pc by omega), cond_true, zbl (show 38 ≤ pc by omega), cond_true, zbq (show pc ≠ 38 by omega)]
  rfl
theorem zo_177 (pc : Nat) (h : 104 ≤ pc) : zk177 pc = none := by
  unfold zk177
  rw [zbl (show 51 ≤ pc by omega), cond_true, zbl (show 79 ≤ pc by omega), cond_true, zbl (show 93 ≤ pc by omega), cond_true, zbl (show 96 ≤ pc by omega), cond_true, zbl (show 102 ≤ pc by omega), cond_true, zbl (show 103 ≤ pc by omega), cond_true, zbq (show pc ≠ 103 by omega)]
  rfl
theorem zo_178 (pc : Nat) (h : 39 ≤ pc) : zk178 pc = none := by
  unfold zk178
  rw [zbl (show 16 ≤ pc by omega), cond_true, zbl (show 26 ≤ pc by omega), cond_true, zbl (show 31 ≤ pc by omega), cond_true, zbl (show 37 ≤ pc by omega), cond_true, zbl (show 38 ≤ pc by omega), cond_true, zbq (show pc ≠ 38 by omega)]
  rfl
theorem zo_179 (pc : Nat) (h : 36 ≤ pc) : zk179 pc = none := by
  unfold zk179
  rw [zbl (show 17 ≤ pc by omega), cond_true, zbl (show 26 ≤ pc by omega), cond_true, zbl (show 31 ≤ pc by omega), cond_true, zbl (show 34 ≤ pc by omega), cond_true, zbl (show 35 ≤ pc by omega), cond_true, zbq (show pc ≠ 35 by omega)]
  rfl
theorem zo_180 (pc : Nat) (h : 63 ≤ pc) : zk180 pc = none := by
  unfold zk180
  rw [zbl (show 31 ≤ pc by omega), cond_true, zbl (show 46 ≤ pc by omega), cond_true, zbl (show 52 ≤ pc by omega), cond_true, zbl (show 58 ≤ pc by omega), cond_true, zbl (show 59 ≤ pc by omega), cond_true, zbl (show 62 ≤ pc by omega), cond_true, zbq (show pc ≠ 62 by omega)]
  rfl
theorem zo_181 (pc : Nat) (h : 7 ≤ pc) : zk181 pc = none := by
  unfold zk181
  rw [zbl (show 2 ≤ pc by omega), cond_true, zbl (show 3 ≤ pc by omega), cond_true, zbl (show 6 ≤ pc by omega), cond_true, zbq (show pc ≠ 6 by omega)]
  rfl
theorem zo_182 (pc : Nat) (h : 118 ≤ pc) : zk182 pc = none := by
  unfold zk182
  rw [zbl (show 64 ≤ pc by omega), cond_true, zbl (show 89 ≤ pc by omega), cond_true, zbl (show 103 ≤ pc by omega), cond_true, zbl (show 111 ≤ pc by omega), cond_true, zbl (show 115 ≤ pc by omega), cond_true, zbl (show 116 ≤ pc by omega), cond_true, zbl (show 117 ≤ pc by omega), cond_true, zbq (show pc ≠ 117 by omega)]
  rfl
theorem zo_183 (pc : Nat) (h : 114 ≤ pc) : zk183 pc = none := by
  unfold zk183
  rw [zbl (show 61 ≤ pc by omega), cond_true, zbl (show 85 ≤ pc by omega), cond_true, zbl (show 99 ≤ pc by omega), cond_true, zbl (show 106 ≤ pc by omega), cond_true, zbl (show 110 ≤ pc by omega), cond_true, zbl (show 111 ≤ pc by omega), cond_true, zbl (show 113 ≤ pc by omega), cond_true, zbq (show pc ≠ 113 by omega)]
  rfl
theorem zo_184 (pc : Nat) (h : 203 ≤ pc) : zk184 pc = none := by
  unfold zk184
  rw [zbl (show 103 ≤ pc by omega), cond_true, zbl (show 151 ≤ pc by omega), cond_true, zbl (show 178 ≤ pc by omega), cond_true, zbl (show 187 ≤ pc by omega), cond_true, zbl (show 194 ≤ pc by omega), cond_true, zbl (show 200 ≤ pc by omega), cond_true, zbl (show 202 ≤ pc by omega), cond_true, zbq (show pc ≠ 202 by omega)]
  rfl
theorem zo_185 (pc : Nat) (h : 152 ≤ pc) : zk185 pc = none := by
  unfold zk185
  rw [zbl (show 75 ≤ pc by omega), cond_true, zbl (show 116 ≤ pc by omega), cond_true, zbl (show 131 ≤ pc by omega), cond_true, zbl (show 138 ≤ pc by omega), cond_true, zbl (show 147 ≤ pc by omega), cond_true, zbl (show 150 ≤ pc by omega), cond_true, zbl (show 151 ≤ pc by omega), cond_true, zbq (show pc ≠ 151 by omega)]
  rfl
theorem zo_186 (pc : Nat) (h : 146 ≤ pc) : zk186 pc = none := by
  unfold zk186
  rw [zbl (show 90 ≤ pc by omega), cond_true, zbl (show 116 ≤ pc by omega), cond_true, zbl (show 132 ≤ pc by omega), cond_true, zbl (show 138 ≤ pc by omega), cond_true, zbl (show 140 ≤ pc by omega), cond_true, zbl (show 142 ≤ pc by omega), cond_true, zbl (show 145 ≤ pc by omega), cond_true, zbq (show pc ≠ 145 by omega)]
  rfl
theorem zo_187 (pc : Nat) (h : 44 ≤ pc) : zk187 pc = none := by
  unfold zk187
  rw [zbl (show 21 ≤ pc by omega), cond_true, zbl (show 31 ≤ pc by omega), cond_true, zbl (show 36 ≤ pc by omega), cond_true, zbl (show 42 ≤ pc by omega), cond_true, zbl (show 43 ≤ pc by omega), cond_true, zbq (show pc ≠ 43 by omega)]
  rfl
theorem zo_188 (pc : Nat) (h : 1455 ≤ pc) : zk188 pc = none := by
  unfold zk188
  rw [zbl (show 809 ≤ pc by omega), cond_true, zbl (show 1135 ≤ pc by omega), cond_true, zbl (show 1300 ≤ pc by omega), cond_true, zbl (show 1371 ≤ pc by omega), cond_true, zbl (show 1407 ≤ pc by omega), cond_true, zbl (show 1429 ≤ pc by omega), cond_true, zbl (show 1439 ≤ pc by omega), cond_true, zbl (show 1447 ≤ pc by omega), cond_true, zbl (show 1453 ≤ pc by omega), cond_true, zbl (show 1454 ≤ pc by omega), cond_true, zbq (show pc ≠ 1454 by omega)]
  rfl
theorem zo_all (m : Nat) (hm : m < 189) (pc : Nat) (h : zsz m ≤ pc) : zi m pc = none := by
  match m, hm, h with
  | 0, _, h => exact zo_0 pc h
  | 1, _, h => exact zo_1 pc h
  | 2, _, h => exact zo_2 pc h
  | 3, _, h => exact zo_3 pc h
  | 4, _, h => exact zo_4 pc h
  | 5, _, h => exact zo_5 pc h
  | 6, _, h => exact zo_6 pc h
  | 7, _, h => exact zo_7 pc h
  | 8, _, h => exact zo_8 pc h
  | 9, _, h => exact zo_9 pc h
  | 10, _, h => exact zo_10 pc h
  | 11, _, h => exact zo_11 pc h
  | 12, _, h => exact zo_12 pc h
  | 13, _, h => exact zo_13 pc h
  | 14, _, h => exact zo_14 pc h
  | 15, _, h => exact zo_15 pc h
  | 16, _, h => exact zo_16 pc h
  | 17, _, h => exact zo_17 pc h
  | 18, _, h => exact zo_18 pc h
  | 19, _, h => exact zo_19 pc h
  | 20, _, h => exact zo_20 pc h
  | 21, _, h => exact zo_21 pc h
  | 22, _, h => exact zo_22 pc h
  | 23, _, h => exact zo_23 pc h
  | 24, _, h => exact zo_24 pc h
  | 25, _, h => exact zo_25 pc h
  | 26, _, h => exact zo_26 pc h
  | 27, _, h => exact zo_27 pc h
  | 28, _, h => exact zo_28 pc h
  | 29, _, h => exact zo_29 pc h
  | 30, _, h => exact zo_30 pc h
  | 31, _, h => exact zo_31 pc h
  | 32, _, h => exact zo_32 pc h
  | 33, _, h => exact zo_33 pc h
  | 34, _, h => exact zo_34 pc h
  | 35, _, h => exact zo_35 pc h
  | 36, _, h => exact zo_36 pc h
  | 37, _, h => exact zo_37 pc h
  | 38, _, h => exact zo_38 pc h
  | 39, _, h => exact zo_39 pc h
  | 40, _, h => exact zo_40 pc h
  | 41, _, h => exact zo_41 pc h
  | 42, _, h => exact zo_42 pc h
  | 43, _, h => exact zo_43 pc h
  | 44, _, h => exact zo_44 pc h
  | 45, _, h => exact zo_45 pc h
  | 46, _, h => exact zo_46 pc h
  | 47, _, h => exact zo_47 pc h
  | 48, _, h => exact zo_48 pc h
  | 49, _, h => exact zo_49 pc h
  | 50, _, h => exact zo_50 pc h
  | 51, _, h => exact zo_51 pc h
  | 52, _, h => exact zo_52 pc h
  | 53, _, h => exact zo_53 pc h
  | 54, _, h => exact zo_54 pc h
  | 55, _, h => exact zo_55 pc h
  | 56, _, h => exact zo_56 pc h
  | 57, _, h => exact zo_57 pc h
  | 58, _, h => exact zo_58 pc h
  | 59, _, h => exact zo_59 pc h
  | 60, _, h => exact zo_60 pc h
  | 61, _, h => exact zo_61 pc h
  | 62, _, h => exact zo_62 pc h
  | 63, _, h => exact zo_63 pc h
  | 64, _, h => exact zo_64 pc h
  | 65, _, h => exact zo_65 pc h
  | 66, _, h => exact zo_66 pc h
  | 67, _, h => exact zo_67 pc h
  | 68, _, h => exact zo_68 pc h
  | 69, _, h => exact zo_69 pc h
  | 70, _, h => exact zo_70 pc h
  | 71, _, h => exact zo_71 pc h
  | 72, _, h => exact zo_72 pc h
  | 73, _, h => exact zo_73 pc h
  | 74, _, h => exact zo_74 pc h
  | 75, _, h => exact zo_75 pc h
  | 76, _, h => exact zo_76 pc h
  | 77, _, h => exact zo_77 pc h
  | 78, _, h => exact zo_78 pc h
  | 79, _, h => exact zo_79 pc h
  | 80, _, h => exact zo_80 pc h
  | 81, _, h => exact zo_81 pc h
  | 82, _, h => exact zo_82 pc h
  | 83, _, h => exact zo_83 pc h
  | 84, _, h => exact zo_84 pc h
  | 85, _, h => exact zo_85 pc h
  | 86, _, h => exact zo_86 pc h
  | 87, _, h => exact zo_87 pc h
  | 88, _, h => exact zo_88 pc h
  | 89, _, h => exact zo_89 pc h
  | 90, _, h => exact zo_90 pc h
  | 91, _, h => exact zo_91 pc h
  | 92, _, h => exact zo_92 pc h
  | 93, _, h => exact zo_93 pc h
  | 94, _, h => exact zo_94 pc h
  | 95, _, h => exact zo_95 pc h
  | 96, _, h => exact zo_96 pc h
  | 97, _, h => exact zo_97 pc h
  | 98, _, h => exact zo_98 pc h
  | 99, _, h => exact zo_99 pc h
  | 100, _, h => exact zo_100 pc h
  | 101, _, h => exact zo_101 pc h
  | 102, _, h => exact zo_102 pc h
  | 103, _, h => exact zo_103 pc h
  | 104, _, h => exact zo_104 pc h
  | 105, _, h => exact zo_105 pc h
  | 106, _, h => exact zo_106 pc h
  | 107, _, h => exact zo_107 pc h
  | 108, _, h => exact zo_108 pc h
  | 109, _, h => exact zo_109 pc h
  | 110, _, h => exact zo_110 pc h
  | 111, _, h => exact zo_111 pc h
  | 112, _, h => exact zo_112 pc h
  | 113, _, h => exact zo_113 pc h
  | 114, _, h => exact zo_114 pc h
  | 115, _, h => exact zo_115 pc h
  | 116, _, h => exact zo_116 pc h
  | 117, _, h => exact zo_117 pc h
  | 118, _, h => exact zo_118 pc h
  | 119, _, h => exact zo_119 pc h
  | 120, _, h => exact zo_120 pc h
  | 121, _, h => exact zo_121 pc h
  | 122, _, h => exact zo_122 pc h
  | 123, _, h => exact zo_123 pc h
  | 124, _, h => exact zo_124 pc h
  | 125, _, h => exact zo_125 pc h
  | 126, _, h => exact zo_126 pc h
  | 127, _, h => exact zo_127 pc h
  | 128, _, h => exact zo_128 pc h
  | 129, _, h => exact zo_129 pc h
  | 130, _, h => exact zo_130 pc h
  | 131, _, h => exact zo_131 pc h
  | 132, _, h => exact zo_132 pc h
  | 133, _, h => exact zo_133 pc h
  | 134, _, h => exact zo_134 pc h
  | 135, _, h => exact zo_135 pc h
  | 136, _, h => exact zo_136 pc h
  | 137, _, h => exact zo_137 pc h
  | 138, _, h => exact zo_138 pc h
  | 139, _, h => exact zo_139 pc h
  | 140, _, h => exact zo_140 pc h
  | 141, _, h => exact zo_141 pc h
  | 142, _, h => exact zo_142 pc h
  | 143, _, h => exact zo_143 pc h
  | 144, _, h => exact zo_144 pc h
  | 145, _, h => exact zo_145 pc h
  | 146, _, h => exact zo_146 pc h
  | 147, _, h => exact zo_147 pc h
  | 148, _, h => exact zo_148 pc h
  | 149, _, h => exact zo_149 pc h
  | 150, _, h => exact zo_150 pc h
  | 151, _, h => exact zo_151 pc h
  | 152, _, h => exact zo_152 pc h
  | 153, _, h => exact zo_153 pc h
  | 154, _, h => exact zo_154 pc h
  | 155, _, h => exact zo_155 pc h
  | 156, _, h => exact zo_156 pc h
  | 157, _, h => exact zo_157 pc h
  | 158, _, h => exact zo_158 pc h
  | 159, _, h => exact zo_159 pc h
  | 160, _, h => exact zo_160 pc h
  | 161, _, h => exact zo_161 pc h
  | 162, _, h => exact zo_162 pc h
  | 163, _, h => exact zo_163 pc h
  | 164, _, h => exact zo_164 pc h
  | 165, _, h => exact zo_165 pc h
  | 166, _, h => exact zo_166 pc h
  | 167, _, h => exact zo_167 pc h
  | 168, _, h => exact zo_168 pc h
  | 169, _, h => exact zo_169 pc h
  | 170, _, h => exact zo_170 pc h
  | 171, _, h => exact zo_171 pc h
  | 172, _, h => exact zo_172 pc h
  | 173, _, h => exact zo_173 pc h
  | 174, _, h => exact zo_174 pc h
  | 175, _, h => exact zo_175 pc h
  | 176, _, h => exact zo_176 pc h
  | 177, _, h => exact zo_177 pc h
  | 178, _, h => exact zo_178 pc h
  | 179, _, h => exact zo_179 pc h
  | 180, _, h => exact zo_180 pc h
  | 181, _, h => exact zo_181 pc h
  | 182, _, h => exact zo_182 pc h
  | 183, _, h => exact zo_183 pc h
  | 184, _, h => exact zo_184 pc h
  | 185, _, h => exact zo_185 pc h
  | 186, _, h => exact zo_186 pc h
  | 187, _, h => exact zo_187 pc h
  | 188, _, h => exact zo_188 pc h
  | n + 189, hm, _ => exact absurd hm (by omega)
theorem z_lt {m pc : Nat} {x : Instr × Nat × Int × Nat} (h : zi m pc = some x) : m < 189 := by
  apply Nat.lt_of_not_le
  intro hm
  unfold zi at h
  rw [zbl hm, cond_true] at h
  cases h
theorem z_ent {m pc : Nat} {x : Instr × Nat × Int × Nat} (h : zi m pc = some x) : zec m pc x = true := by
  have hm := z_lt h
  have hp : pc < zsz m := by
    apply Nat.lt_of_not_le
    intro hp
    rw [zo_all m hm pc hp] at h
    cases h
  have := List.all_eq_true.mp (zck_all m hm) pc (List.mem_range.mpr hp)
  rw [h] at this
  exact this
theorem z_dec {m pc : Nat} {i : Instr} {len : Nat} {a : Int} {b : Nat} (h : zi m pc = some (i, len, a, b)) : decode (zb m) pc = .ok (i, len) := by
  have := z_ent h
  unfold zec at this
  rw [Bool.and_eq_true, Bool.and_eq_true, decide_eq_true_eq] at this
  exact this.1.1
theorem z_len {m pc : Nat} {i : Instr} {len : Nat} {a : Int} {b : Nat} (h : zi m pc = some (i, len, a, b)) (hn : ∀ d lo hi offs, i ≠ .tableswitch d lo hi offs) : len = zlen i := by
  have := z_ent h
  unfold zec at this
  rw [Bool.and_eq_true, Bool.and_eq_true] at this
  have h2 := this.1.2
  dsimp only at h2
  split at h2
  · exact absurd rfl (hn _ _ _ _)
  · exact beq_iff_eq.mp h2
theorem z_ec2 {m pc : Nat} {i : Instr} {len : Nat} {a : Int} {b : Nat} (h : zi m pc = some (i, len, a, b)) : zec2 m pc i a b = true := by
  have := z_ent h
  unfold zec at this
  rw [Bool.and_eq_true, Bool.and_eq_true] at this
  exact this.2
theorem z_fl {m idx : Nat} {a : Int} {k : Nat} (h : zflc m idx a k = true) : a.toNat < 12 ∧ k < lg a.toNat ∧ Cond.fieldLink (zcl (zcn m)) idx (zTc a.toNat k).1 (zTc a.toNat k).2.1 (zTc a.toNat k).2.2.1 ∈ zgw ∧ (zTc a.toNat k).1 = zcl a.toNat := by
  obtain ⟨q, hq, h1⟩ := List.any_eq_true.mp h
  have h2 := List.all_eq_true.mp zk_f_all q hq
  unfold zk_f at h2
  simp only [Bool.and_eq_true, beq_iff_eq, decide_eq_true_eq] at h1 h2
  obtain ⟨⟨⟨e1, e2⟩, e3⟩, e4⟩ := h1
  have e5 : a.toNat = q.2.1 := by omega
  rw [e5, ← e4, ← e1, ← e2]
  exact ⟨h2.1.1.1, h2.1.1.2, zat_in h2.1.2, h2.2⟩
theorem z_cs {m idx : Nat} {a : Int} (h : zm_cs.any (fun q => q.1.1 == zcn m && q.1.2 == idx && q.2.1 == Int32.ofInt a) = true) : Cond.constant (zcl (zcn m)) idx (Int32.ofInt a) ∈ zgw := by
  obtain ⟨q, hq, h1⟩ := List.any_eq_true.mp h
  have h2 := List.all_eq_true.mp zk_c_all q hq
  unfold zk_c at h2
  simp only [Bool.and_eq_true, beq_iff_eq] at h1
  obtain ⟨⟨e1, e2⟩, e3⟩ := h1
  rw [← e3, ← e1, ← e2]
  exact zat_in h2
theorem z_cl {m idx : Nat} {a : Int} (h : zm_cl.any (fun q => q.1.1 == zcn m && q.1.2 == idx && q.2.1 == Int64.ofInt a) = true) : Cond.constantLong (zcl (zcn m)) idx (Int64.ofInt a) ∈ zgw := by
  obtain ⟨q, hq, h1⟩ := List.any_eq_true.mp h
  have h2 := List.all_eq_true.mp zk_d_all q hq
  unfold zk_d at h2
  simp only [Bool.and_eq_true, beq_iff_eq] at h1
  obtain ⟨⟨e1, e2⟩, e3⟩ := h1
  rw [← e3, ← e1, ← e2]
  exact zat_in h2
theorem z_nc {m idx : Nat} {a : Int} (h : zm_nc.any (fun q => q.1.1 == zcn m && q.1.2 == idx && (q.2.1 : Int) == a) = true) : Cond.classLink (zcl (zcn m)) idx (zcl a.toNat) ∈ zgw ∧ a.toNat < 12 := by
  obtain ⟨q, hq, h1⟩ := List.any_eq_true.mp h
  have h2 := List.all_eq_true.mp zk_k_all q hq
  unfold zk_k at h2
  simp only [Bool.and_eq_true, beq_iff_eq, decide_eq_true_eq] at h1 h2
  obtain ⟨⟨e1, e2⟩, e3⟩ := h1
  have e5 : a.toNat = q.2.1 := by omega
  rw [e5, ← e1, ← e2]
  exact ⟨zat_in h2.1, h2.2⟩
theorem z_sl {m idx : Nat} {a : Int} (h : zm_sl.any (fun q => q.1.1 == zcn m && q.1.2 == idx && (q.2.1 : Int) == a) = true) : (a.toNat = 108 ∨ a.toNat = 109) ∧ Cond.fieldLinkNest (zcl (zcn m)) idx "SnowSchool" (if a.toNat = 108 then "PUPIL_KINDS" else "TEACHER_KINDS") "[I" "SnowSchool" ∈ zbw := by
  obtain ⟨q, hq, h1⟩ := List.any_eq_true.mp h
  have h2 := List.all_eq_true.mp zk_s_all q hq
  unfold zk_s at h2
  simp only [Bool.and_eq_true, Bool.or_eq_true, beq_iff_eq, decide_eq_true_eq] at h1 h2
  obtain ⟨⟨e1, e2⟩, e3⟩ := h1
  have e5 : a.toNat = q.2.1 := by omega
  rw [e5, ← e1, ← e2]
  exact ⟨h2.2, List.mem_filter.mpr ⟨List.mem_of_getElem? h2.1, rfl⟩⟩
theorem z_lk {m idx : Nat} {a : Int} {b : Nat} (h : zlkc m idx a b = true) (ha : a.toNat < zmids) (h0 : 0 ≤ a) : (b = 1 ∧ Cond.methodLinkNest (zcl (zcn m)) idx (zy a.toNat) "SnowSchool" ∈ zbw) ∨ Cond.methodLink (zcl (zcn m)) idx (zy a.toNat) ∈ zgw := by
  obtain ⟨q, hq, h1⟩ := List.any_eq_true.mp h
  have h2 := List.all_eq_true.mp zk_l_all q hq
  unfold zk_l at h2
  simp only [Bool.and_eq_true, beq_iff_eq] at h1
  obtain ⟨⟨⟨e1, e2⟩, e3⟩, e4⟩ := h1
  have e5 : a.toNat = q.2.1 := by omega
  have hz : zmids = 188 := rfl
  have n0 : decide (q.2.1 = 900) = false := decide_eq_false (by omega)
  have n1 : decide (q.2.1 = 901) = false := decide_eq_false (by omega)
  have n2 : decide (q.2.1 = 902) = false := decide_eq_false (by omega)
  have n3 : decide (q.2.1 = 903) = false := decide_eq_false (by omega)
  have n4 : decide (q.2.1 = 904) = false := decide_eq_false (by omega)
  rw [n0, n1, n2, n3, n4] at h2
  simp only [Bool.false_and, Bool.or_false, Bool.and_eq_true, decide_eq_true_eq] at h2
  rw [e5, ← e1, ← e2]
  by_cases hb : q.2.2.1 = 1
  · rw [if_pos hb, decide_eq_true_eq] at h2
    exact Or.inl ⟨by omega, List.mem_filter.mpr ⟨List.mem_of_getElem? h2.2, rfl⟩⟩
  · rw [if_neg hb] at h2
    exact Or.inr (zat_in h2.2)
theorem z_lkX {m idx : Nat} {a : Int} {b : Nat} (h : zlkc m idx a b = true) (n : Nat) (ha : a = (n : Int)) (hn : zmids ≤ n) : (n = 900 → Cond.methodLink (zcl (zcn m)) idx objectInit ∈ zgw) ∧ (n = 901 → Cond.methodLink (zcl (zcn m)) idx arraycopyName ∈ zgw) ∧ (n = 902 → Cond.methodLink (zcl (zcn m)) idx Lib.Math.max.name ∈ zgw) ∧ (n = 903 → Cond.methodLink (zcl (zcn m)) idx Lib.Math.min.name ∈ zgw) ∧ (n = 904 → Cond.methodLink (zcl (zcn m)) idx Lib.MathLoose.min_long.x ∈ zgw) := by
  obtain ⟨q, hq, h1⟩ := List.any_eq_true.mp h
  have h2 := List.all_eq_true.mp zk_l_all q hq
  unfold zk_l at h2
  simp only [Bool.and_eq_true, beq_iff_eq] at h1
  obtain ⟨⟨⟨e1, e2⟩, e3⟩, e4⟩ := h1
  have e5 : q.2.1 = n := by omega
  rw [e5] at h2
  rw [← e1, ← e2]
  have nz : decide (n < zmids) = false := decide_eq_false (by omega)
  rw [nz, Bool.false_and, Bool.false_or] at h2
  refine ⟨fun hh => ?_, fun hh => ?_, fun hh => ?_, fun hh => ?_, fun hh => ?_⟩ <;>
    (subst hh; simp (decide := true) only [Bool.false_and, Bool.true_and, Bool.or_false, Bool.false_or, decide_true, decide_false] at h2; exact zat_in h2)
theorem zvw : ∀ c, c < 12 → vwCl[c]? = some (zcl c, zTc c, lg c)
  | 0, _ => rfl
  | 1, _ => rfl
  | 2, _ => rfl
  | 3, _ => rfl
  | 4, _ => rfl
  | 5, _ => rfl
  | 6, _ => rfl
  | 7, _ => rfl
  | 8, _ => rfl
  | 9, _ => rfl
  | 10, _ => rfl
  | 11, _ => rfl
  | n + 12, h => absurd h (by omega)
theorem zhin0 {ws : List Cond} (h : (ws.all (fun w => decide (w ∈ lw_tbl) && goodWord w)) = true) : ∀ w ∈ ws, w ∈ zgw := fun w hw => by
  have := List.all_eq_true.mp h w hw
  rw [Bool.and_eq_true, decide_eq_true_eq] at this
  exact List.mem_filter.mpr this
theorem zhin : ∀ c, c < 12 → ∀ w ∈ u_ws (zcl c) (zTc c) (lg c), w ∈ zgw
  | 0, _ => zhin0 zk_in0
  | 1, _ => zhin0 zk_in1
  | 2, _ => zhin0 zk_in2
  | 3, _ => zhin0 zk_in3
  | 4, _ => zhin0 zk_in4
  | 5, _ => zhin0 zk_in5
  | 6, _ => zhin0 zk_in6
  | 7, _ => zhin0 zk_in7
  | 8, _ => zhin0 zk_in8
  | 9, _ => zhin0 zk_in9
  | 10, _ => zhin0 zk_in10
  | 11, _ => zhin0 zk_in11
  | n + 12, h => absurd h (by omega)
theorem zhty : ∀ c, c < 12 → ∀ k, k < lg c → parseFieldDescriptor (zTc c k).2.2.1 = some (zty c k)
  | 0, _ => tyX0_ok
  | 1, _ => tyX1_ok
  | 2, _ => tyX2_ok
  | 3, _ => tyX3_ok
  | 4, _ => tyX4_ok
  | 5, _ => tyX5_ok
  | 6, _ => tyX6_ok
  | 7, _ => tyX7_ok
  | 8, _ => tyX8_ok
  | 9, _ => tyX9_ok
  | 10, _ => tyX10_ok
  | 11, _ => tyX11_ok
  | n + 12, h => absurd h (by omega)
theorem zhnm : ∀ c, c < 12 → ∀ a, a < lg c → ∀ b, b < lg c → a ≠ b → (zTc c a).2.1 ≠ (zTc c b).2.1
  | 0, _ => nmX0
  | 1, _ => nmX1
  | 2, _ => nmX2
  | 3, _ => nmX3
  | 4, _ => nmX4
  | 5, _ => nmX5
  | 6, _ => nmX6
  | 7, _ => nmX7
  | 8, _ => nmX8
  | 9, _ => nmX9
  | 10, _ => nmX10
  | 11, _ => nmX11
  | n + 12, h => absurd h (by omega)
theorem zobj : ∀ g, g < 13 → tg g < 12 ∧ lg g = lg (tg g) := by decide +kernel
theorem zarr_ok : ∀ k, k < 115 → 12 < (zn k).1 → zak (zn k).1 < 4 ∧ tg (zn k).1 ∈ zarr ∧ zat (tg (zn k).1) = (if zak (zn k).1 = 0 then .int else if zak (zn k).1 = 1 then .boolean else if zak (zn k).1 = 2 then .long else if (zn k).1 = 43 then .array .long else .object (zcl (tg (zn k).1 - 30))) := by decide +kernel
theorem zlg_small : ∀ k, k < 115 → lg (zn k).1 < 10000 := by decide +kernel
def ztys (dA : Nat → ClassId) : List (ClassId × FieldType) := zarr.map (fun t => (dA t, zat t))
theorem ztys_at {dA : Nat → ClassId} {t : Nat} (h : t ∈ zarr) : ∃ t0 : Nat, (ztys dA)[t0]? = some (dA t, zat t) := by
  obtain ⟨i, hi⟩ := List.getElem?_of_mem h
  exact ⟨i, by unfold ztys; rw [List.getElem?_map, hi]; rfl⟩

def zlen : Instr → Nat
  | .bipush _ => 2 | .iload _ => 2 | .istore _ => 2 | .aload _ => 2 | .astore _ => 2 | .lload _ => 2 | .lstore _ => 2 | .ldc _ => 2 | .newarray _ => 2
  | .sipush _ => 3 | .ldc_w _ => 3 | .ldc2_w _ => 3 | .iinc _ _ => 3 | .goto _ => 3 | .ifCond _ _ => 3 | .if_icmp _ _ => 3 | .if_acmp _ _ => 3
  | .getfield _ => 3 | .putfield _ => 3 | .getstatic _ => 3 | .invokevirtual _ => 3 | .invokestatic _ => 3 | .invokespecial _ => 3 | .new _ => 3 | .anewarray _ => 3
  | .multianewarray _ _ => 4
  | _ => 1
def zlkc (m idx : Nat) (a : Int) (b : Nat) : Bool := zm_lk.any (fun q => q.1.1 == zcn m && q.1.2 == idx && (q.2.1 : Int) == a && q.2.2.1 == b)
def zflc (m idx : Nat) (a : Int) (b : Nat) : Bool := zm_fl.any (fun q => q.1.1 == zcn m && q.1.2 == idx && (q.2.1 : Int) == a && q.2.2.1 == b)
def zrmc (m : Nat) (a : Int) : Bool := Nat.ble (zfr a.toNat + 1) (zfr m) && Nat.ble (8 + (znl a.toNat + 11) + zlo a.toNat) (zlo m) && Nat.ble (a.toNat + 1) zmids && decide (0 ≤ a)
/-- an entry's numbers are what the pool's links say -/
def zec2 (m pc : Nat) (i : Instr) (a : Int) (b : Nat) : Bool := match i with
  | .getfield idx => zflc m idx a b
  | .putfield idx => zflc m idx a b
  | .invokevirtual idx => zlkc m idx a b && zrmc m a && zkd a.toNat == 0
  | .invokestatic idx => zlkc m idx a b && ((zrmc m a && zkd a.toNat == 1) || (b == 0 && (a == 901 || a == 902 || a == 903 || a == 904)))
  | .invokespecial idx => zlkc m idx a b && ((zrmc m a && zkd a.toNat == 2) || (b == 0 && a == 900))
  | .goto off => (pc : Int) + off == (b : Int)
  | .ifCond _ off => (pc : Int) + off == (b : Int)
  | .if_icmp _ off => (pc : Int) + off == (b : Int)
  | .if_acmp _ off => (pc : Int) + off == (b : Int)
  | .ldc idx => zm_cs.any (fun q => q.1.1 == zcn m && q.1.2 == idx && q.2.1 == Int32.ofInt a) && (Int32.ofInt a).toInt == a
  | .ldc_w idx => zm_cs.any (fun q => q.1.1 == zcn m && q.1.2 == idx && q.2.1 == Int32.ofInt a) && (Int32.ofInt a).toInt == a
  | .ldc2_w idx => zm_cl.any (fun q => q.1.1 == zcn m && q.1.2 == idx && q.2.1 == Int64.ofInt a) && (Int64.ofInt a).toInt == a
  | .new idx => zm_nc.any (fun q => q.1.1 == zcn m && q.1.2 == idx && (q.2.1 : Int) == a)
  | .anewarray idx => zm_nc.any (fun q => q.1.1 == zcn m && q.1.2 == idx && (q.2.1 : Int) == a)
  | .getstatic idx => zm_sl.any (fun q => q.1.1 == zcn m && q.1.2 == idx && (q.2.1 : Int) == a)
  | .bipush n => decide (-128 ≤ n ∧ n ≤ 127)
  | .sipush n => decide (-32768 ≤ n ∧ n ≤ 32767)
  | .iconst n => decide (-1 ≤ n ∧ n ≤ 5)
  | .iinc _ n => decide (-128 ≤ n ∧ n ≤ 127)
  | _ => true
def zec (m pc : Nat) (e : Instr × Nat × Int × Nat) : Bool := decide (decode (zb m) pc = .ok (e.1, e.2.1)) && (match e.1 with | .tableswitch .. => true | i => e.2.1 == zlen i) && zec2 m pc e.1 e.2.2.1 e.2.2.2
def zck (m : Nat) : Bool := (List.range (zsz m)).all (fun pc => match zi m pc with | none => true | some e => zec m pc e)
set_option maxRecDepth 100000 in
theorem zck_0 : zck 0 = true := by decide +kernel
set_option maxRecDepth 100000 in
theorem zck_1 : zck 1 = true := by decide +kernel
set_option maxRecDepth 100000 in
theorem zck_2 : zck 2 = true := by decide +kernel
set_option maxRecDepth 100000 in
theorem zck_3 : zck 3 = true := by decide +kernel
set_option maxRecDepth 100000 in
theorem zck_4 : zck 4 = true := by decide +kernel
set_option maxRecDepth 100000 in
theorem zck_5 : zck 5 = true := by decide +kernel
set_option maxRecDepth 100000 in
theorem zck_6 : zck 6 = true := by decide +kernel
set_option maxRecDepth 100000 in
theorem zck_7 : zck 7 = true := by decide +kernel
set_option maxRecDepth 100000 in
theorem zck_8 : zck 8 = true := by decide +kernel
set_option maxRecDepth 100000 in
theorem zck_9 : zck 9 = true := by decide +kernel
set_option maxRecDepth 100000 in
theorem zck_10 : zck 10 = true := by decide +kernel
set_option maxRecDepth 100000 in
theorem zck_11 : zck 11 = true := by decide +kernel
set_option maxRecDepth 100000 in
theorem zck_12 : zck 12 = true := by decide +kernel
set_option maxRecDepth 100000 in
theorem zck_13 : zck 13 = true := by decide +kernel
set_option maxRecDepth 100000 in
theorem zck_14 : zck 14 = true := by decide +kernel
set_option maxRecDepth 100000 in
theorem zck_15 : zck 15 = true := by decide +kernel
set_option maxRecDepth 100000 in
theorem zck_16 : zck 16 = true := by decide +kernel
set_option maxRecDepth 100000 in
theorem zck_17 : zck 17 = true := by decide +kernel
set_option maxRecDepth 100000 in
theorem zck_18 : zck 18 = true := by decide +kernel
set_option maxRecDepth 100000 in
theorem zck_19 : zck 19 = true := by decide +kernel
set_option maxRecDepth 100000 in
theorem zck_20 : zck 20 = true := by decide +kernel
set_option maxRecDepth 100000 in
theorem zck_21 : zck 21 = true := by decide +kernel
set_option maxRecDepth 100000 in
theorem zck_22 : zck 22 = true := by decide +kernel
set_option maxRecDepth 100000 in
theorem zck_23 : zck 23 = true := by decide +kernel
set_option maxRecDepth 100000 in
theorem zck_24 : zck 24 = true := by decide +kernel
set_option maxRecDepth 100000 in
theorem zck_25 : zck 25 = true := by decide +kernel
set_option maxRecDepth 100000 in
theorem zck_26 : zck 26 = true := by decide +kernel
set_option maxRecDepth 100000 in
theorem zck_27 : zck 27 = true := by decide +kernel
set_option maxRecDepth 100000 in
theorem zck_28 : zck 28 = true := by decide +kernel
set_option maxRecDepth 100000 in
theorem zck_29 : zck 29 = true := by decide +kernel
set_option maxRecDepth 100000 in
theorem zck_30 : zck 30 = true := by decide +kernel
set_option maxRecDepth 100000 in
theorem zck_31 : zck 31 = true := by decide +kernel
set_option maxRecDepth 100000 in
theorem zck_32 : zck 32 = true := by decide +kernel
set_option maxRecDepth 100000 in
theorem zck_33 : zck 33 = true := by decide +kernel
set_option maxRecDepth 100000 in
theorem zck_34 : zck 34 = true := by decide +kernel
set_option maxRecDepth 100000 in
theorem zck_35 : zck 35 = true := by decide +kernel
set_option maxRecDepth 100000 in
theorem zck_36 : zck 36 = true := by decide +kernel
set_option maxRecDepth 100000 in
theorem zck_37 : zck 37 = true := by decide +kernel
set_option maxRecDepth 100000 in
theorem zck_38 : zck 38 = true := by decide +kernel
set_option maxRecDepth 100000 in
theorem zck_39 : zck 39 = true := by decide +kernel
set_option maxRecDepth 100000 in
theorem zck_40 : zck 40 = true := by decide +kernel
set_option maxRecDepth 100000 in
theorem zck_41 : zck 41 = true := by decide +kernel
set_option maxRecDepth 100000 in
theorem zck_42 : zck 42 = true := by decide +kernel
set_option maxRecDepth 100000 in
theorem zck_43 : zck 43 = true := by decide +kernel
set_option maxRecDepth 100000 in
theorem zck_44 : zck 44 = true := by decide +kernel
set_option maxRecDepth 100000 in
theorem zck_45 : zck 45 = true := by decide +kernel
set_option maxRecDepth 100000 in
theorem zck_46 : zck 46 = true := by decide +kernel
set_option maxRecDepth 100000 in
theorem zck_47 : zck 47 = true := by decide +kernel
set_option maxRecDepth 100000 in
theorem zck_48 : zck 48 = true := by decide +kernel
set_option maxRecDepth 100000 in
theorem zck_49 : zck 49 = true := by decide +kernel
set_option maxRecDepth 100000 in
theorem zck_50 : zck 50 = true := by decide +kernel
set_option maxRecDepth 100000 in
theorem zck_51 : zck 51 = true := by decide +kernel
set_option maxRecDepth 100000 in
theorem zck_52 : zck 52 = true := by decide +kernel
set_option maxRecDepth 100000 in
theorem zck_53 : zck 53 = true := by decide +kernel
set_option maxRecDepth 100000 in
theorem zck_54 : zck 54 = true := by decide +kernel
set_option maxRecDepth 100000 in
theorem zck_55 : zck 55 = true := by decide +kernel
set_option maxRecDepth 100000 in
theorem zck_56 : zck 56 = true := by decide +kernel
set_option maxRecDepth 100000 in
theorem zck_57 : zck 57 = true := by decide +kernel
set_option maxRecDepth 100000 in
theorem zck_58 : zck 58 = true := by decide +kernel
set_option maxRecDepth 100000 in
theorem zck_59 : zck 59 = true := by decide +kernel
set_option maxRecDepth 100000 in
theorem zck_60 : zck 60 = true := by decide +kernel
set_option maxRecDepth 100000 in
theorem zck_61 : zck 61 = true := by decide +kernel
set_option maxRecDepth 100000 in
theorem zck_62 : zck 62 = true := by decide +kernel
set_option maxRecDepth 100000 in
theorem zck_63 : zck 63 = true := by decide +kernel
set_option maxRecDepth 100000 in
theorem zck_64 : zck 64 = true := by decide +kernel
set_option maxRecDepth 100000 in
theorem zck_65 : zck 65 = true := by decide +kernel
set_option maxRecDepth 100000 in
theorem zck_66 : zck 66 = true := by decide +kernel
set_option maxRecDepth 100000 in
theorem zck_67 : zck 67 = true := by decide +kernel
set_option maxRecDepth 100000 in
theorem zck_68 : zck 68 = true := by decide +kernel
set_option maxRecDepth 100000 in
theorem zck_69 : zck 69 = true := by decide +kernel
set_option maxRecDepth 100000 in
theorem zck_70 : zck 70 = true := by decide +kernel
set_option maxRecDepth 100000 in
theorem zck_71 : zck 71 = true := by decide +kernel
set_option maxRecDepth 100000 in
theorem zck_72 : zck 72 = true := by decide +kernel
set_option maxRecDepth 100000 in
theorem zck_73 : zck 73 = true := by decide +kernel
set_option maxRecDepth 100000 in
theorem zck_74 : zck 74 = true := by decide +kernel
set_option maxRecDepth 100000 in
theorem zck_75 : zck 75 = true := by decide +kernel
set_option maxRecDepth 100000 in
theorem zck_76 : zck 76 = true := by decide +kernel
set_option maxRecDepth 100000 in
theorem zck_77 : zck 77 = true := by decide +kernel
set_option maxRecDepth 100000 in
theorem zck_78 : zck 78 = true := by decide +kernel
set_option maxRecDepth 100000 in
theorem zck_79 : zck 79 = true := by decide +kernel
set_option maxRecDepth 100000 in
theorem zck_80 : zck 80 = true := by decide +kernel
set_option maxRecDepth 100000 in
theorem zck_81 : zck 81 = true := by decide +kernel
set_option maxRecDepth 100000 in
theorem zck_82 : zck 82 = true := by decide +kernel
set_option maxRecDepth 100000 in
theorem zck_83 : zck 83 = true := by decide +kernel
set_option maxRecDepth 100000 in
theorem zck_84 : zck 84 = true := by decide +kernel
set_option maxRecDepth 100000 in
theorem zck_85 : zck 85 = true := by decide +kernel
set_option maxRecDepth 100000 in
theorem zck_86 : zck 86 = true := by decide +kernel
set_option maxRecDepth 100000 in
theorem zck_87 : zck 87 = true := by decide +kernel
set_option maxRecDepth 100000 in
theorem zck_88 : zck 88 = true := by decide +kernel
set_option maxRecDepth 100000 in
theorem zck_89 : zck 89 = true := by decide +kernel
set_option maxRecDepth 100000 in
theorem zck_90 : zck 90 = true := by decide +kernel
set_option maxRecDepth 100000 in
theorem zck_91 : zck 91 = true := by decide +kernel
set_option maxRecDepth 100000 in
theorem zck_92 : zck 92 = true := by decide +kernel
set_option maxRecDepth 100000 in
theorem zck_93 : zck 93 = true := by decide +kernel
set_option maxRecDepth 100000 in
theorem zck_94 : zck 94 = true := by decide +kernel
set_option maxRecDepth 100000 in
theorem zck_95 : zck 95 = true := by decide +kernel
set_option maxRecDepth 100000 in
theorem zck_96 : zck 96 = true := by decide +kernel
set_option maxRecDepth 100000 in
theorem zck_97 : zck 97 = true := by decide +kernel
set_option maxRecDepth 100000 in
theorem zck_98 : zck 98 = true := by decide +kernel
set_option maxRecDepth 100000 in
theorem zck_99 : zck 99 = true := by decide +kernel
set_option maxRecDepth 100000 in
theorem zck_100 : zck 100 = true := by decide +kernel
set_option maxRecDepth 100000 in
theorem zck_101 : zck 101 = true := by decide +kernel
set_option maxRecDepth 100000 in
theorem zck_102 : zck 102 = true := by decide +kernel
set_option maxRecDepth 100000 in
theorem zck_103 : zck 103 = true := by decide +kernel
set_option maxRecDepth 100000 in
theorem zck_104 : zck 104 = true := by decide +kernel
set_option maxRecDepth 100000 in
theorem zck_105 : zck 105 = true := by decide +kernel
set_option maxRecDepth 100000 in
theorem zck_106 : zck 106 = true := by decide +kernel
set_option maxRecDepth 100000 in
theorem zck_107 : zck 107 = true := by decide +kernel
set_option maxRecDepth 100000 in
theorem zck_108 : zck 108 = true := by decide +kernel
set_option maxRecDepth 100000 in
theorem zck_109 : zck 109 = true := by decide +kernel
set_option maxRecDepth 100000 in
theorem zck_110 : zck 110 = true := by decide +kernel
set_option maxRecDepth 100000 in
theorem zck_111 : zck 111 = true := by decide +kernel
set_option maxRecDepth 100000 in
theorem zck_112 : zck 112 = true := by decide +kernel
set_option maxRecDepth 100000 in
theorem zck_113 : zck 113 = true := by decide +kernel
set_option maxRecDepth 100000 in
theorem zck_114 : zck 114 = true := by decide +kernel
set_option maxRecDepth 100000 in
theorem zck_115 : zck 115 = true := by decide +kernel
set_option maxRecDepth 100000 in
theorem zck_116 : zck 116 = true := by decide +kernel
set_option maxRecDepth 100000 in
theorem zck_117 : zck 117 = true := by decide +kernel
set_option maxRecDepth 100000 in
theorem zck_118 : zck 118 = true := by decide +kernel
set_option maxRecDepth 100000 in
theorem zck_119 : zck 119 = true := by decide +kernel
set_option maxRecDepth 100000 in
theorem zck_120 : zck 120 = true := by decide +kernel
set_option maxRecDepth 100000 in
theorem zck_121 : zck 121 = true := by decide +kernel
set_option maxRecDepth 100000 in
theorem zck_122 : zck 122 = true := by decide +kernel
set_option maxRecDepth 100000 in
theorem zck_123 : zck 123 = true := by decide +kernel
set_option maxRecDepth 100000 in
theorem zck_124 : zck 124 = true := by decide +kernel
set_option maxRecDepth 100000 in
theorem zck_125 : zck 125 = true := by decide +kernel
set_option maxRecDepth 100000 in
theorem zck_126 : zck 126 = true := by decide +kernel
set_option maxRecDepth 100000 in
theorem zck_127 : zck 127 = true := by decide +kernel
set_option maxRecDepth 100000 in
theorem zck_128 : zck 128 = true := by decide +kernel
set_option maxRecDepth 100000 in
theorem zck_129 : zck 129 = true := by decide +kernel
set_option maxRecDepth 100000 in
theorem zck_130 : zck 130 = true := by decide +kernel
set_option maxRecDepth 100000 in
theorem zck_131 : zck 131 = true := by decide +kernel
set_option maxRecDepth 100000 in
theorem zck_132 : zck 132 = true := by decide +kernel
set_option maxRecDepth 100000 in
theorem zck_133 : zck 133 = true := by decide +kernel
set_option maxRecDepth 100000 in
theorem zck_134 : zck 134 = true := by decide +kernel
set_option maxRecDepth 100000 in
theorem zck_135 : zck 135 = true := by decide +kernel
set_option maxRecDepth 100000 in
theorem zck_136 : zck 136 = true := by decide +kernel
set_option maxRecDepth 100000 in
theorem zck_137 : zck 137 = true := by decide +kernel
set_option maxRecDepth 100000 in
theorem zck_138 : zck 138 = true := by decide +kernel
set_option maxRecDepth 100000 in
theorem zck_139 : zck 139 = true := by decide +kernel
set_option maxRecDepth 100000 in
theorem zck_140 : zck 140 = true := by decide +kernel
set_option maxRecDepth 100000 in
theorem zck_141 : zck 141 = true := by decide +kernel
set_option maxRecDepth 100000 in
theorem zck_142 : zck 142 = true := by decide +kernel
set_option maxRecDepth 100000 in
theorem zck_143 : zck 143 = true := by decide +kernel
set_option maxRecDepth 100000 in
theorem zck_144 : zck 144 = true := by decide +kernel
set_option maxRecDepth 100000 in
theorem zck_145 : zck 145 = true := by decide +kernel
set_option maxRecDepth 100000 in
theorem zck_146 : zck 146 = true := by decide +kernel
set_option maxRecDepth 100000 in
theorem zck_147 : zck 147 = true := by decide +kernel
set_option maxRecDepth 100000 in
theorem zck_148 : zck 148 = true := by decide +kernel
set_option maxRecDepth 100000 in
theorem zck_149 : zck 149 = true := by decide +kernel
set_option maxRecDepth 100000 in
theorem zck_150 : zck 150 = true := by decide +kernel
set_option maxRecDepth 100000 in
theorem zck_151 : zck 151 = true := by decide +kernel
set_option maxRecDepth 100000 in
theorem zck_152 : zck 152 = true := by decide +kernel
set_option maxRecDepth 100000 in
theorem zck_153 : zck 153 = true := by decide +kernel
set_option maxRecDepth 100000 in
theorem zck_154 : zck 154 = true := by decide +kernel
set_option maxRecDepth 100000 in
theorem zck_155 : zck 155 = true := by decide +kernel
set_option maxRecDepth 100000 in
theorem zck_156 : zck 156 = true := by decide +kernel
set_option maxRecDepth 100000 in
theorem zck_157 : zck 157 = true := by decide +kernel
set_option maxRecDepth 100000 in
theorem zck_158 : zck 158 = true := by decide +kernel
set_option maxRecDepth 100000 in
theorem zck_159 : zck 159 = true := by decide +kernel
set_option maxRecDepth 100000 in
theorem zck_160 : zck 160 = true := by decide +kernel
set_option maxRecDepth 100000 in
theorem zck_161 : zck 161 = true := by decide +kernel
set_option maxRecDepth 100000 in
theorem zck_162 : zck 162 = true := by decide +kernel
set_option maxRecDepth 100000 in
theorem zck_163 : zck 163 = true := by decide +kernel
set_option maxRecDepth 100000 in
theorem zck_164 : zck 164 = true := by decide +kernel
set_option maxRecDepth 100000 in
theorem zck_165 : zck 165 = true := by decide +kernel
set_option maxRecDepth 100000 in
theorem zck_166 : zck 166 = true := by decide +kernel
set_option maxRecDepth 100000 in
theorem zck_167 : zck 167 = true := by decide +kernel
set_option maxRecDepth 100000 in
theorem zck_168 : zck 168 = true := by decide +kernel
set_option maxRecDepth 100000 in
theorem zck_169 : zck 169 = true := by decide +kernel
set_option maxRecDepth 100000 in
theorem zck_170 : zck 170 = true := by decide +kernel
set_option maxRecDepth 100000 in
theorem zck_171 : zck 171 = true := by decide +kernel
set_option maxRecDepth 100000 in
theorem zck_172 : zck 172 = true := by decide +kernel
set_option maxRecDepth 100000 in
theorem zck_173 : zck 173 = true := by decide +kernel
set_option maxRecDepth 100000 in
theorem zck_174 : zck 174 = true := by decide +kernel
set_option maxRecDepth 100000 in
theorem zck_175 : zck 175 = true := by decide +kernel
set_option maxRecDepth 100000 in
theorem zck_176 : zck 176 = true := by decide +kernel
set_option maxRecDepth 100000 in
theorem zck_177 : zck 177 = true := by decide +kernel
set_option maxRecDepth 100000 in
theorem zck_178 : zck 178 = true := by decide +kernel
set_option maxRecDepth 100000 in
theorem zck_179 : zck 179 = true := by decide +kernel
set_option maxRecDepth 100000 in
theorem zck_180 : zck 180 = true := by decide +kernel
set_option maxRecDepth 100000 in
theorem zck_181 : zck 181 = true := by decide +kernel
set_option maxRecDepth 100000 in
theorem zck_182 : zck 182 = true := by decide +kernel
set_option maxRecDepth 100000 in
theorem zck_183 : zck 183 = true := by decide +kernel
set_option maxRecDepth 100000 in
theorem zck_184 : zck 184 = true := by decide +kernel
set_option maxRecDepth 100000 in
theorem zck_185 : zck 185 = true := by decide +kernel
set_option maxRecDepth 100000 in
theorem zck_186 : zck 186 = true := by decide +kernel
set_option maxRecDepth 100000 in
theorem zck_187 : zck 187 = true := by decide +kernel

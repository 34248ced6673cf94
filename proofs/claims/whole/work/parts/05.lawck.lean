def zckr (m lo n : Nat) : Bool := (List.range n).all (fun d => match zi m (lo + d) with | none => true | some e => zec m (lo + d) e)
theorem zckr_at {m lo n : Nat} (h : zckr m lo n = true) {pc : Nat} (h1 : lo ≤ pc) (h2 : pc < lo + n) : (match zi m pc with | none => true | some e => zec m pc e) = true := by
  have := List.all_eq_true.mp h (pc - lo) (List.mem_range.mpr (by omega))
  rwa [show lo + (pc - lo) = pc by omega] at this
set_option maxRecDepth 100000 in
theorem zckL_0 : zckr 188 0 48 = true := by decide +kernel
set_option maxRecDepth 100000 in
theorem zckL_1 : zckr 188 48 48 = true := by decide +kernel
set_option maxRecDepth 100000 in
theorem zckL_2 : zckr 188 96 48 = true := by decide +kernel
set_option maxRecDepth 100000 in
theorem zckL_3 : zckr 188 144 48 = true := by decide +kernel
set_option maxRecDepth 100000 in
theorem zckL_4 : zckr 188 192 48 = true := by decide +kernel
set_option maxRecDepth 100000 in
theorem zckL_5 : zckr 188 240 48 = true := by decide +kernel
set_option maxRecDepth 100000 in
theorem zckL_6 : zckr 188 288 48 = true := by decide +kernel
set_option maxRecDepth 100000 in
theorem zckL_7 : zckr 188 336 48 = true := by decide +kernel
set_option maxRecDepth 100000 in
theorem zckL_8 : zckr 188 384 48 = true := by decide +kernel
set_option maxRecDepth 100000 in
theorem zckL_9 : zckr 188 432 48 = true := by decide +kernel
set_option maxRecDepth 100000 in
theorem zckL_10 : zckr 188 480 48 = true := by decide +kernel
set_option maxRecDepth 100000 in
theorem zckL_11 : zckr 188 528 48 = true := by decide +kernel
set_option maxRecDepth 100000 in
theorem zckL_12 : zckr 188 576 48 = true := by decide +kernel
set_option maxRecDepth 100000 in
theorem zckL_13 : zckr 188 624 48 = true := by decide +kernel
set_option maxRecDepth 100000 in
theorem zckL_14 : zckr 188 672 48 = true := by decide +kernel
set_option maxRecDepth 100000 in
theorem zckL_15 : zckr 188 720 48 = true := by decide +kernel
set_option maxRecDepth 100000 in
theorem zckL_16 : zckr 188 768 48 = true := by decide +kernel
set_option maxRecDepth 100000 in
theorem zckL_17 : zckr 188 816 48 = true := by decide +kernel
set_option maxRecDepth 100000 in
theorem zckL_18 : zckr 188 864 48 = true := by decide +kernel
set_option maxRecDepth 100000 in
theorem zckL_19 : zckr 188 912 48 = true := by decide +kernel
set_option maxRecDepth 100000 in
theorem zckL_20 : zckr 188 960 48 = true := by decide +kernel
set_option maxRecDepth 100000 in
theorem zckL_21 : zckr 188 1008 48 = true := by decide +kernel
set_option maxRecDepth 100000 in
theorem zckL_22 : zckr 188 1056 48 = true := by decide +kernel
set_option maxRecDepth 100000 in
theorem zckL_23 : zckr 188 1104 48 = true := by decide +kernel
set_option maxRecDepth 100000 in
theorem zckL_24 : zckr 188 1152 48 = true := by decide +kernel
set_option maxRecDepth 100000 in
theorem zckL_25 : zckr 188 1200 48 = true := by decide +kernel
set_option maxRecDepth 100000 in
theorem zckL_26 : zckr 188 1248 48 = true := by decide +kernel
set_option maxRecDepth 100000 in
theorem zckL_27 : zckr 188 1296 48 = true := by decide +kernel
set_option maxRecDepth 100000 in
theorem zckL_28 : zckr 188 1344 48 = true := by decide +kernel
set_option maxRecDepth 100000 in
theorem zckL_29 : zckr 188 1392 48 = true := by decide +kernel
set_option maxRecDepth 100000 in
theorem zckL_30 : zckr 188 1440 15 = true := by decide +kernel
theorem zck_188 : zck 188 = true := by
  refine List.all_eq_true.mpr (fun pc h => ?_)
  have hp : pc < 1455 := List.mem_range.mp h
  by_cases h0 : pc < 48
  · exact zckr_at zckL_0 (by omega) (by omega)
  by_cases h1 : pc < 96
  · exact zckr_at zckL_1 (by omega) (by omega)
  by_cases h2 : pc < 144
  · exact zckr_at zckL_2 (by omega) (by omega)
  by_cases h3 : pc < 192
  · exact zckr_at zckL_3 (by omega) (by omega)
  by_cases h4 : pc < 240
  · exact zckr_at zckL_4 (by omega) (by omega)
  by_cases h5 : pc < 288
  · exact zckr_at zckL_5 (by omega) (by omega)
  by_cases h6 : pc < 336
  · exact zckr_at zckL_6 (by omega) (by omega)
  by_cases h7 : pc < 384
  · exact zckr_at zckL_7 (by omega) (by omega)
  by_cases h8 : pc < 432
  · exact zckr_at zckL_8 (by omega) (by omega)
  by_cases h9 : pc < 480
  · exact zckr_at zckL_9 (by omega) (by omega)
  by_cases h10 : pc < 528
  · exact zckr_at zckL_10 (by omega) (by omega)
  by_cases h11 : pc < 576
  · exact zckr_at zckL_11 (by omega) (by omega)
  by_cases h12 : pc < 624
  · exact zckr_at zckL_12 (by omega) (by omega)
  by_cases h13 : pc < 672
  · exact zckr_at zckL_13 (by omega) (by omega)
  by_cases h14 : pc < 720
  · exact zckr_at zckL_14 (by omega) (by omega)
  by_cases h15 : pc < 768
  · exact zckr_at zckL_15 (by omega) (by omega)
  by_cases h16 : pc < 816
  · exact zckr_at zckL_16 (by omega) (by omega)
  by_cases h17 : pc < 864
  · exact zckr_at zckL_17 (by omega) (by omega)
  by_cases h18 : pc < 912
  · exact zckr_at zckL_18 (by omega) (by omega)
  by_cases h19 : pc < 960
  · exact zckr_at zckL_19 (by omega) (by omega)
  by_cases h20 : pc < 1008
  · exact zckr_at zckL_20 (by omega) (by omega)
  by_cases h21 : pc < 1056
  · exact zckr_at zckL_21 (by omega) (by omega)
  by_cases h22 : pc < 1104
  · exact zckr_at zckL_22 (by omega) (by omega)
  by_cases h23 : pc < 1152
  · exact zckr_at zckL_23 (by omega) (by omega)
  by_cases h24 : pc < 1200
  · exact zckr_at zckL_24 (by omega) (by omega)
  by_cases h25 : pc < 1248
  · exact zckr_at zckL_25 (by omega) (by omega)
  by_cases h26 : pc < 1296
  · exact zckr_at zckL_26 (by omega) (by omega)
  by_cases h27 : pc < 1344
  · exact zckr_at zckL_27 (by omega) (by omega)
  by_cases h28 : pc < 1392
  · exact zckr_at zckL_28 (by omega) (by omega)
  by_cases h29 : pc < 1440
  · exact zckr_at zckL_29 (by omega) (by omega)
  exact zckr_at zckL_30 (by omega) (by omega)
theorem zck_all (m : Nat) (h : m < 189) : zck m = true := by
  match m, h with
  | 0, _ => exact zck_0
  | 1, _ => exact zck_1
  | 2, _ => exact zck_2
  | 3, _ => exact zck_3
  | 4, _ => exact zck_4
  | 5, _ => exact zck_5
  | 6, _ => exact zck_6
  | 7, _ => exact zck_7
  | 8, _ => exact zck_8
  | 9, _ => exact zck_9
  | 10, _ => exact zck_10
  | 11, _ => exact zck_11
  | 12, _ => exact zck_12
  | 13, _ => exact zck_13
  | 14, _ => exact zck_14
  | 15, _ => exact zck_15
  | 16, _ => exact zck_16
  | 17, _ => exact zck_17
  | 18, _ => exact zck_18
  | 19, _ => exact zck_19
  | 20, _ => exact zck_20
  | 21, _ => exact zck_21
  | 22, _ => exact zck_22
  | 23, _ => exact zck_23
  | 24, _ => exact zck_24
  | 25, _ => exact zck_25
  | 26, _ => exact zck_26
  | 27, _ => exact zck_27
  | 28, _ => exact zck_28
  | 29, _ => exact zck_29
  | 30, _ => exact zck_30
  | 31, _ => exact zck_31
  | 32, _ => exact zck_32
  | 33, _ => exact zck_33
  | 34, _ => exact zck_34
  | 35, _ => exact zck_35
  | 36, _ => exact zck_36
  | 37, _ => exact zck_37
  | 38, _ => exact zck_38
  | 39, _ => exact zck_39
  | 40, _ => exact zck_40
  | 41, _ => exact zck_41
  | 42, _ => exact zck_42
  | 43, _ => exact zck_43
  | 44, _ => exact zck_44
  | 45, _ => exact zck_45
  | 46, _ => exact zck_46
  | 47, _ => exact zck_47
  | 48, _ => exact zck_48
  | 49, _ => exact zck_49
  | 50, _ => exact zck_50
  | 51, _ => exact zck_51
  | 52, _ => exact zck_52
  | 53, _ => exact zck_53
  | 54, _ => exact zck_54
  | 55, _ => exact zck_55
  | 56, _ => exact zck_56
  | 57, _ => exact zck_57
  | 58, _ => exact zck_58
  | 59, _ => exact zck_59
  | 60, _ => exact zck_60
  | 61, _ => exact zck_61
  | 62, _ => exact zck_62
  | 63, _ => exact zck_63
  | 64, _ => exact zck_64
  | 65, _ => exact zck_65
  | 66, _ => exact zck_66
  | 67, _ => exact zck_67
  | 68, _ => exact zck_68
  | 69, _ => exact zck_69
  | 70, _ => exact zck_70
  | 71, _ => exact zck_71
  | 72, _ => exact zck_72
  | 73, _ => exact zck_73
  | 74, _ => exact zck_74
  | 75, _ => exact zck_75
  | 76, _ => exact zck_76
  | 77, _ => exact zck_77
  | 78, _ => exact zck_78
  | 79, _ => exact zck_79
  | 80, _ => exact zck_80
  | 81, _ => exact zck_81
  | 82, _ => exact zck_82
  | 83, _ => exact zck_83
  | 84, _ => exact zck_84
  | 85, _ => exact zck_85
  | 86, _ => exact zck_86
  | 87, _ => exact zck_87
  | 88, _ => exact zck_88
  | 89, _ => exact zck_89
  | 90, _ => exact zck_90
  | 91, _ => exact zck_91
  | 92, _ => exact zck_92
  | 93, _ => exact zck_93
  | 94, _ => exact zck_94
  | 95, _ => exact zck_95
  | 96, _ => exact zck_96
  | 97, _ => exact zck_97
  | 98, _ => exact zck_98
  | 99, _ => exact zck_99
  | 100, _ => exact zck_100
  | 101, _ => exact zck_101
  | 102, _ => exact zck_102
  | 103, _ => exact zck_103
  | 104, _ => exact zck_104
  | 105, _ => exact zck_105
  | 106, _ => exact zck_106
  | 107, _ => exact zck_107
  | 108, _ => exact zck_108
  | 109, _ => exact zck_109
  | 110, _ => exact zck_110
  | 111, _ => exact zck_111
  | 112, _ => exact zck_112
  | 113, _ => exact zck_113
  | 114, _ => exact zck_114
  | 115, _ => exact zck_115
  | 116, _ => exact zck_116
  | 117, _ => exact zck_117
  | 118, _ => exact zck_118
  | 119, _ => exact zck_119
  | 120, _ => exact zck_120
  | 121, _ => exact zck_121
  | 122, _ => exact zck_122
  | 123, _ => exact zck_123
  | 124, _ => exact zck_124
  | 125, _ => exact zck_125
  | 126, _ => exact zck_126
  | 127, _ => exact zck_127
  | 128, _ => exact zck_128
  | 129, _ => exact zck_129
  | 130, _ => exact zck_130
  | 131, _ => exact zck_131
  | 132, _ => exact zck_132
  | 133, _ => exact zck_133
  | 134, _ => exact zck_134
  | 135, _ => exact zck_135
  | 136, _ => exact zck_136
  | 137, _ => exact zck_137
  | 138, _ => exact zck_138
  | 139, _ => exact zck_139
  | 140, _ => exact zck_140
  | 141, _ => exact zck_141
  | 142, _ => exact zck_142
  | 143, _ => exact zck_143
  | 144, _ => exact zck_144
  | 145, _ => exact zck_145
  | 146, _ => exact zck_146
  | 147, _ => exact zck_147
  | 148, _ => exact zck_148
  | 149, _ => exact zck_149
  | 150, _ => exact zck_150
  | 151, _ => exact zck_151
  | 152, _ => exact zck_152
  | 153, _ => exact zck_153
  | 154, _ => exact zck_154
  | 155, _ => exact zck_155
  | 156, _ => exact zck_156
  | 157, _ => exact zck_157
  | 158, _ => exact zck_158
  | 159, _ => exact zck_159
  | 160, _ => exact zck_160
  | 161, _ => exact zck_161
  | 162, _ => exact zck_162
  | 163, _ => exact zck_163
  | 164, _ => exact zck_164
  | 165, _ => exact zck_165
  | 166, _ => exact zck_166
  | 167, _ => exact zck_167
  | 168, _ => exact zck_168
  | 169, _ => exact zck_169
  | 170, _ => exact zck_170
  | 171, _ => exact zck_171
  | 172, _ => exact zck_172
  | 173, _ => exact zck_173
  | 174, _ => exact zck_174
  | 175, _ => exact zck_175
  | 176, _ => exact zck_176
  | 177, _ => exact zck_177
  | 178, _ => exact zck_178
  | 179, _ => exact zck_179
  | 180, _ => exact zck_180
  | 181, _ => exact zck_181
  | 182, _ => exact zck_182
  | 183, _ => exact zck_183
  | 184, _ => exact zck_184
  | 185, _ => exact zck_185
  | 186, _ => exact zck_186
  | 187, _ => exact zck_187
  | 188, _ => exact zck_188
  | n + 189, h => exact absurd h (by omega)

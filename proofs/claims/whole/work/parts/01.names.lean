-- ===== PART A: goes FIRST, ahead of the names: the tables' words, and 'selects' of the private methods out of them =====
/-- a private method of a class that the tables say can be made, by its rows of tables_1 -/
def lw_okq (q : MethodName × Nat) : Prop := (q.1.cls ≠ "java/lang/invoke/MethodHandle" ∧ q.1.cls ≠ "java/lang/invoke/VarHandle") ∧ Cond.instantiable q.1.cls q.2 ∈ tables_1 ∧ Cond.privateMethod q.1 ∈ tables_1 ∧ Cond.instanceMethod q.1 ∈ tables_1
theorem lw_p0 : lw_okq (⟨"SnowSchool", "finding", "(I)I"⟩, 6) := ⟨⟨by decide +kernel, by decide +kernel⟩, List.mem_of_getElem? (i := 18) (by decide +kernel), List.mem_of_getElem? (i := 382) (by decide +kernel), List.mem_of_getElem? (i := 383) (by decide +kernel)⟩
theorem lw_p1 : lw_okq (⟨"SnowSchool$Roll", "acquaint", "(LSnowSchool$Teacher;I)V"⟩, 10) := ⟨⟨by decide +kernel, by decide +kernel⟩, List.mem_of_getElem? (i := 26) (by decide +kernel), List.mem_of_getElem? (i := 390) (by decide +kernel), List.mem_of_getElem? (i := 391) (by decide +kernel)⟩
theorem lw_p2 : lw_okq (⟨"SnowSchool", "orFull", "(I)I"⟩, 6) := ⟨⟨by decide +kernel, by decide +kernel⟩, List.mem_of_getElem? (i := 18) (by decide +kernel), List.mem_of_getElem? (i := 395) (by decide +kernel), List.mem_of_getElem? (i := 396) (by decide +kernel)⟩
theorem lw_p3 : lw_okq (⟨"SnowSchool$Planner", "priceAllSets", "(LSnowSchool$Roll;IZ)V"⟩, 6) := ⟨⟨by decide +kernel, by decide +kernel⟩, List.mem_of_getElem? (i := 198) (by decide +kernel), List.mem_of_getElem? (i := 545) (by decide +kernel), List.mem_of_getElem? (i := 546) (by decide +kernel)⟩
theorem lw_p4 : lw_okq (⟨"SnowSchool$Planner", "placeBy", "(II)V"⟩, 6) := ⟨⟨by decide +kernel, by decide +kernel⟩, List.mem_of_getElem? (i := 198) (by decide +kernel), List.mem_of_getElem? (i := 584) (by decide +kernel), List.mem_of_getElem? (i := 585) (by decide +kernel)⟩
theorem lw_p5 : lw_okq (⟨"SnowSchool$Planner", "classesFor", "(I)I"⟩, 6) := ⟨⟨by decide +kernel, by decide +kernel⟩, List.mem_of_getElem? (i := 198) (by decide +kernel), List.mem_of_getElem? (i := 588) (by decide +kernel), List.mem_of_getElem? (i := 589) (by decide +kernel)⟩
theorem lw_p6 : lw_okq (⟨"SnowSchool$Planner", "placeEachOf", "(I[JI)V"⟩, 6) := ⟨⟨by decide +kernel, by decide +kernel⟩, List.mem_of_getElem? (i := 198) (by decide +kernel), List.mem_of_getElem? (i := 593) (by decide +kernel), List.mem_of_getElem? (i := 594) (by decide +kernel)⟩
theorem lw_p7 : lw_okq (⟨"SnowSchool$Mountain", "reach", "(IIZ)I"⟩, 6) := ⟨⟨by decide +kernel, by decide +kernel⟩, List.mem_of_getElem? (i := 227) (by decide +kernel), List.mem_of_getElem? (i := 662) (by decide +kernel), List.mem_of_getElem? (i := 663) (by decide +kernel)⟩
theorem lw_p8 : lw_okq (⟨"SnowSchool$Mountain", "join", "(LSnowSchool$Way;Z)V"⟩, 6) := ⟨⟨by decide +kernel, by decide +kernel⟩, List.mem_of_getElem? (i := 227) (by decide +kernel), List.mem_of_getElem? (i := 671) (by decide +kernel), List.mem_of_getElem? (i := 672) (by decide +kernel)⟩
theorem lw_p9 : lw_okq (⟨"SnowSchool$Mountain", "flood", "()I"⟩, 6) := ⟨⟨by decide +kernel, by decide +kernel⟩, List.mem_of_getElem? (i := 227) (by decide +kernel), List.mem_of_getElem? (i := 676) (by decide +kernel), List.mem_of_getElem? (i := 677) (by decide +kernel)⟩
theorem lw_p10 : lw_okq (⟨"SnowSchool$Diary", "suitsDay", "(LSnowSchool$Ask;LSnowSchool$Teacher;)Z"⟩, 5) := ⟨⟨by decide +kernel, by decide +kernel⟩, List.mem_of_getElem? (i := 278) (by decide +kernel), List.mem_of_getElem? (i := 751) (by decide +kernel), List.mem_of_getElem? (i := 752) (by decide +kernel)⟩
theorem lw_p11 : lw_okq (⟨"SnowSchoolModel", "finds", "(I)I"⟩, 46) := ⟨⟨by decide +kernel, by decide +kernel⟩, List.mem_of_getElem? (i := 834) (by decide +kernel), List.mem_of_getElem? (i := 988) (by decide +kernel), List.mem_of_getElem? (i := 989) (by decide +kernel)⟩
theorem lw_p12 : lw_okq (⟨"SnowSchoolModel", "isTeacher", "(I)Z"⟩, 46) := ⟨⟨by decide +kernel, by decide +kernel⟩, List.mem_of_getElem? (i := 834) (by decide +kernel), List.mem_of_getElem? (i := 1001) (by decide +kernel), List.mem_of_getElem? (i := 1002) (by decide +kernel)⟩
theorem lw_p13 : lw_okq (⟨"SnowSchoolModel", "isPupil", "(I)Z"⟩, 46) := ⟨⟨by decide +kernel, by decide +kernel⟩, List.mem_of_getElem? (i := 834) (by decide +kernel), List.mem_of_getElem? (i := 1005) (by decide +kernel), List.mem_of_getElem? (i := 1006) (by decide +kernel)⟩
theorem lw_p14 : lw_okq (⟨"SnowSchoolModel", "isMaster", "(I)Z"⟩, 46) := ⟨⟨by decide +kernel, by decide +kernel⟩, List.mem_of_getElem? (i := 834) (by decide +kernel), List.mem_of_getElem? (i := 1009) (by decide +kernel), List.mem_of_getElem? (i := 1010) (by decide +kernel)⟩
theorem lw_p15 : lw_okq (⟨"SnowSchoolModel", "isChild", "(I)Z"⟩, 46) := ⟨⟨by decide +kernel, by decide +kernel⟩, List.mem_of_getElem? (i := 834) (by decide +kernel), List.mem_of_getElem? (i := 1013) (by decide +kernel), List.mem_of_getElem? (i := 1014) (by decide +kernel)⟩
def lw_privs_1 : List (MethodName × Nat) := [(⟨"SnowSchool", "finding", "(I)I"⟩, 6), (⟨"SnowSchool$Roll", "acquaint", "(LSnowSchool$Teacher;I)V"⟩, 10), (⟨"SnowSchool", "orFull", "(I)I"⟩, 6), (⟨"SnowSchool$Planner", "priceAllSets", "(LSnowSchool$Roll;IZ)V"⟩, 6), (⟨"SnowSchool$Planner", "placeBy", "(II)V"⟩, 6), (⟨"SnowSchool$Planner", "classesFor", "(I)I"⟩, 6), (⟨"SnowSchool$Planner", "placeEachOf", "(I[JI)V"⟩, 6), (⟨"SnowSchool$Mountain", "reach", "(IIZ)I"⟩, 6), (⟨"SnowSchool$Mountain", "join", "(LSnowSchool$Way;Z)V"⟩, 6), (⟨"SnowSchool$Mountain", "flood", "()I"⟩, 6), (⟨"SnowSchool$Diary", "suitsDay", "(LSnowSchool$Ask;LSnowSchool$Teacher;)Z"⟩, 5), (⟨"SnowSchoolModel", "finds", "(I)I"⟩, 46), (⟨"SnowSchoolModel", "isTeacher", "(I)Z"⟩, 46), (⟨"SnowSchoolModel", "isPupil", "(I)Z"⟩, 46), (⟨"SnowSchoolModel", "isMaster", "(I)Z"⟩, 46), (⟨"SnowSchoolModel", "isChild", "(I)Z"⟩, 46)]
theorem lw_r1 : ∀ q ∈ lw_privs_1, lw_okq q := List.forall_mem_cons.mpr ⟨lw_p0, List.forall_mem_cons.mpr ⟨lw_p1, List.forall_mem_cons.mpr ⟨lw_p2, List.forall_mem_cons.mpr ⟨lw_p3, List.forall_mem_cons.mpr ⟨lw_p4, List.forall_mem_cons.mpr ⟨lw_p5, List.forall_mem_cons.mpr ⟨lw_p6, List.forall_mem_cons.mpr ⟨lw_p7, List.forall_mem_cons.mpr ⟨lw_p8, List.forall_mem_cons.mpr ⟨lw_p9, List.forall_mem_cons.mpr ⟨lw_p10, List.forall_mem_cons.mpr ⟨lw_p11, List.forall_mem_cons.mpr ⟨lw_p12, List.forall_mem_cons.mpr ⟨lw_p13, List.forall_mem_cons.mpr ⟨lw_p14, List.forall_mem_cons.mpr ⟨lw_p15, fun _ h => absurd h List.not_mem_nil⟩⟩⟩⟩⟩⟩⟩⟩⟩⟩⟩⟩⟩⟩⟩⟩
theorem lw_p16 : lw_okq (⟨"SnowSchoolModel", "teacherOf", "(I)I"⟩, 46) := ⟨⟨by decide +kernel, by decide +kernel⟩, List.mem_of_getElem? (i := 834) (by decide +kernel), List.mem_of_getElem? (i := 1022) (by decide +kernel), List.mem_of_getElem? (i := 1023) (by decide +kernel)⟩
theorem lw_p17 : lw_okq (⟨"SnowSchoolModel", "sees", "(III)Z"⟩, 46) := ⟨⟨by decide +kernel, by decide +kernel⟩, List.mem_of_getElem? (i := 834) (by decide +kernel), List.mem_of_getElem? (i := 1045) (by decide +kernel), List.mem_of_getElem? (i := 1046) (by decide +kernel)⟩
theorem lw_p18 : lw_okq (⟨"SnowSchoolModel", "isSet", "(I)Z"⟩, 46) := ⟨⟨by decide +kernel, by decide +kernel⟩, List.mem_of_getElem? (i := 834) (by decide +kernel), List.mem_of_getElem? (i := 1062) (by decide +kernel), List.mem_of_getElem? (i := 1063) (by decide +kernel)⟩
theorem lw_p19 : lw_okq (⟨"SnowSchoolModel", "levelOf", "(I)I"⟩, 46) := ⟨⟨by decide +kernel, by decide +kernel⟩, List.mem_of_getElem? (i := 834) (by decide +kernel), List.mem_of_getElem? (i := 1066) (by decide +kernel), List.mem_of_getElem? (i := 1067) (by decide +kernel)⟩
theorem lw_p20 : lw_okq (⟨"SnowSchoolModel", "mayTeach", "(II)I"⟩, 46) := ⟨⟨by decide +kernel, by decide +kernel⟩, List.mem_of_getElem? (i := 834) (by decide +kernel), List.mem_of_getElem? (i := 1075) (by decide +kernel), List.mem_of_getElem? (i := 1076) (by decide +kernel)⟩
theorem lw_p21 : lw_okq (⟨"SnowSchoolModel", "areOfTongue", "(II)Z"⟩, 46) := ⟨⟨by decide +kernel, by decide +kernel⟩, List.mem_of_getElem? (i := 834) (by decide +kernel), List.mem_of_getElem? (i := 1079) (by decide +kernel), List.mem_of_getElem? (i := 1080) (by decide +kernel)⟩
theorem lw_p22 : lw_okq (⟨"SnowSchoolModel", "hasKind", "(II)Z"⟩, 46) := ⟨⟨by decide +kernel, by decide +kernel⟩, List.mem_of_getElem? (i := 834) (by decide +kernel), List.mem_of_getElem? (i := 1086) (by decide +kernel), List.mem_of_getElem? (i := 1087) (by decide +kernel)⟩
theorem lw_p23 : lw_okq (⟨"SnowSchoolModel", "areNearInAge", "(I)Z"⟩, 46) := ⟨⟨by decide +kernel, by decide +kernel⟩, List.mem_of_getElem? (i := 834) (by decide +kernel), List.mem_of_getElem? (i := 1090) (by decide +kernel), List.mem_of_getElem? (i := 1091) (by decide +kernel)⟩
theorem lw_p24 : lw_okq (⟨"SnowSchoolModel", "areFriendsIn", "(I)Z"⟩, 46) := ⟨⟨by decide +kernel, by decide +kernel⟩, List.mem_of_getElem? (i := 834) (by decide +kernel), List.mem_of_getElem? (i := 1094) (by decide +kernel), List.mem_of_getElem? (i := 1095) (by decide +kernel)⟩
theorem lw_p25 : lw_okq (⟨"SnowSchoolModel", "findClassing", "(Z)I"⟩, 46) := ⟨⟨by decide +kernel, by decide +kernel⟩, List.mem_of_getElem? (i := 834) (by decide +kernel), List.mem_of_getElem? (i := 1102) (by decide +kernel), List.mem_of_getElem? (i := 1103) (by decide +kernel)⟩
theorem lw_p26 : lw_okq (⟨"SnowSchoolModel", "allHere", "()I"⟩, 46) := ⟨⟨by decide +kernel, by decide +kernel⟩, List.mem_of_getElem? (i := 834) (by decide +kernel), List.mem_of_getElem? (i := 1106) (by decide +kernel), List.mem_of_getElem? (i := 1107) (by decide +kernel)⟩
theorem lw_p27 : lw_okq (⟨"SnowSchoolModel", "costOf", "(IIZ)I"⟩, 46) := ⟨⟨by decide +kernel, by decide +kernel⟩, List.mem_of_getElem? (i := 834) (by decide +kernel), List.mem_of_getElem? (i := 1111) (by decide +kernel), List.mem_of_getElem? (i := 1112) (by decide +kernel)⟩
theorem lw_p28 : lw_okq (⟨"SnowSchoolModel", "become", "()I"⟩, 46) := ⟨⟨by decide +kernel, by decide +kernel⟩, List.mem_of_getElem? (i := 834) (by decide +kernel), List.mem_of_getElem? (i := 1115) (by decide +kernel), List.mem_of_getElem? (i := 1116) (by decide +kernel)⟩
theorem lw_p29 : lw_okq (⟨"SnowSchoolModel", "reach", "(IZI)I"⟩, 46) := ⟨⟨by decide +kernel, by decide +kernel⟩, List.mem_of_getElem? (i := 834) (by decide +kernel), List.mem_of_getElem? (i := 1154) (by decide +kernel), List.mem_of_getElem? (i := 1155) (by decide +kernel)⟩
theorem lw_p30 : lw_okq (⟨"SnowSchoolModel", "isNamed", "(II)Z"⟩, 46) := ⟨⟨by decide +kernel, by decide +kernel⟩, List.mem_of_getElem? (i := 834) (by decide +kernel), List.mem_of_getElem? (i := 1172) (by decide +kernel), List.mem_of_getElem? (i := 1173) (by decide +kernel)⟩
theorem lw_p31 : lw_okq (⟨"SnowSchoolModel", "isAsk", "(I)Z"⟩, 46) := ⟨⟨by decide +kernel, by decide +kernel⟩, List.mem_of_getElem? (i := 834) (by decide +kernel), List.mem_of_getElem? (i := 1201) (by decide +kernel), List.mem_of_getElem? (i := 1202) (by decide +kernel)⟩
def lw_privs_2 : List (MethodName × Nat) := [(⟨"SnowSchoolModel", "teacherOf", "(I)I"⟩, 46), (⟨"SnowSchoolModel", "sees", "(III)Z"⟩, 46), (⟨"SnowSchoolModel", "isSet", "(I)Z"⟩, 46), (⟨"SnowSchoolModel", "levelOf", "(I)I"⟩, 46), (⟨"SnowSchoolModel", "mayTeach", "(II)I"⟩, 46), (⟨"SnowSchoolModel", "areOfTongue", "(II)Z"⟩, 46), (⟨"SnowSchoolModel", "hasKind", "(II)Z"⟩, 46), (⟨"SnowSchoolModel", "areNearInAge", "(I)Z"⟩, 46), (⟨"SnowSchoolModel", "areFriendsIn", "(I)Z"⟩, 46), (⟨"SnowSchoolModel", "findClassing", "(Z)I"⟩, 46), (⟨"SnowSchoolModel", "allHere", "()I"⟩, 46), (⟨"SnowSchoolModel", "costOf", "(IIZ)I"⟩, 46), (⟨"SnowSchoolModel", "become", "()I"⟩, 46), (⟨"SnowSchoolModel", "reach", "(IZI)I"⟩, 46), (⟨"SnowSchoolModel", "isNamed", "(II)Z"⟩, 46), (⟨"SnowSchoolModel", "isAsk", "(I)Z"⟩, 46)]
theorem lw_r2 : ∀ q ∈ lw_privs_2, lw_okq q := List.forall_mem_cons.mpr ⟨lw_p16, List.forall_mem_cons.mpr ⟨lw_p17, List.forall_mem_cons.mpr ⟨lw_p18, List.forall_mem_cons.mpr ⟨lw_p19, List.forall_mem_cons.mpr ⟨lw_p20, List.forall_mem_cons.mpr ⟨lw_p21, List.forall_mem_cons.mpr ⟨lw_p22, List.forall_mem_cons.mpr ⟨lw_p23, List.forall_mem_cons.mpr ⟨lw_p24, List.forall_mem_cons.mpr ⟨lw_p25, List.forall_mem_cons.mpr ⟨lw_p26, List.forall_mem_cons.mpr ⟨lw_p27, List.forall_mem_cons.mpr ⟨lw_p28, List.forall_mem_cons.mpr ⟨lw_p29, List.forall_mem_cons.mpr ⟨lw_p30, List.forall_mem_cons.mpr ⟨lw_p31, fun _ h => absurd h List.not_mem_nil⟩⟩⟩⟩⟩⟩⟩⟩⟩⟩⟩⟩⟩⟩⟩⟩
theorem lw_p32 : lw_okq (⟨"SnowSchoolModel", "isFree", "(I)Z"⟩, 46) := ⟨⟨by decide +kernel, by decide +kernel⟩, List.mem_of_getElem? (i := 834) (by decide +kernel), List.mem_of_getElem? (i := 1205) (by decide +kernel), List.mem_of_getElem? (i := 1206) (by decide +kernel)⟩
theorem lw_p33 : lw_okq (⟨"SnowSchoolModel", "areApart", "(II)Z"⟩, 46) := ⟨⟨by decide +kernel, by decide +kernel⟩, List.mem_of_getElem? (i := 834) (by decide +kernel), List.mem_of_getElem? (i := 1209) (by decide +kernel), List.mem_of_getElem? (i := 1210) (by decide +kernel)⟩
theorem lw_p34 : lw_okq (⟨"SnowSchoolModel", "isFreeAlone", "(I)Z"⟩, 46) := ⟨⟨by decide +kernel, by decide +kernel⟩, List.mem_of_getElem? (i := 834) (by decide +kernel), List.mem_of_getElem? (i := 1213) (by decide +kernel), List.mem_of_getElem? (i := 1214) (by decide +kernel)⟩
theorem lw_p35 : lw_okq (⟨"SnowSchoolModel", "choiceOf", "(I)I"⟩, 46) := ⟨⟨by decide +kernel, by decide +kernel⟩, List.mem_of_getElem? (i := 834) (by decide +kernel), List.mem_of_getElem? (i := 1225) (by decide +kernel), List.mem_of_getElem? (i := 1226) (by decide +kernel)⟩
theorem lw_p36 : lw_okq (⟨"SnowSchoolModel", "payOf", "(II)I"⟩, 46) := ⟨⟨by decide +kernel, by decide +kernel⟩, List.mem_of_getElem? (i := 834) (by decide +kernel), List.mem_of_getElem? (i := 1229) (by decide +kernel), List.mem_of_getElem? (i := 1230) (by decide +kernel)⟩
def lw_privs_3 : List (MethodName × Nat) := [(⟨"SnowSchoolModel", "isFree", "(I)Z"⟩, 46), (⟨"SnowSchoolModel", "areApart", "(II)Z"⟩, 46), (⟨"SnowSchoolModel", "isFreeAlone", "(I)Z"⟩, 46), (⟨"SnowSchoolModel", "choiceOf", "(I)I"⟩, 46), (⟨"SnowSchoolModel", "payOf", "(II)I"⟩, 46)]
theorem lw_r3 : ∀ q ∈ lw_privs_3, lw_okq q := List.forall_mem_cons.mpr ⟨lw_p32, List.forall_mem_cons.mpr ⟨lw_p33, List.forall_mem_cons.mpr ⟨lw_p34, List.forall_mem_cons.mpr ⟨lw_p35, List.forall_mem_cons.mpr ⟨lw_p36, fun _ h => absurd h List.not_mem_nil⟩⟩⟩⟩⟩
def lw_privs : List (MethodName × Nat) := lw_privs_1 ++ (lw_privs_2 ++ (lw_privs_3))
def lw_tbl : List Cond := k2_sels lw_privs ++ tables_1
theorem lw_privs_ok : ∀ q ∈ lw_privs, lw_okq q := by
  show ∀ q ∈ lw_privs_1 ++ (lw_privs_2 ++ (lw_privs_3)), lw_okq q
  exact List.forall_mem_append.mpr ⟨lw_r1, List.forall_mem_append.mpr ⟨lw_r2, lw_r3⟩⟩
def RX0 : String := "SnowSchool$Ask"
def TX0 : u_T := fun k => match k with
  | 0 => ("SnowSchool$Ask", "teacher", "I", false)
  | 1 => ("SnowSchool$Ask", "from", "I", false)
  | 2 => ("SnowSchool$Ask", "to", "I", false)
  | 3 => ("SnowSchool$Ask", "pay", "I", false)
  | _ => ("SnowSchool$Ask", "isBooked", "Z", false)
def tyX0 : Nat → FieldType := fun k => match k with
  | 0 => .int
  | 1 => .int
  | 2 => .int
  | 3 => .int
  | _ => .boolean
abbrev wsX00 : List Cond := u_ws RX0 TX0 5
theorem nmX0 : ∀ a, a < 5 → ∀ b, b < 5 → a ≠ b → (TX0 a).2.1 ≠ (TX0 b).2.1 := by decide +kernel
theorem tyX0_ok : ∀ k, k < 5 → parseFieldDescriptor (TX0 k).2.2.1 = some (tyX0 k) := by decide +kernel
abbrev cX0_init : ByteArray := prog_2_method_1_code
def yX0_init : MethodName := ⟨RX0, "<init>", "()V"⟩
abbrev cX0_meets : ByteArray := prog_2_method_2_code
def yX0_meets : MethodName := ⟨RX0, "meets", "(II)Z"⟩
def RX1 : String := "SnowSchool$Diary"
def TX1 : u_T := fun k => match k with
  | 0 => ("SnowSchool$Diary", "asks", "[LSnowSchool$Ask;", true)
  | 1 => ("SnowSchool$Diary", "askCount", "I", false)
  | 2 => ("SnowSchool$Diary", "firstHour", "I", false)
  | 3 => ("SnowSchool$Diary", "lastHour", "I", false)
  | _ => ("SnowSchool$Diary", "bestFrom", "[I", true)
def tyX1 : Nat → FieldType := fun k => match k with
  | 0 => .array (.object "SnowSchool$Ask")
  | 1 => .int
  | 2 => .int
  | 3 => .int
  | _ => .array .int
abbrev wsX10 : List Cond := u_ws RX1 TX1 5
theorem nmX1 : ∀ a, a < 5 → ∀ b, b < 5 → a ≠ b → (TX1 a).2.1 ≠ (TX1 b).2.1 := by decide +kernel
theorem tyX1_ok : ∀ k, k < 5 → parseFieldDescriptor (TX1 k).2.2.1 = some (tyX1 k) := by decide +kernel
abbrev cX1_init : ByteArray := prog_3_method_1_code
def yX1_init : MethodName := ⟨RX1, "<init>", "()V"⟩
abbrev cX1_addAsk : ByteArray := prog_3_method_2_code
def yX1_addAsk : MethodName := ⟨RX1, "addAsk", "(IIII)I"⟩
abbrev cX1_isFree : ByteArray := prog_3_method_3_code
def yX1_isFree : MethodName := ⟨RX1, "isFree", "(LSnowSchool$Ask;LSnowSchool$Teacher;)Z"⟩
abbrev cX1_suitsDay : ByteArray := prog_3_method_4_code
def yX1_suitsDay : MethodName := ⟨RX1, "suitsDay", "(LSnowSchool$Ask;LSnowSchool$Teacher;)Z"⟩
abbrev cX1_bestValue : ByteArray := prog_3_method_5_code
def yX1_bestValue : MethodName := ⟨RX1, "bestValue", "(ILSnowSchool$Teacher;)I"⟩
abbrev cX1_payIn : ByteArray := prog_3_method_6_code
def yX1_payIn : MethodName := ⟨RX1, "payIn", "(I)I"⟩
abbrev cX1_asksIn : ByteArray := prog_3_method_7_code
def yX1_asksIn : MethodName := ⟨RX1, "asksIn", "(I)I"⟩
abbrev cX1_bookOnly : ByteArray := prog_3_method_8_code
def yX1_bookOnly : MethodName := ⟨RX1, "bookOnly", "(II)V"⟩
abbrev cX1_countBooked : ByteArray := prog_3_method_9_code
def yX1_countBooked : MethodName := ⟨RX1, "countBooked", "()I"⟩
def RX2 : String := "SnowSchool$Group"
def TX2 : u_T := fun k => match k with
  | 0 => ("SnowSchool$Group", "members", "I", false)
  | 1 => ("SnowSchool$Group", "size", "I", false)
  | 2 => ("SnowSchool$Group", "level", "I", false)
  | 3 => ("SnowSchool$Group", "lowestHigh", "I", false)
  | 4 => ("SnowSchool$Group", "youngest", "I", false)
  | 5 => ("SnowSchool$Group", "oldest", "I", false)
  | 6 => ("SnowSchool$Group", "friends", "I", false)
  | 7 => ("SnowSchool$Group", "hasTiny", "Z", false)
  | _ => ("SnowSchool$Group", "hasRacer", "Z", false)
def tyX2 : Nat → FieldType := fun k => match k with
  | 0 => .int
  | 1 => .int
  | 2 => .int
  | 3 => .int
  | 4 => .int
  | 5 => .int
  | 6 => .int
  | 7 => .boolean
  | _ => .boolean
abbrev wsX20 : List Cond := u_ws RX2 TX2 9
theorem nmX2 : ∀ a, a < 9 → ∀ b, b < 9 → a ≠ b → (TX2 a).2.1 ≠ (TX2 b).2.1 := by decide +kernel
theorem tyX2_ok : ∀ k, k < 9 → parseFieldDescriptor (TX2 k).2.2.1 = some (tyX2 k) := by decide +kernel
abbrev cX2_init : ByteArray := prog_4_method_1_code
def yX2_init : MethodName := ⟨RX2, "<init>", "()V"⟩
abbrev cX2_begin : ByteArray := prog_4_method_2_code
def yX2_begin : MethodName := ⟨RX2, "begin", "(I)V"⟩
abbrev cX2_take : ByteArray := prog_4_method_3_code
def yX2_take : MethodName := ⟨RX2, "take", "(LSnowSchool$Pupil;)V"⟩
abbrev cX2_hasLevel : ByteArray := prog_4_method_4_code
def yX2_hasLevel : MethodName := ⟨RX2, "hasLevel", "()Z"⟩
def RX3 : String := "SnowSchool$Mountain"
def TX3 : u_T := fun k => match k with
  | 0 => ("SnowSchool$Mountain", "lifts", "[LSnowSchool$Way;", true)
  | 1 => ("SnowSchool$Mountain", "liftCount", "I", false)
  | 2 => ("SnowSchool$Mountain", "slopes", "[LSnowSchool$Way;", true)
  | 3 => ("SnowSchool$Mountain", "slopeCount", "I", false)
  | 4 => ("SnowSchool$Mountain", "meetingPlace", "I", false)
  | _ => ("SnowSchool$Mountain", "exits", "[I", true)
def tyX3 : Nat → FieldType := fun k => match k with
  | 0 => .array (.object "SnowSchool$Way")
  | 1 => .int
  | 2 => .array (.object "SnowSchool$Way")
  | 3 => .int
  | 4 => .int
  | _ => .array .int
abbrev wsX30 : List Cond := u_ws RX3 TX3 6
theorem nmX3 : ∀ a, a < 6 → ∀ b, b < 6 → a ≠ b → (TX3 a).2.1 ≠ (TX3 b).2.1 := by decide +kernel
theorem tyX3_ok : ∀ k, k < 6 → parseFieldDescriptor (TX3 k).2.2.1 = some (tyX3 k) := by decide +kernel
abbrev cX3_init : ByteArray := prog_5_method_1_code
def yX3_init : MethodName := ⟨RX3, "<init>", "()V"⟩
abbrev cX3_addLift : ByteArray := prog_5_method_2_code
def yX3_addLift : MethodName := ⟨RX3, "addLift", "(II)I"⟩
abbrev cX3_addSlope : ByteArray := prog_5_method_3_code
def yX3_addSlope : MethodName := ⟨RX3, "addSlope", "(III)I"⟩
abbrev cX3_servingSlopes : ByteArray := prog_5_method_4_code
def yX3_servingSlopes : MethodName := ⟨RX3, "servingSlopes", "(I)I"⟩
abbrev cX3_strandingPlaces : ByteArray := prog_5_method_5_code
def yX3_strandingPlaces : MethodName := ⟨RX3, "strandingPlaces", "(II)I"⟩
abbrev cX3_reach : ByteArray := prog_5_method_6_code
def yX3_reach : MethodName := ⟨RX3, "reach", "(IIZ)I"⟩
abbrev cX3_join : ByteArray := prog_5_method_7_code
def yX3_join : MethodName := ⟨RX3, "join", "(LSnowSchool$Way;Z)V"⟩
abbrev cX3_flood : ByteArray := prog_5_method_8_code
def yX3_flood : MethodName := ⟨RX3, "flood", "()I"⟩
def RX4 : String := "SnowSchool$Planner"
def TX4 : u_T := fun k => match k with
  | 0 => ("SnowSchool$Planner", "prices", "[[J", true)
  | 1 => ("SnowSchool$Planner", "pools", "[I", true)
  | 2 => ("SnowSchool$Planner", "cheapest", "[J", true)
  | 3 => ("SnowSchool$Planner", "largest", "I", false)
  | 4 => ("SnowSchool$Planner", "least", "[J", true)
  | _ => ("SnowSchool$Planner", "plan", "[I", true)
def tyX4 : Nat → FieldType := fun k => match k with
  | 0 => .array (.array .long)
  | 1 => .array .int
  | 2 => .array .long
  | 3 => .int
  | 4 => .array .long
  | _ => .array .int
abbrev wsX40 : List Cond := u_ws RX4 TX4 6
theorem nmX4 : ∀ a, a < 6 → ∀ b, b < 6 → a ≠ b → (TX4 a).2.1 ≠ (TX4 b).2.1 := by decide +kernel
theorem tyX4_ok : ∀ k, k < 6 → parseFieldDescriptor (TX4 k).2.2.1 = some (tyX4 k) := by decide +kernel
abbrev cX4_init : ByteArray := prog_6_method_1_code
def yX4_init : MethodName := ⟨RX4, "<init>", "()V"⟩
abbrev cX4_plans : ByteArray := prog_6_method_2_code
def yX4_plans : MethodName := ⟨RX4, "plans", "(LSnowSchool$Roll;Z)Z"⟩
abbrev cX4_priceAllSets : ByteArray := prog_6_method_3_code
def yX4_priceAllSets : MethodName := ⟨RX4, "priceAllSets", "(LSnowSchool$Roll;IZ)V"⟩
abbrev cX4_dayCost : ByteArray := prog_6_method_4_code
def yX4_dayCost : MethodName := ⟨RX4, "dayCost", "(LSnowSchool$Roll;II)I"⟩
abbrev cX4_noonCost : ByteArray := prog_6_method_5_code
def yX4_noonCost : MethodName := ⟨RX4, "noonCost", "(LSnowSchool$Roll;II)I"⟩
abbrev cX4_tieShift : ByteArray := prog_6_method_6_code
def yX4_tieShift : MethodName := ⟨RX4, "tieShift", "(I)I"⟩
abbrev cX4_placeBy : ByteArray := prog_6_method_7_code
def yX4_placeBy : MethodName := ⟨RX4, "placeBy", "(II)V"⟩
abbrev cX4_classesFor : ByteArray := prog_6_method_8_code
def yX4_classesFor : MethodName := ⟨RX4, "classesFor", "(I)I"⟩
abbrev cX4_placeEachOf : ByteArray := prog_6_method_9_code
def yX4_placeEachOf : MethodName := ⟨RX4, "placeEachOf", "(I[JI)V"⟩
def RX5 : String := "SnowSchool$Pupil"
def TX5 : u_T := fun k => match k with
  | 0 => ("SnowSchool$Pupil", "kind", "I", false)
  | 1 => ("SnowSchool$Pupil", "age", "I", false)
  | 2 => ("SnowSchool$Pupil", "tongues", "I", false)
  | 3 => ("SnowSchool$Pupil", "low", "I", false)
  | 4 => ("SnowSchool$Pupil", "high", "I", false)
  | 5 => ("SnowSchool$Pupil", "friend", "I", false)
  | 6 => ("SnowSchool$Pupil", "named", "[I", true)
  | 7 => ("SnowSchool$Pupil", "namedCount", "I", false)
  | _ => ("SnowSchool$Pupil", "handedTo", "I", false)
def tyX5 : Nat → FieldType := fun k => match k with
  | 0 => .int
  | 1 => .int
  | 2 => .int
  | 3 => .int
  | 4 => .int
  | 5 => .int
  | 6 => .array .int
  | 7 => .int
  | _ => .int
abbrev wsX50 : List Cond := u_ws RX5 TX5 9
theorem nmX5 : ∀ a, a < 9 → ∀ b, b < 9 → a ≠ b → (TX5 a).2.1 ≠ (TX5 b).2.1 := by decide +kernel
theorem tyX5_ok : ∀ k, k < 9 → parseFieldDescriptor (TX5 k).2.2.1 = some (tyX5 k) := by decide +kernel
abbrev cX5_init : ByteArray := prog_7_method_1_code
def yX5_init : MethodName := ⟨RX5, "<init>", "()V"⟩
abbrev cX5_isA : ByteArray := prog_7_method_2_code
def yX5_isA : MethodName := ⟨RX5, "isA", "(I)Z"⟩
abbrev cX5_narrow : ByteArray := prog_7_method_3_code
def yX5_narrow : MethodName := ⟨RX5, "narrow", "(II)Z"⟩
abbrev cX5_hasNamed : ByteArray := prog_7_method_4_code
def yX5_hasNamed : MethodName := ⟨RX5, "hasNamed", "(I)Z"⟩
abbrev cX5_addNamed : ByteArray := prog_7_method_5_code
def yX5_addNamed : MethodName := ⟨RX5, "addNamed", "(I)I"⟩
abbrev cX5_isAway : ByteArray := prog_7_method_6_code
def yX5_isAway : MethodName := ⟨RX5, "isAway", "()Z"⟩
def RX6 : String := "SnowSchool$Roll"
def TX6 : u_T := fun k => match k with
  | 0 => ("SnowSchool$Roll", "pupils", "[LSnowSchool$Pupil;", true)
  | 1 => ("SnowSchool$Roll", "pupilCount", "I", false)
  | 2 => ("SnowSchool$Roll", "teachers", "[LSnowSchool$Teacher;", true)
  | 3 => ("SnowSchool$Roll", "teacherCount", "I", false)
  | 4 => ("SnowSchool$Roll", "here", "I", false)
  | 5 => ("SnowSchool$Roll", "most", "I", false)
  | 6 => ("SnowSchool$Roll", "spread", "I", false)
  | 7 => ("SnowSchool$Roll", "keepWorth", "I", false)
  | 8 => ("SnowSchool$Roll", "wishWorth", "I", false)
  | _ => ("SnowSchool$Roll", "group", "LSnowSchool$Group;", true)
def tyX6 : Nat → FieldType := fun k => match k with
  | 0 => .array (.object "SnowSchool$Pupil")
  | 1 => .int
  | 2 => .array (.object "SnowSchool$Teacher")
  | 3 => .int
  | 4 => .int
  | 5 => .int
  | 6 => .int
  | 7 => .int
  | 8 => .int
  | _ => .object "SnowSchool$Group"
abbrev wsX60 : List Cond := u_ws RX6 TX6 10
theorem nmX6 : ∀ a, a < 10 → ∀ b, b < 10 → a ≠ b → (TX6 a).2.1 ≠ (TX6 b).2.1 := by decide +kernel
theorem tyX6_ok : ∀ k, k < 10 → parseFieldDescriptor (TX6 k).2.2.1 = some (tyX6 k) := by decide +kernel
abbrev cX6_init : ByteArray := prog_8_method_1_code
def yX6_init : MethodName := ⟨RX6, "<init>", "()V"⟩
abbrev cX6_hasPupil : ByteArray := prog_8_method_2_code
def yX6_hasPupil : MethodName := ⟨RX6, "hasPupil", "(I)Z"⟩
abbrev cX6_hasTeacher : ByteArray := prog_8_method_3_code
def yX6_hasTeacher : MethodName := ⟨RX6, "hasTeacher", "(I)Z"⟩
abbrev cX6_hasAll : ByteArray := prog_8_method_4_code
def yX6_hasAll : MethodName := ⟨RX6, "hasAll", "(I)Z"⟩
abbrev cX6_addPupil : ByteArray := prog_8_method_5_code
def yX6_addPupil : MethodName := ⟨RX6, "addPupil", "(III)I"⟩
abbrev cX6_addTeacher : ByteArray := prog_8_method_6_code
def yX6_addTeacher : MethodName := ⟨RX6, "addTeacher", "(II)I"⟩
abbrev cX6_acquaint : ByteArray := prog_8_method_7_code
def yX6_acquaint : MethodName := ⟨RX6, "acquaint", "(LSnowSchool$Teacher;I)V"⟩
abbrev cX6_teacherAskedBy : ByteArray := prog_8_method_8_code
def yX6_teacherAskedBy : MethodName := ⟨RX6, "teacherAskedBy", "(I)I"⟩
abbrev cX6_moveAsking : ByteArray := prog_8_method_9_code
def yX6_moveAsking : MethodName := ⟨RX6, "moveAsking", "(III)V"⟩
abbrev cX6_teacherOver : ByteArray := prog_8_method_10_code
def yX6_teacherOver : MethodName := ⟨RX6, "teacherOver", "(I)I"⟩
abbrev cX6_gather : ByteArray := prog_8_method_11_code
def yX6_gather : MethodName := ⟨RX6, "gather", "(I)LSnowSchool$Group;"⟩
abbrev cX6_reasonAgainst : ByteArray := prog_8_method_12_code
def yX6_reasonAgainst : MethodName := ⟨RX6, "reasonAgainst", "(LSnowSchool$Teacher;LSnowSchool$Group;)I"⟩
abbrev cX6_worthOf : ByteArray := prog_8_method_13_code
def yX6_worthOf : MethodName := ⟨RX6, "worthOf", "(LSnowSchool$Teacher;I)I"⟩
abbrev cX6_settled : ByteArray := prog_8_method_14_code
def yX6_settled : MethodName := ⟨RX6, "settled", "()I"⟩
abbrev cX6_movedTo : ByteArray := prog_8_method_15_code
def yX6_movedTo : MethodName := ⟨RX6, "movedTo", "(LSnowSchool$Teacher;I)I"⟩
abbrev cX6_worthOfAll : ByteArray := prog_8_method_16_code
def yX6_worthOfAll : MethodName := ⟨RX6, "worthOfAll", "([I)I"⟩
abbrev cX6_countMoved : ByteArray := prog_8_method_17_code
def yX6_countMoved : MethodName := ⟨RX6, "countMoved", "([I)I"⟩
abbrev cX6_makeClasses : ByteArray := prog_8_method_18_code
def yX6_makeClasses : MethodName := ⟨RX6, "makeClasses", "([I)V"⟩
abbrev cX6_countClasses : ByteArray := prog_8_method_19_code
def yX6_countClasses : MethodName := ⟨RX6, "countClasses", "()I"⟩
abbrev cX6_childrenAway : ByteArray := prog_8_method_20_code
def yX6_childrenAway : MethodName := ⟨RX6, "childrenAway", "()I"⟩
def RX7 : String := "SnowSchool$Sheet"
def TX7 : u_T := fun k => match k with
  | 0 => ("SnowSchool$Sheet", "bits", "I", false)
  | 1 => ("SnowSchool$Sheet", "size", "I", false)
  | _ => ("SnowSchool$Sheet", "row", "[I", true)
def tyX7 : Nat → FieldType := fun k => match k with
  | 0 => .int
  | 1 => .int
  | _ => .array .int
abbrev wsX70 : List Cond := u_ws RX7 TX7 3
theorem nmX7 : ∀ a, a < 3 → ∀ b, b < 3 → a ≠ b → (TX7 a).2.1 ≠ (TX7 b).2.1 := by decide +kernel
theorem tyX7_ok : ∀ k, k < 3 → parseFieldDescriptor (TX7 k).2.2.1 = some (tyX7 k) := by decide +kernel
abbrev cX7_init : ByteArray := prog_9_method_1_code
def yX7_init : MethodName := ⟨RX7, "<init>", "()V"⟩
abbrev cX7_begin : ByteArray := prog_9_method_2_code
def yX7_begin : MethodName := ⟨RX7, "begin", "(II)V"⟩
abbrev cX7_isMissing : ByteArray := prog_9_method_3_code
def yX7_isMissing : MethodName := ⟨RX7, "isMissing", "()Z"⟩
abbrev cX7_lowestBits : ByteArray := prog_9_method_4_code
def yX7_lowestBits : MethodName := ⟨RX7, "lowestBits", "(I)I"⟩
abbrev cX7_hasRun : ByteArray := prog_9_method_5_code
def yX7_hasRun : MethodName := ⟨RX7, "hasRun", "(II)Z"⟩
abbrev cX7_holdsSpans : ByteArray := prog_9_method_6_code
def yX7_holdsSpans : MethodName := ⟨RX7, "holdsSpans", "()Z"⟩
def RX8 : String := "SnowSchool$Teacher"
def TX8 : u_T := fun k => match k with
  | 0 => ("SnowSchool$Teacher", "kind", "I", false)
  | 1 => ("SnowSchool$Teacher", "tongues", "I", false)
  | 2 => ("SnowSchool$Teacher", "isIll", "Z", false)
  | 3 => ("SnowSchool$Teacher", "understood", "I", false)
  | 4 => ("SnowSchool$Teacher", "askedBy", "I", false)
  | _ => ("SnowSchool$Teacher", "taught", "I", false)
def tyX8 : Nat → FieldType := fun k => match k with
  | 0 => .int
  | 1 => .int
  | 2 => .boolean
  | 3 => .int
  | 4 => .int
  | _ => .int
abbrev wsX80 : List Cond := u_ws RX8 TX8 6
theorem nmX8 : ∀ a, a < 6 → ∀ b, b < 6 → a ≠ b → (TX8 a).2.1 ≠ (TX8 b).2.1 := by decide +kernel
theorem tyX8_ok : ∀ k, k < 6 → parseFieldDescriptor (TX8 k).2.2.1 = some (tyX8 k) := by decide +kernel
abbrev cX8_init : ByteArray := prog_10_method_1_code
def yX8_init : MethodName := ⟨RX8, "<init>", "()V"⟩
abbrev cX8_isA : ByteArray := prog_10_method_2_code
def yX8_isA : MethodName := ⟨RX8, "isA", "(I)Z"⟩
abbrev cX8_isGoodEnoughFor : ByteArray := prog_10_method_3_code
def yX8_isGoodEnoughFor : MethodName := ⟨RX8, "isGoodEnoughFor", "(LSnowSchool$Group;)Z"⟩
def RX9 : String := "SnowSchool$Way"
def TX9 : u_T := fun k => match k with
  | 0 => ("SnowSchool$Way", "from", "I", false)
  | 1 => ("SnowSchool$Way", "to", "I", false)
  | 2 => ("SnowSchool$Way", "skill", "I", false)
  | _ => ("SnowSchool$Way", "isStopped", "Z", false)
def tyX9 : Nat → FieldType := fun k => match k with
  | 0 => .int
  | 1 => .int
  | 2 => .int
  | _ => .boolean
abbrev wsX90 : List Cond := u_ws RX9 TX9 4
theorem nmX9 : ∀ a, a < 4 → ∀ b, b < 4 → a ≠ b → (TX9 a).2.1 ≠ (TX9 b).2.1 := by decide +kernel
theorem tyX9_ok : ∀ k, k < 4 → parseFieldDescriptor (TX9 k).2.2.1 = some (tyX9 k) := by decide +kernel
abbrev cX9_init : ByteArray := prog_11_method_1_code
def yX9_init : MethodName := ⟨RX9, "<init>", "()V"⟩
abbrev cX9_isOpenAt : ByteArray := prog_11_method_2_code
def yX9_isOpenAt : MethodName := ⟨RX9, "isOpenAt", "(I)Z"⟩
def RX10 : String := "SnowSchool"
def TX10 : u_T := fun k => match k with
  | 0 => ("SnowSchool", "roll", "LSnowSchool$Roll;", true)
  | 1 => ("SnowSchool", "planner", "LSnowSchool$Planner;", true)
  | 2 => ("SnowSchool", "mountain", "LSnowSchool$Mountain;", true)
  | 3 => ("SnowSchool", "diary", "LSnowSchool$Diary;", true)
  | 4 => ("SnowSchool", "sheets", "[LSnowSchool$Sheet;", true)
  | _ => ("SnowSchool", "findings", "I", false)
def tyX10 : Nat → FieldType := fun k => match k with
  | 0 => .object "SnowSchool$Roll"
  | 1 => .object "SnowSchool$Planner"
  | 2 => .object "SnowSchool$Mountain"
  | 3 => .object "SnowSchool$Diary"
  | 4 => .array (.object "SnowSchool$Sheet")
  | _ => .int
abbrev wsX100 : List Cond := u_ws RX10 TX10 6
theorem nmX10 : ∀ a, a < 6 → ∀ b, b < 6 → a ≠ b → (TX10 a).2.1 ≠ (TX10 b).2.1 := by decide +kernel
theorem tyX10_ok : ∀ k, k < 6 → parseFieldDescriptor (TX10 k).2.2.1 = some (tyX10 k) := by decide +kernel
abbrev cX10_init : ByteArray := prog_1_method_1_code
def yX10_init : MethodName := ⟨RX10, "<init>", "()V"⟩
abbrev cX10_pupil : ByteArray := prog_1_method_2_code
def yX10_pupil : MethodName := ⟨RX10, "pupil", "(III)I"⟩
abbrev cX10_teacher : ByteArray := prog_1_method_3_code
def yX10_teacher : MethodName := ⟨RX10, "teacher", "(II)I"⟩
abbrev cX10_as : ByteArray := prog_1_method_4_code
def yX10_as : MethodName := ⟨RX10, "as", "(IZI)I"⟩
abbrev cX10_of : ByteArray := prog_1_method_5_code
def yX10_of : MethodName := ⟨RX10, "of", "(II)I"⟩
abbrev cX10_here : ByteArray := prog_1_method_6_code
def yX10_here : MethodName := ⟨RX10, "here", "(IZ)I"⟩
abbrev cX10_friend : ByteArray := prog_1_method_7_code
def yX10_friend : MethodName := ⟨RX10, "friend", "(II)I"⟩
abbrev cX10_wish : ByteArray := prog_1_method_8_code
def yX10_wish : MethodName := ⟨RX10, "wish", "(II)I"⟩
abbrev cX10_saw : ByteArray := prog_1_method_9_code
def yX10_saw : MethodName := ⟨RX10, "saw", "(III)I"⟩
abbrev cX10_ill : ByteArray := prog_1_method_10_code
def yX10_ill : MethodName := ⟨RX10, "ill", "(IZ)I"⟩
abbrev cX10_terms : ByteArray := prog_1_method_11_code
def yX10_terms : MethodName := ⟨RX10, "terms", "(IIII)I"⟩
abbrev cX10_level : ByteArray := prog_1_method_12_code
def yX10_level : MethodName := ⟨RX10, "level", "(I)I"⟩
abbrev cX10_may : ByteArray := prog_1_method_13_code
def yX10_may : MethodName := ⟨RX10, "may", "(II)I"⟩
abbrev cX10_classing : ByteArray := prog_1_method_14_code
def yX10_classing : MethodName := ⟨RX10, "classing", "()I"⟩
abbrev cX10_noon : ByteArray := prog_1_method_15_code
def yX10_noon : MethodName := ⟨RX10, "noon", "()I"⟩
abbrev cX10_worth : ByteArray := prog_1_method_16_code
def yX10_worth : MethodName := ⟨RX10, "worth", "()I"⟩
abbrev cX10_set : ByteArray := prog_1_method_17_code
def yX10_set : MethodName := ⟨RX10, "set", "(I)I"⟩
abbrev cX10_lift : ByteArray := prog_1_method_18_code
def yX10_lift : MethodName := ⟨RX10, "lift", "(II)I"⟩
abbrev cX10_slope : ByteArray := prog_1_method_19_code
def yX10_slope : MethodName := ⟨RX10, "slope", "(III)I"⟩
abbrev cX10_stop : ByteArray := prog_1_method_20_code
def yX10_stop : MethodName := ⟨RX10, "stop", "(IZ)I"⟩
abbrev cX10_meeting : ByteArray := prog_1_method_21_code
def yX10_meeting : MethodName := ⟨RX10, "meeting", "(I)I"⟩
abbrev cX10_serves : ByteArray := prog_1_method_22_code
def yX10_serves : MethodName := ⟨RX10, "serves", "(I)I"⟩
abbrev cX10_stranded : ByteArray := prog_1_method_23_code
def yX10_stranded : MethodName := ⟨RX10, "stranded", "(II)I"⟩
abbrev cX10_name : ByteArray := prog_1_method_24_code
def yX10_name : MethodName := ⟨RX10, "name", "(II)I"⟩
abbrev cX10_hand : ByteArray := prog_1_method_25_code
def yX10_hand : MethodName := ⟨RX10, "hand", "(II)I"⟩
abbrev cX10_back : ByteArray := prog_1_method_26_code
def yX10_back : MethodName := ⟨RX10, "back", "(I)I"⟩
abbrev cX10_left : ByteArray := prog_1_method_27_code
def yX10_left : MethodName := ⟨RX10, "left", "()I"⟩
abbrev cX10_ask : ByteArray := prog_1_method_28_code
def yX10_ask : MethodName := ⟨RX10, "ask", "(IIII)I"⟩
abbrev cX10_hours : ByteArray := prog_1_method_29_code
def yX10_hours : MethodName := ⟨RX10, "hours", "(II)I"⟩
abbrev cX10_book : ByteArray := prog_1_method_30_code
def yX10_book : MethodName := ⟨RX10, "book", "(I)I"⟩
abbrev cX10_open : ByteArray := prog_1_method_31_code
def yX10_open : MethodName := ⟨RX10, "open", "(I)I"⟩
abbrev cX10_choice : ByteArray := prog_1_method_32_code
def yX10_choice : MethodName := ⟨RX10, "choice", "(IZ)I"⟩
abbrev cX10_choose : ByteArray := prog_1_method_33_code
def yX10_choose : MethodName := ⟨RX10, "choose", "(I)I"⟩
abbrev cX10_sheet : ByteArray := prog_1_method_34_code
def yX10_sheet : MethodName := ⟨RX10, "sheet", "(III)I"⟩
abbrev cX10_write : ByteArray := prog_1_method_35_code
def yX10_write : MethodName := ⟨RX10, "write", "(III)I"⟩
abbrev cX10_copy : ByteArray := prog_1_method_36_code
def yX10_copy : MethodName := ⟨RX10, "copy", "(IIIII)I"⟩
abbrev cX10_read : ByteArray := prog_1_method_37_code
def yX10_read : MethodName := ⟨RX10, "read", "(I)I"⟩
abbrev cX10_told : ByteArray := prog_1_method_38_code
def yX10_told : MethodName := ⟨RX10, "told", "(I)I"⟩
abbrev cX10_finding : ByteArray := prog_1_method_39_code
def yX10_finding : MethodName := ⟨RX10, "finding", "(I)I"⟩
abbrev cX10_orFull : ByteArray := prog_1_method_40_code
def yX10_orFull : MethodName := ⟨RX10, "orFull", "(I)I"⟩
abbrev cX10_isBelow : ByteArray := prog_1_method_41_code
def yX10_isBelow : MethodName := ⟨RX10, "isBelow", "(II)Z"⟩
abbrev cX10_has : ByteArray := prog_1_method_42_code
def yX10_has : MethodName := ⟨RX10, "has", "(II)Z"⟩
abbrev cX10_isTongues : ByteArray := prog_1_method_43_code
def yX10_isTongues : MethodName := ⟨RX10, "isTongues", "(I)Z"⟩
abbrev cX10_isWay : ByteArray := prog_1_method_44_code
def yX10_isWay : MethodName := ⟨RX10, "isWay", "(II)Z"⟩
abbrev cX10_areHours : ByteArray := prog_1_method_45_code
def yX10_areHours : MethodName := ⟨RX10, "areHours", "(II)Z"⟩
def RX11 : String := "SnowSchoolModel"
def TX11 : u_T := fun k => match k with
  | 0 => ("SnowSchoolModel", "pupils", "I", false)
  | 1 => ("SnowSchoolModel", "teachers", "I", false)
  | 2 => ("SnowSchoolModel", "lifts", "I", false)
  | 3 => ("SnowSchoolModel", "slopes", "I", false)
  | 4 => ("SnowSchoolModel", "asks", "I", false)
  | 5 => ("SnowSchoolModel", "findings", "I", false)
  | 6 => ("SnowSchoolModel", "most", "I", false)
  | 7 => ("SnowSchoolModel", "spread", "I", false)
  | 8 => ("SnowSchoolModel", "keep", "I", false)
  | 9 => ("SnowSchoolModel", "wishWorth", "I", false)
  | 10 => ("SnowSchoolModel", "meetingAt", "I", false)
  | 11 => ("SnowSchoolModel", "firstHour", "I", false)
  | 12 => ("SnowSchoolModel", "lastHour", "I", false)
  | 13 => ("SnowSchoolModel", "kind", "[I", true)
  | 14 => ("SnowSchoolModel", "age", "[I", true)
  | 15 => ("SnowSchoolModel", "tongues", "[I", true)
  | 16 => ("SnowSchoolModel", "low", "[I", true)
  | 17 => ("SnowSchoolModel", "high", "[I", true)
  | 18 => ("SnowSchoolModel", "friend", "[I", true)
  | 19 => ("SnowSchoolModel", "wish", "[I", true)
  | 20 => ("SnowSchoolModel", "handed", "[I", true)
  | 21 => ("SnowSchoolModel", "namedMany", "[I", true)
  | 22 => ("SnowSchoolModel", "named", "[I", true)
  | 23 => ("SnowSchoolModel", "isHere", "[Z", true)
  | 24 => ("SnowSchoolModel", "teacherKind", "[I", true)
  | 25 => ("SnowSchoolModel", "teacherTongues", "[I", true)
  | 26 => ("SnowSchoolModel", "classOf", "[I", true)
  | 27 => ("SnowSchoolModel", "isIll", "[Z", true)
  | 28 => ("SnowSchoolModel", "liftFrom", "[I", true)
  | 29 => ("SnowSchoolModel", "liftTo", "[I", true)
  | 30 => ("SnowSchoolModel", "slopeFrom", "[I", true)
  | 31 => ("SnowSchoolModel", "slopeTo", "[I", true)
  | 32 => ("SnowSchoolModel", "skill", "[I", true)
  | 33 => ("SnowSchoolModel", "isStopped", "[Z", true)
  | 34 => ("SnowSchoolModel", "askOf", "[I", true)
  | 35 => ("SnowSchoolModel", "askFrom", "[I", true)
  | 36 => ("SnowSchoolModel", "askTo", "[I", true)
  | 37 => ("SnowSchoolModel", "pay", "[I", true)
  | 38 => ("SnowSchoolModel", "isBooked", "[Z", true)
  | 39 => ("SnowSchoolModel", "sheetBits", "[I", true)
  | 40 => ("SnowSchoolModel", "sheetSize", "[I", true)
  | 41 => ("SnowSchoolModel", "sheets", "[I", true)
  | 42 => ("SnowSchoolModel", "costs", "[I", true)
  | 43 => ("SnowSchoolModel", "price", "[I", true)
  | 44 => ("SnowSchoolModel", "chosen", "[I", true)
  | _ => ("SnowSchoolModel", "carried", "[I", true)
def tyX11 : Nat → FieldType := fun k => match k with
  | 0 => .int
  | 1 => .int
  | 2 => .int
  | 3 => .int
  | 4 => .int
  | 5 => .int
  | 6 => .int
  | 7 => .int
  | 8 => .int
  | 9 => .int
  | 10 => .int
  | 11 => .int
  | 12 => .int
  | 13 => .array .int
  | 14 => .array .int
  | 15 => .array .int
  | 16 => .array .int
  | 17 => .array .int
  | 18 => .array .int
  | 19 => .array .int
  | 20 => .array .int
  | 21 => .array .int
  | 22 => .array .int
  | 23 => .array .boolean
  | 24 => .array .int
  | 25 => .array .int
  | 26 => .array .int
  | 27 => .array .boolean
  | 28 => .array .int
  | 29 => .array .int
  | 30 => .array .int
  | 31 => .array .int
  | 32 => .array .int
  | 33 => .array .boolean
  | 34 => .array .int
  | 35 => .array .int
  | 36 => .array .int
  | 37 => .array .int
  | 38 => .array .boolean
  | 39 => .array .int
  | 40 => .array .int
  | 41 => .array .int
  | 42 => .array .int
  | 43 => .array .int
  | 44 => .array .int
  | _ => .array .int
abbrev wsX110 : List Cond := u_ws RX11 TX11 46
theorem nmX11 : ∀ a, a < 46 → ∀ b, b < 46 → a ≠ b → (TX11 a).2.1 ≠ (TX11 b).2.1 := by decide +kernel
theorem tyX11_ok : ∀ k, k < 46 → parseFieldDescriptor (TX11 k).2.2.1 = some (tyX11 k) := by decide +kernel
abbrev cX11_init : ByteArray := prog_13_method_1_code
def yX11_init : MethodName := ⟨RX11, "<init>", "()V"⟩
abbrev cX11_in : ByteArray := prog_13_method_3_code
def yX11_in : MethodName := ⟨RX11, "in", "(III)Z"⟩
abbrev cX11_finds : ByteArray := prog_13_method_4_code
def yX11_finds : MethodName := ⟨RX11, "finds", "(I)I"⟩
abbrev cX11_isPupil : ByteArray := prog_13_method_5_code
def yX11_isPupil : MethodName := ⟨RX11, "isPupil", "(I)Z"⟩
abbrev cX11_isTeacher : ByteArray := prog_13_method_6_code
def yX11_isTeacher : MethodName := ⟨RX11, "isTeacher", "(I)Z"⟩
abbrev cX11_has : ByteArray := prog_13_method_7_code
def yX11_has : MethodName := ⟨RX11, "has", "(II)Z"⟩
abbrev cX11_ones : ByteArray := prog_13_method_8_code
def yX11_ones : MethodName := ⟨RX11, "ones", "(I)I"⟩
abbrev cX11_pupil : ByteArray := prog_13_method_9_code
def yX11_pupil : MethodName := ⟨RX11, "pupil", "(III)I"⟩
abbrev cX11_teacher : ByteArray := prog_13_method_10_code
def yX11_teacher : MethodName := ⟨RX11, "teacher", "(II)I"⟩
abbrev cX11_isChild : ByteArray := prog_13_method_11_code
def yX11_isChild : MethodName := ⟨RX11, "isChild", "(I)Z"⟩
abbrev cX11_isMaster : ByteArray := prog_13_method_12_code
def yX11_isMaster : MethodName := ⟨RX11, "isMaster", "(I)Z"⟩
abbrev cX11_as : ByteArray := prog_13_method_13_code
def yX11_as : MethodName := ⟨RX11, "as", "(IZI)I"⟩
abbrev cX11_teacherOf : ByteArray := prog_13_method_14_code
def yX11_teacherOf : MethodName := ⟨RX11, "teacherOf", "(I)I"⟩
abbrev cX11_of : ByteArray := prog_13_method_15_code
def yX11_of : MethodName := ⟨RX11, "of", "(II)I"⟩
abbrev cX11_here : ByteArray := prog_13_method_16_code
def yX11_here : MethodName := ⟨RX11, "here", "(IZ)I"⟩
abbrev cX11_friend : ByteArray := prog_13_method_17_code
def yX11_friend : MethodName := ⟨RX11, "friend", "(II)I"⟩
abbrev cX11_wish : ByteArray := prog_13_method_18_code
def yX11_wish : MethodName := ⟨RX11, "wish", "(II)I"⟩
abbrev cX11_sees : ByteArray := prog_13_method_19_code
def yX11_sees : MethodName := ⟨RX11, "sees", "(III)Z"⟩
abbrev cX11_saw : ByteArray := prog_13_method_20_code
def yX11_saw : MethodName := ⟨RX11, "saw", "(III)I"⟩
abbrev cX11_ill : ByteArray := prog_13_method_21_code
def yX11_ill : MethodName := ⟨RX11, "ill", "(IZ)I"⟩
abbrev cX11_terms : ByteArray := prog_13_method_22_code
def yX11_terms : MethodName := ⟨RX11, "terms", "(IIII)I"⟩
abbrev cX11_isSet : ByteArray := prog_13_method_23_code
def yX11_isSet : MethodName := ⟨RX11, "isSet", "(I)Z"⟩
abbrev cX11_levelOf : ByteArray := prog_13_method_24_code
def yX11_levelOf : MethodName := ⟨RX11, "levelOf", "(I)I"⟩
abbrev cX11_level : ByteArray := prog_13_method_25_code
def yX11_level : MethodName := ⟨RX11, "level", "(I)I"⟩
abbrev cX11_areOfTongue : ByteArray := prog_13_method_26_code
def yX11_areOfTongue : MethodName := ⟨RX11, "areOfTongue", "(II)Z"⟩
abbrev cX11_hasKind : ByteArray := prog_13_method_27_code
def yX11_hasKind : MethodName := ⟨RX11, "hasKind", "(II)Z"⟩
abbrev cX11_areNearInAge : ByteArray := prog_13_method_28_code
def yX11_areNearInAge : MethodName := ⟨RX11, "areNearInAge", "(I)Z"⟩
abbrev cX11_areFriendsIn : ByteArray := prog_13_method_29_code
def yX11_areFriendsIn : MethodName := ⟨RX11, "areFriendsIn", "(I)Z"⟩
abbrev cX11_mayTeach : ByteArray := prog_13_method_30_code
def yX11_mayTeach : MethodName := ⟨RX11, "mayTeach", "(II)I"⟩
abbrev cX11_may : ByteArray := prog_13_method_31_code
def yX11_may : MethodName := ⟨RX11, "may", "(II)I"⟩
abbrev cX11_allHere : ByteArray := prog_13_method_32_code
def yX11_allHere : MethodName := ⟨RX11, "allHere", "()I"⟩
abbrev cX11_costOf : ByteArray := prog_13_method_33_code
def yX11_costOf : MethodName := ⟨RX11, "costOf", "(IIZ)I"⟩
abbrev cX11_findClassing : ByteArray := prog_13_method_34_code
def yX11_findClassing : MethodName := ⟨RX11, "findClassing", "(Z)I"⟩
abbrev cX11_become : ByteArray := prog_13_method_35_code
def yX11_become : MethodName := ⟨RX11, "become", "()I"⟩
abbrev cX11_classing : ByteArray := prog_13_method_36_code
def yX11_classing : MethodName := ⟨RX11, "classing", "()I"⟩
abbrev cX11_noon : ByteArray := prog_13_method_37_code
def yX11_noon : MethodName := ⟨RX11, "noon", "()I"⟩
abbrev cX11_worth : ByteArray := prog_13_method_38_code
def yX11_worth : MethodName := ⟨RX11, "worth", "()I"⟩
abbrev cX11_set : ByteArray := prog_13_method_39_code
def yX11_set : MethodName := ⟨RX11, "set", "(I)I"⟩
abbrev cX11_isPlace : ByteArray := prog_13_method_40_code
def yX11_isPlace : MethodName := ⟨RX11, "isPlace", "(I)Z"⟩
abbrev cX11_lift : ByteArray := prog_13_method_41_code
def yX11_lift : MethodName := ⟨RX11, "lift", "(II)I"⟩
abbrev cX11_slope : ByteArray := prog_13_method_42_code
def yX11_slope : MethodName := ⟨RX11, "slope", "(III)I"⟩
abbrev cX11_stop : ByteArray := prog_13_method_43_code
def yX11_stop : MethodName := ⟨RX11, "stop", "(IZ)I"⟩
abbrev cX11_meeting : ByteArray := prog_13_method_44_code
def yX11_meeting : MethodName := ⟨RX11, "meeting", "(I)I"⟩
abbrev cX11_goOn : ByteArray := prog_13_method_45_code
def yX11_goOn : MethodName := ⟨RX11, "goOn", "(IIIZ)I"⟩
abbrev cX11_reach : ByteArray := prog_13_method_46_code
def yX11_reach : MethodName := ⟨RX11, "reach", "(IZI)I"⟩
abbrev cX11_serves : ByteArray := prog_13_method_47_code
def yX11_serves : MethodName := ⟨RX11, "serves", "(I)I"⟩
abbrev cX11_stranded : ByteArray := prog_13_method_48_code
def yX11_stranded : MethodName := ⟨RX11, "stranded", "(II)I"⟩
abbrev cX11_isHand : ByteArray := prog_13_method_49_code
def yX11_isHand : MethodName := ⟨RX11, "isHand", "(I)Z"⟩
abbrev cX11_isNamed : ByteArray := prog_13_method_50_code
def yX11_isNamed : MethodName := ⟨RX11, "isNamed", "(II)Z"⟩
abbrev cX11_name : ByteArray := prog_13_method_51_code
def yX11_name : MethodName := ⟨RX11, "name", "(II)I"⟩
abbrev cX11_hand : ByteArray := prog_13_method_52_code
def yX11_hand : MethodName := ⟨RX11, "hand", "(II)I"⟩
abbrev cX11_back : ByteArray := prog_13_method_53_code
def yX11_back : MethodName := ⟨RX11, "back", "(I)I"⟩
abbrev cX11_left : ByteArray := prog_13_method_54_code
def yX11_left : MethodName := ⟨RX11, "left", "()I"⟩
abbrev cX11_ask : ByteArray := prog_13_method_55_code
def yX11_ask : MethodName := ⟨RX11, "ask", "(IIII)I"⟩
abbrev cX11_hours : ByteArray := prog_13_method_56_code
def yX11_hours : MethodName := ⟨RX11, "hours", "(II)I"⟩
abbrev cX11_isAsk : ByteArray := prog_13_method_57_code
def yX11_isAsk : MethodName := ⟨RX11, "isAsk", "(I)Z"⟩
abbrev cX11_isFreeAlone : ByteArray := prog_13_method_58_code
def yX11_isFreeAlone : MethodName := ⟨RX11, "isFreeAlone", "(I)Z"⟩
abbrev cX11_areApart : ByteArray := prog_13_method_59_code
def yX11_areApart : MethodName := ⟨RX11, "areApart", "(II)Z"⟩
abbrev cX11_isFree : ByteArray := prog_13_method_60_code
def yX11_isFree : MethodName := ⟨RX11, "isFree", "(I)Z"⟩
abbrev cX11_book : ByteArray := prog_13_method_61_code
def yX11_book : MethodName := ⟨RX11, "book", "(I)I"⟩
abbrev cX11_open : ByteArray := prog_13_method_62_code
def yX11_open : MethodName := ⟨RX11, "open", "(I)I"⟩
abbrev cX11_payOf : ByteArray := prog_13_method_63_code
def yX11_payOf : MethodName := ⟨RX11, "payOf", "(II)I"⟩
abbrev cX11_choiceOf : ByteArray := prog_13_method_64_code
def yX11_choiceOf : MethodName := ⟨RX11, "choiceOf", "(I)I"⟩
abbrev cX11_choice : ByteArray := prog_13_method_65_code
def yX11_choice : MethodName := ⟨RX11, "choice", "(IZ)I"⟩
abbrev cX11_choose : ByteArray := prog_13_method_66_code
def yX11_choose : MethodName := ⟨RX11, "choose", "(I)I"⟩
abbrev cX11_isSheet : ByteArray := prog_13_method_67_code
def yX11_isSheet : MethodName := ⟨RX11, "isSheet", "(I)Z"⟩
abbrev cX11_sheet : ByteArray := prog_13_method_68_code
def yX11_sheet : MethodName := ⟨RX11, "sheet", "(III)I"⟩
abbrev cX11_write : ByteArray := prog_13_method_69_code
def yX11_write : MethodName := ⟨RX11, "write", "(III)I"⟩
abbrev cX11_copy : ByteArray := prog_13_method_70_code
def yX11_copy : MethodName := ⟨RX11, "copy", "(IIIII)I"⟩
abbrev cX11_read : ByteArray := prog_13_method_71_code
def yX11_read : MethodName := ⟨RX11, "read", "(I)I"⟩
abbrev cX11_told : ByteArray := prog_13_method_72_code
def yX11_told : MethodName := ⟨RX11, "told", "(I)I"⟩
def RJ6 : String := "java/lang/Integer"
abbrev cJ6_bitCount_0f7a4 : ByteArray := prog_14_method_49_code
def yJ6_bitCount_0f7a4 : MethodName := ⟨RJ6, "bitCount", "(I)I"⟩
def RJ9 : String := "java/lang/Math"
abbrev cJ9_max_7cf53 : ByteArray := prog_15_method_65_code
def yJ9_max_7cf53 : MethodName := ⟨RJ9, "max", "(II)I"⟩
abbrev cJ9_min_7cf53 : ByteArray := prog_15_method_69_code
def yJ9_min_7cf53 : MethodName := ⟨RJ9, "min", "(II)I"⟩
abbrev cJ9_min_f86c9 : ByteArray := prog_15_method_70_code
def yJ9_min_f86c9 : MethodName := ⟨RJ9, "min", "(JJ)J"⟩
def RJ10 : String := "java/lang/System"
def RJ7 : String := "java/util/Arrays"
abbrev cJ7_fill_d0a16 : ByteArray := prog_17_method_101_code
def yJ7_fill_d0a16 : MethodName := ⟨RJ7, "fill", "([JJ)V"⟩
abbrev cJ7_fill_53178 : ByteArray := prog_17_method_103_code
def yJ7_fill_53178 : MethodName := ⟨RJ7, "fill", "([II)V"⟩
def RL : String := "SnowSchoolLaw"
abbrev cL_law : ByteArray := code
def yL_law : MethodName := ⟨RL, "law", "([I)Z"⟩
abbrev vwCl : List vw_C := [(RX0, TX0, 5), (RX1, TX1, 5), (RX2, TX2, 9), (RX3, TX3, 6), (RX4, TX4, 6), (RX5, TX5, 9), (RX6, TX6, 10), (RX7, TX7, 3), (RX8, TX8, 6), (RX9, TX9, 4), (RX10, TX10, 6), (RX11, TX11, 46)]

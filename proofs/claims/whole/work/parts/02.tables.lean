-- the program by numbers: 0 J6_bitCount_0f7a4, 1 J7_fill_d0a16, 2 J7_fill_53178, 3 X0_init, 4 X0_meets, 5 X1_init, 6 X1_addAsk, 7 X1_isFree, 8 X1_suitsDay, 9 X1_bestValue, 10 X1_payIn, 11 X1_asksIn, 12 X1_bookOnly, 13 X1_countBooked, 14 X2_init, 15 X2_begin, 16 X2_take, 17 X2_hasLevel, 18 X3_init, 19 X3_addLift, 20 X3_addSlope, 21 X3_servingSlopes, 22 X3_strandingPlaces, 23 X3_reach, 24 X3_join, 25 X3_flood, 26 X4_init, 27 X4_plans, 28 X4_priceAllSets, 29 X4_dayCost, 30 X4_tieShift, 31 X4_placeBy, 32 X4_placeEachOf, 33 X4_noonCost, 34 X4_classesFor, 35 X5_init, 36 X5_isA, 37 X5_narrow, 38 X5_hasNamed, 39 X5_addNamed, 40 X5_isAway, 41 X6_init, 42 X6_hasPupil, 43 X6_hasTeacher, 44 X6_hasAll, 45 X6_addPupil, 46 X6_addTeacher, 47 X6_acquaint, 48 X6_teacherAskedBy, 49 X6_moveAsking, 50 X6_teacherOver, 51 X6_gather, 52 X6_reasonAgainst, 53 X6_worthOf, 54 X6_movedTo, 55 X6_worthOfAll, 56 X6_countMoved, 57 X6_makeClasses, 58 X6_countClasses, 59 X6_childrenAway, 60 X7_init, 61 X7_begin, 62 X7_isMissing, 63 X7_lowestBits, 64 X7_hasRun, 65 X7_holdsSpans, 66 X8_init, 67 X8_isA, 68 X8_isGoodEnoughFor, 69 X9_init, 70 X9_isOpenAt, 71 X10_init, 72 X10_pupil, 73 X10_teacher, 74 X10_as, 75 X10_of, 76 X10_here, 77 X10_friend, 78 X10_wish, 79 X10_saw, 80 X10_ill, 81 X10_terms, 82 X10_level, 83 X10_may, 84 X10_classing, 85 X10_noon, 86 X10_worth, 87 X10_set, 88 X10_lift, 89 X10_slope, 90 X10_stop, 91 X10_meeting, 92 X10_serves, 93 X10_stranded, 94 X10_name, 95 X10_hand, 96 X10_back, 97 X10_left, 98 X10_ask, 99 X10_hours, 100 X10_book, 101 X10_open, 102 X10_choice, 103 X10_choose, 104 X10_sheet, 105 X10_write, 106 X10_copy, 107 X10_read, 108 X10_told, 109 X10_finding, 110 X10_orFull, 111 X10_isBelow, 112 X10_has, 113 X10_isTongues, 114 X10_isWay, 115 X10_areHours, 116 X11_init, 117 X11_in, 118 X11_finds, 119 X11_isPupil, 120 X11_isTeacher, 121 X11_has, 122 X11_ones, 123 X11_pupil, 124 X11_teacher, 125 X11_isChild, 126 X11_isMaster, 127 X11_as, 128 X11_teacherOf, 129 X11_of, 130 X11_here, 131 X11_friend, 132 X11_wish, 133 X11_sees, 134 X11_saw, 135 X11_ill, 136 X11_terms, 137 X11_isSet, 138 X11_levelOf, 139 X11_level, 140 X11_areOfTongue, 141 X11_hasKind, 142 X11_areNearInAge, 143 X11_areFriendsIn, 144 X11_mayTeach, 145 X11_may, 146 X11_allHere, 147 X11_costOf, 148 X11_findClassing, 149 X11_become, 150 X11_classing, 151 X11_noon, 152 X11_worth, 153 X11_set, 154 X11_isPlace, 155 X11_lift, 156 X11_slope, 157 X11_stop, 158 X11_meeting, 159 X11_goOn, 160 X11_reach, 161 X11_serves, 162 X11_stranded, 163 X11_isHand, 164 X11_isNamed, 165 X11_name, 166 X11_hand, 167 X11_back, 168 X11_left, 169 X11_ask, 170 X11_hours, 171 X11_isAsk, 172 X11_isFreeAlone, 173 X11_areApart, 174 X11_isFree, 175 X11_book, 176 X11_open, 177 X11_payOf, 178 X11_choiceOf, 179 X11_choice, 180 X11_choose, 181 X11_isSheet, 182 X11_sheet, 183 X11_write, 184 X11_copy, 185 X11_read, 186 X11_told, 187 X6_settled, 188 L_law
def zm_y : List MethodName := [yJ6_bitCount_0f7a4, yJ7_fill_d0a16, yJ7_fill_53178, yX0_init, yX0_meets, yX1_init, yX1_addAsk, yX1_isFree, yX1_suitsDay, yX1_bestValue, yX1_payIn, yX1_asksIn, yX1_bookOnly, yX1_countBooked, yX2_init, yX2_begin, yX2_take, yX2_hasLevel, yX3_init, yX3_addLift, yX3_addSlope, yX3_servingSlopes, yX3_strandingPlaces, yX3_reach, yX3_join, yX3_flood, yX4_init, yX4_plans, yX4_priceAllSets, yX4_dayCost, yX4_tieShift, yX4_placeBy, yX4_placeEachOf, yX4_noonCost, yX4_classesFor, yX5_init, yX5_isA, yX5_narrow, yX5_hasNamed, yX5_addNamed, yX5_isAway, yX6_init, yX6_hasPupil, yX6_hasTeacher, yX6_hasAll, yX6_addPupil, yX6_addTeacher, yX6_acquaint, yX6_teacherAskedBy, yX6_moveAsking, yX6_teacherOver, yX6_gather, yX6_reasonAgainst, yX6_worthOf, yX6_movedTo, yX6_worthOfAll, yX6_countMoved, yX6_makeClasses, yX6_countClasses, yX6_childrenAway, yX7_init, yX7_begin, yX7_isMissing, yX7_lowestBits, yX7_hasRun, yX7_holdsSpans, yX8_init, yX8_isA, yX8_isGoodEnoughFor, yX9_init, yX9_isOpenAt, yX10_init, yX10_pupil, yX10_teacher, yX10_as, yX10_of, yX10_here, yX10_friend, yX10_wish, yX10_saw, yX10_ill, yX10_terms, yX10_level, yX10_may, yX10_classing, yX10_noon, yX10_worth, yX10_set, yX10_lift, yX10_slope, yX10_stop, yX10_meeting, yX10_serves, yX10_stranded, yX10_name, yX10_hand, yX10_back, yX10_left, yX10_ask, yX10_hours, yX10_book, yX10_open, yX10_choice, yX10_choose, yX10_sheet, yX10_write, yX10_copy, yX10_read, yX10_told, yX10_finding, yX10_orFull, yX10_isBelow, yX10_has, yX10_isTongues, yX10_isWay, yX10_areHours, yX11_init, yX11_in, yX11_finds, yX11_isPupil, yX11_isTeacher, yX11_has, yX11_ones, yX11_pupil, yX11_teacher, yX11_isChild, yX11_isMaster, yX11_as, yX11_teacherOf, yX11_of, yX11_here, yX11_friend, yX11_wish, yX11_sees, yX11_saw, yX11_ill, yX11_terms, yX11_isSet, yX11_levelOf, yX11_level, yX11_areOfTongue, yX11_hasKind, yX11_areNearInAge, yX11_areFriendsIn, yX11_mayTeach, yX11_may, yX11_allHere, yX11_costOf, yX11_findClassing, yX11_become, yX11_classing, yX11_noon, yX11_worth, yX11_set, yX11_isPlace, yX11_lift, yX11_slope, yX11_stop, yX11_meeting, yX11_goOn, yX11_reach, yX11_serves, yX11_stranded, yX11_isHand, yX11_isNamed, yX11_name, yX11_hand, yX11_back, yX11_left, yX11_ask, yX11_hours, yX11_isAsk, yX11_isFreeAlone, yX11_areApart, yX11_isFree, yX11_book, yX11_open, yX11_payOf, yX11_choiceOf, yX11_choice, yX11_choose, yX11_isSheet, yX11_sheet, yX11_write, yX11_copy, yX11_read, yX11_told, yX6_settled, yL_law]
def zm_b : List ByteArray := [cJ6_bitCount_0f7a4, cJ7_fill_d0a16, cJ7_fill_53178, cX0_init, cX0_meets, cX1_init, cX1_addAsk, cX1_isFree, cX1_suitsDay, cX1_bestValue, cX1_payIn, cX1_asksIn, cX1_bookOnly, cX1_countBooked, cX2_init, cX2_begin, cX2_take, cX2_hasLevel, cX3_init, cX3_addLift, cX3_addSlope, cX3_servingSlopes, cX3_strandingPlaces, cX3_reach, cX3_join, cX3_flood, cX4_init, cX4_plans, cX4_priceAllSets, cX4_dayCost, cX4_tieShift, cX4_placeBy, cX4_placeEachOf, cX4_noonCost, cX4_classesFor, cX5_init, cX5_isA, cX5_narrow, cX5_hasNamed, cX5_addNamed, cX5_isAway, cX6_init, cX6_hasPupil, cX6_hasTeacher, cX6_hasAll, cX6_addPupil, cX6_addTeacher, cX6_acquaint, cX6_teacherAskedBy, cX6_moveAsking, cX6_teacherOver, cX6_gather, cX6_reasonAgainst, cX6_worthOf, cX6_movedTo, cX6_worthOfAll, cX6_countMoved, cX6_makeClasses, cX6_countClasses, cX6_childrenAway, cX7_init, cX7_begin, cX7_isMissing, cX7_lowestBits, cX7_hasRun, cX7_holdsSpans, cX8_init, cX8_isA, cX8_isGoodEnoughFor, cX9_init, cX9_isOpenAt, cX10_init, cX10_pupil, cX10_teacher, cX10_as, cX10_of, cX10_here, cX10_friend, cX10_wish, cX10_saw, cX10_ill, cX10_terms, cX10_level, cX10_may, cX10_classing, cX10_noon, cX10_worth, cX10_set, cX10_lift, cX10_slope, cX10_stop, cX10_meeting, cX10_serves, cX10_stranded, cX10_name, cX10_hand, cX10_back, cX10_left, cX10_ask, cX10_hours, cX10_book, cX10_open, cX10_choice, cX10_choose, cX10_sheet, cX10_write, cX10_copy, cX10_read, cX10_told, cX10_finding, cX10_orFull, cX10_isBelow, cX10_has, cX10_isTongues, cX10_isWay, cX10_areHours, cX11_init, cX11_in, cX11_finds, cX11_isPupil, cX11_isTeacher, cX11_has, cX11_ones, cX11_pupil, cX11_teacher, cX11_isChild, cX11_isMaster, cX11_as, cX11_teacherOf, cX11_of, cX11_here, cX11_friend, cX11_wish, cX11_sees, cX11_saw, cX11_ill, cX11_terms, cX11_isSet, cX11_levelOf, cX11_level, cX11_areOfTongue, cX11_hasKind, cX11_areNearInAge, cX11_areFriendsIn, cX11_mayTeach, cX11_may, cX11_allHere, cX11_costOf, cX11_findClassing, cX11_become, cX11_classing, cX11_noon, cX11_worth, cX11_set, cX11_isPlace, cX11_lift, cX11_slope, cX11_stop, cX11_meeting, cX11_goOn, cX11_reach, cX11_serves, cX11_stranded, cX11_isHand, cX11_isNamed, cX11_name, cX11_hand, cX11_back, cX11_left, cX11_ask, cX11_hours, cX11_isAsk, cX11_isFreeAlone, cX11_areApart, cX11_isFree, cX11_book, cX11_open, cX11_payOf, cX11_choiceOf, cX11_choice, cX11_choose, cX11_isSheet, cX11_sheet, cX11_write, cX11_copy, cX11_read, cX11_told, cX6_settled, cL_law]
def zm_nl : List Nat := [1, 5, 4, 1, 3, 2, 7, 6, 3, 9, 1, 1, 4, 3, 1, 2, 2, 1, 2, 4, 5, 7, 4, 5, 5, 4, 1, 7, 12, 3, 1, 8, 9, 3, 2, 1, 2, 5, 3, 2, 1, 2, 2, 2, 2, 7, 6, 3, 3, 4, 3, 3, 3, 3, 3, 4, 4, 3, 3, 3, 1, 3, 1, 2, 3, 2, 1, 2, 2, 1, 2, 2, 4, 3, 6, 4, 3, 5, 4, 5, 5, 6, 3, 3, 1, 2, 1, 2, 3, 4, 5, 3, 3, 4, 4, 4, 4, 1, 5, 3, 3, 4, 4, 3, 5, 6, 8, 4, 2, 2, 2, 2, 2, 1, 2, 2, 1, 3, 2, 2, 2, 2, 3, 5, 3, 2, 2, 5, 3, 3, 4, 4, 4, 6, 4, 4, 5, 2, 4, 3, 4, 4, 5, 3, 4, 3, 3, 6, 8, 3, 1, 3, 3, 2, 1, 3, 4, 4, 3, 4, 7, 7, 4, 1, 4, 3, 3, 3, 3, 5, 3, 2, 3, 3, 3, 2, 3, 6, 4, 4, 4, 1, 5, 5, 7, 3, 4, 3, 4]
def zm_rt : List (Option FieldType) := [(some .int), none, none, none, (some .boolean), none, (some .int), (some .boolean), (some .boolean), (some .int), (some .int), (some .int), none, (some .int), none, none, none, (some .boolean), none, (some .int), (some .int), (some .int), (some .int), (some .int), none, (some .int), none, (some .boolean), none, (some .int), (some .int), none, none, (some .int), (some .int), none, (some .boolean), (some .boolean), (some .boolean), (some .int), (some .boolean), none, (some .boolean), (some .boolean), (some .boolean), (some .int), (some .int), none, (some .int), none, (some .int), (some (.object "SnowSchool$Group")), (some .int), (some .int), (some .int), (some .int), (some .int), none, (some .int), (some .int), none, none, (some .boolean), (some .int), (some .boolean), (some .boolean), none, (some .boolean), (some .boolean), none, (some .boolean), none, (some .int), (some .int), (some .int), (some .int), (some .int), (some .int), (some .int), (some .int), (some .int), (some .int), (some .int), (some .int), (some .int), (some .int), (some .int), (some .int), (some .int), (some .int), (some .int), (some .int), (some .int), (some .int), (some .int), (some .int), (some .int), (some .int), (some .int), (some .int), (some .int), (some .int), (some .int), (some .int), (some .int), (some .int), (some .int), (some .int), (some .int), (some .int), (some .int), (some .boolean), (some .boolean), (some .boolean), (some .boolean), (some .boolean), none, (some .boolean), (some .int), (some .boolean), (some .boolean), (some .boolean), (some .int), (some .int), (some .int), (some .boolean), (some .boolean), (some .int), (some .int), (some .int), (some .int), (some .int), (some .int), (some .boolean), (some .int), (some .int), (some .int), (some .boolean), (some .int), (some .int), (some .boolean), (some .boolean), (some .boolean), (some .boolean), (some .int), (some .int), (some .int), (some .int), (some .int), (some .int), (some .int), (some .int), (some .int), (some .int), (some .boolean), (some .int), (some .int), (some .int), (some .int), (some .int), (some .int), (some .int), (some .int), (some .boolean), (some .boolean), (some .int), (some .int), (some .int), (some .int), (some .int), (some .int), (some .boolean), (some .boolean), (some .boolean), (some .boolean), (some .int), (some .int), (some .int), (some .int), (some .int), (some .int), (some .boolean), (some .int), (some .int), (some .int), (some .int), (some .int), (some .int), (some .boolean)]
def zm_np : List Nat := [1, 2, 2, 0, 2, 0, 4, 2, 2, 2, 1, 1, 2, 0, 0, 1, 1, 0, 0, 2, 3, 1, 2, 3, 2, 0, 0, 2, 3, 3, 1, 2, 3, 3, 1, 0, 1, 2, 1, 1, 0, 0, 1, 1, 1, 3, 2, 2, 1, 3, 1, 1, 2, 2, 2, 1, 1, 1, 0, 0, 0, 2, 0, 1, 2, 0, 0, 1, 1, 0, 1, 0, 3, 2, 3, 2, 2, 2, 2, 3, 2, 4, 1, 2, 0, 0, 0, 1, 2, 3, 2, 1, 1, 2, 2, 2, 1, 0, 4, 2, 1, 1, 2, 1, 3, 3, 5, 1, 1, 1, 1, 2, 2, 1, 2, 2, 0, 3, 1, 1, 1, 2, 1, 3, 2, 1, 1, 3, 1, 2, 2, 2, 2, 3, 3, 2, 4, 1, 1, 1, 2, 2, 1, 1, 2, 2, 0, 3, 1, 0, 0, 0, 0, 1, 1, 2, 3, 2, 1, 4, 3, 1, 2, 1, 2, 2, 2, 1, 0, 4, 2, 1, 1, 2, 1, 1, 1, 2, 1, 2, 1, 1, 3, 3, 5, 1, 1, 0, 1]
def zm_cn : List Nat := [13, 15, 15, 0, 0, 1, 1, 1, 1, 1, 1, 1, 1, 1, 2, 2, 2, 2, 3, 3, 3, 3, 3, 3, 3, 3, 4, 4, 4, 4, 4, 4, 4, 4, 4, 5, 5, 5, 5, 5, 5, 6, 6, 6, 6, 6, 6, 6, 6, 6, 6, 6, 6, 6, 6, 6, 6, 6, 6, 6, 7, 7, 7, 7, 7, 7, 8, 8, 8, 9, 9, 10, 10, 10, 10, 10, 10, 10, 10, 10, 10, 10, 10, 10, 10, 10, 10, 10, 10, 10, 10, 10, 10, 10, 10, 10, 10, 10, 10, 10, 10, 10, 10, 10, 10, 10, 10, 10, 10, 10, 10, 10, 10, 10, 10, 10, 11, 11, 11, 11, 11, 11, 11, 11, 11, 11, 11, 11, 11, 11, 11, 11, 11, 11, 11, 11, 11, 11, 11, 11, 11, 11, 11, 11, 11, 11, 11, 11, 11, 11, 11, 11, 11, 11, 11, 11, 11, 11, 11, 11, 11, 11, 11, 11, 11, 11, 11, 11, 11, 11, 11, 11, 11, 11, 11, 11, 11, 11, 11, 11, 11, 11, 11, 11, 11, 11, 11, 6, 12]
def zm_kd : List Nat := [1, 1, 1, 2, 0, 2, 0, 0, 0, 0, 1, 1, 0, 0, 2, 0, 0, 0, 2, 0, 0, 0, 0, 0, 0, 0, 2, 0, 0, 1, 1, 0, 0, 1, 0, 2, 0, 0, 0, 0, 0, 2, 0, 0, 0, 0, 0, 0, 0, 0, 0, 0, 0, 0, 0, 0, 0, 0, 0, 0, 2, 0, 0, 0, 0, 0, 2, 0, 0, 2, 0, 2, 0, 0, 0, 0, 0, 0, 0, 0, 0, 0, 0, 0, 0, 0, 0, 0, 0, 0, 0, 0, 0, 0, 0, 0, 0, 0, 0, 0, 0, 0, 0, 0, 0, 0, 0, 0, 0, 0, 0, 1, 1, 1, 1, 1, 2, 1, 0, 0, 0, 1, 1, 0, 0, 0, 0, 0, 0, 0, 0, 0, 0, 0, 0, 0, 0, 0, 0, 0, 0, 0, 0, 0, 0, 0, 0, 0, 0, 0, 0, 0, 0, 0, 1, 0, 0, 0, 0, 1, 0, 0, 0, 1, 0, 0, 0, 0, 0, 0, 0, 0, 0, 0, 0, 0, 0, 0, 0, 0, 0, 1, 0, 0, 0, 0, 0, 0, 1]
def zm_fr : List Nat := [1, 1, 1, 1, 1, 2, 1, 3, 2, 3, 1, 2, 2, 1, 1, 2, 2, 1, 2, 1, 1, 4, 4, 3, 2, 2, 1, 5, 4, 3, 1, 3, 1, 3, 2, 1, 1, 1, 1, 1, 1, 2, 2, 2, 1, 3, 3, 2, 2, 3, 2, 3, 3, 2, 2, 3, 3, 1, 1, 2, 1, 2, 1, 1, 1, 1, 1, 1, 2, 1, 1, 3, 4, 4, 3, 3, 3, 3, 4, 3, 3, 2, 4, 4, 6, 6, 6, 3, 3, 3, 2, 2, 5, 5, 3, 3, 3, 3, 3, 2, 4, 2, 4, 4, 3, 2, 2, 2, 2, 1, 2, 1, 1, 1, 2, 1, 1, 1, 1, 2, 2, 1, 1, 2, 2, 1, 1, 3, 2, 3, 3, 3, 3, 1, 3, 3, 2, 1, 2, 3, 2, 2, 2, 2, 3, 4, 1, 4, 5, 1, 6, 6, 6, 3, 2, 3, 3, 2, 3, 2, 3, 4, 4, 2, 1, 3, 3, 3, 2, 3, 2, 2, 1, 1, 2, 3, 3, 2, 3, 4, 4, 2, 3, 3, 3, 3, 2, 1, 8]
def zm_lo : List Nat := [60, 60, 60, 60, 60, 80, 60, 104, 82, 104, 60, 80, 81, 60, 60, 80, 81, 60, 80, 60, 60, 129, 129, 105, 81, 81, 60, 155, 124, 102, 60, 101, 60, 102, 80, 60, 60, 60, 60, 60, 60, 80, 81, 81, 60, 103, 103, 81, 81, 102, 81, 102, 102, 80, 80, 102, 102, 60, 60, 81, 60, 83, 60, 60, 60, 60, 60, 60, 81, 60, 60, 101, 129, 128, 102, 103, 102, 102, 125, 102, 102, 81, 124, 124, 181, 181, 181, 102, 102, 102, 81, 81, 155, 152, 102, 102, 102, 103, 102, 81, 129, 81, 132, 132, 105, 81, 82, 84, 82, 60, 81, 60, 60, 60, 81, 60, 60, 60, 60, 82, 82, 60, 60, 82, 82, 60, 60, 103, 81, 103, 103, 103, 103, 60, 103, 103, 82, 60, 81, 104, 81, 81, 81, 81, 105, 128, 60, 128, 153, 60, 180, 180, 180, 103, 82, 102, 102, 82, 102, 81, 104, 130, 130, 82, 60, 103, 103, 103, 81, 103, 82, 82, 60, 60, 82, 104, 103, 82, 107, 130, 130, 82, 102, 102, 102, 102, 81, 60, 286]
def zm_mc : List Nat := [0, 0, 0, 0, 0, 12, 0, 0, 0, 0, 0, 0, 0, 0, 0, 0, 0, 0, 17, 0, 0, 0, 0, 0, 0, 0, 10, 0, 0, 0, 0, 0, 0, 0, 0, 1, 0, 0, 0, 0, 0, 28, 0, 0, 0, 0, 0, 0, 0, 0, 0, 0, 0, 0, 0, 0, 0, 0, 0, 0, 1, 0, 0, 0, 0, 0, 0, 0, 0, 0, 0, 80, 0, 0, 0, 0, 0, 0, 0, 0, 0, 0, 0, 0, 0, 0, 0, 0, 0, 0, 0, 0, 0, 0, 0, 0, 0, 0, 0, 0, 0, 0, 0, 0, 0, 0, 0, 0, 0, 0, 0, 0, 0, 0, 0, 0, 33, 0, 0, 0, 0, 0, 0, 0, 0, 0, 0, 0, 0, 0, 0, 0, 0, 0, 0, 0, 0, 0, 0, 0, 0, 0, 0, 0, 0, 0, 0, 0, 0, 0, 0, 0, 0, 0, 0, 0, 0, 0, 0, 0, 0, 0, 0, 0, 0, 0, 0, 0, 0, 0, 0, 0, 0, 0, 0, 0, 0, 0, 0, 0, 0, 0, 0, 0, 0, 0, 0, 0, 0]
def zm_ms : List Nat := [0, 0, 0, 0, 0, 69, 0, 0, 0, 0, 0, 0, 0, 0, 0, 0, 0, 0, 76, 0, 0, 0, 0, 0, 0, 0, 6164, 0, 0, 0, 0, 0, 0, 0, 0, 3, 0, 0, 0, 0, 0, 174, 0, 0, 0, 0, 0, 0, 0, 0, 0, 0, 0, 0, 0, 0, 0, 0, 0, 0, 10, 0, 0, 0, 0, 0, 0, 0, 0, 0, 0, 6566, 0, 0, 0, 0, 0, 0, 0, 0, 0, 0, 0, 0, 0, 0, 0, 0, 0, 0, 0, 0, 0, 0, 0, 0, 0, 0, 0, 0, 0, 0, 0, 0, 0, 0, 0, 0, 0, 0, 0, 0, 0, 0, 0, 0, 11569, 0, 0, 0, 0, 0, 0, 0, 0, 0, 0, 0, 0, 0, 0, 0, 0, 0, 0, 0, 0, 0, 0, 0, 0, 0, 0, 0, 0, 0, 0, 0, 0, 0, 0, 0, 0, 0, 0, 0, 0, 0, 0, 0, 0, 0, 0, 0, 0, 0, 0, 0, 0, 0, 0, 0, 0, 0, 0, 0, 0, 0, 0, 0, 0, 0, 0, 0, 0, 0, 0, 0, 0]
/-- places in lw_tbl: code, initialized, static or instanceMethod, selects -/
def zm_ps : List (Nat × Nat × Nat × Nat) := [(543, 51, 542, 0), (591, 52, 590, 0), (587, 52, 586, 0), (325, 47, 324, 0), (786, 47, 784, 785), (318, 46, 317, 0), (770, 46, 768, 769), (782, 46, 780, 781), (790, 46, 789, 10), (802, 46, 800, 801), (806, 46, 805, 0), (809, 46, 808, 0), (818, 46, 816, 817), (869, 46, 867, 868), (76, 40, 75, 0), (540, 40, 538, 539), (550, 40, 548, 549), (557, 40, 555, 556), (267, 44, 266, 0), (673, 44, 671, 672), (681, 44, 679, 680), (697, 44, 695, 696), (724, 44, 722, 723), (701, 44, 700, 7), (710, 44, 709, 8), (715, 44, 714, 9), (238, 43, 237, 0), (580, 43, 578, 579), (584, 43, 583, 3), (608, 43, 607, 0), (615, 43, 614, 0), (623, 43, 622, 4), (632, 43, 631, 6), (600, 43, 599, 0), (627, 43, 626, 5), (119, 41, 118, 0), (465, 41, 463, 464), (509, 41, 507, 508), (732, 41, 730, 731), (737, 41, 735, 736), (745, 41, 743, 744), (66, 39, 65, 0), (455, 39, 453, 454), (451, 39, 449, 450), (532, 39, 530, 531), (425, 39, 423, 424), (443, 39, 441, 442), (429, 39, 428, 1), (479, 39, 477, 478), (500, 39, 498, 499), (484, 39, 482, 483), (536, 39, 534, 535), (566, 39, 564, 565), (612, 39, 610, 611), (604, 39, 602, 603), (657, 39, 655, 656), (648, 39, 646, 647), (636, 39, 634, 635), (640, 39, 638, 639), (757, 39, 755, 756), (373, 48, 372, 0), (828, 48, 826, 827), (837, 48, 835, 836), (842, 48, 840, 841), (850, 48, 848, 849), (861, 48, 859, 860), (165, 42, 164, 0), (459, 42, 457, 458), (571, 42, 569, 570), (274, 45, 273, 0), (706, 45, 704, 705), (58, 38, 57, 0), (410, 38, 408, 409), (439, 38, 437, 438), (447, 38, 445, 446), (472, 38, 470, 471), (488, 38, 486, 487), (492, 38, 490, 491), (496, 38, 494, 495), (505, 38, 503, 504), (520, 38, 518, 519), (524, 38, 522, 523), (528, 38, 526, 527), (562, 38, 560, 561), (576, 38, 574, 575), (644, 38, 642, 643), (653, 38, 651, 652), (662, 38, 660, 661), (666, 38, 664, 665), (677, 38, 675, 676), (685, 38, 683, 684), (689, 38, 687, 688), (693, 38, 691, 692), (720, 38, 718, 719), (728, 38, 726, 727), (741, 38, 739, 740), (749, 38, 747, 748), (753, 38, 751, 752), (763, 38, 761, 762), (774, 38, 772, 773), (778, 38, 776, 777), (794, 38, 792, 793), (798, 38, 796, 797), (814, 38, 812, 813), (824, 38, 822, 823), (833, 38, 831, 832), (846, 38, 844, 845), (857, 38, 855, 856), (865, 38, 863, 864), (421, 38, 420, 0), (434, 38, 433, 2), (413, 38, 412, 0), (475, 38, 474, 0), (416, 38, 415, 0), (669, 38, 668, 0), (766, 38, 765, 0), (874, 49, 873, 0), (1022, 49, 1021, 0), (1027, 49, 1026, 11), (1044, 49, 1043, 13), (1040, 49, 1039, 12), (1064, 49, 1063, 0), (1121, 49, 1120, 0), (1019, 49, 1017, 1018), (1032, 49, 1030, 1031), (1052, 49, 1051, 15), (1048, 49, 1047, 14), (1036, 49, 1034, 1035), (1061, 49, 1060, 16), (1057, 49, 1055, 1056), (1068, 49, 1066, 1067), (1072, 49, 1070, 1071), (1076, 49, 1074, 1075), (1084, 49, 1083, 17), (1080, 49, 1078, 1079), (1089, 49, 1087, 1088), (1093, 49, 1091, 1092), (1101, 49, 1100, 18), (1105, 49, 1104, 19), (1097, 49, 1095, 1096), (1118, 49, 1117, 21), (1125, 49, 1124, 22), (1129, 49, 1128, 23), (1133, 49, 1132, 24), (1114, 49, 1113, 20), (1110, 49, 1108, 1109), (1145, 49, 1144, 26), (1150, 49, 1149, 27), (1141, 49, 1140, 25), (1154, 49, 1153, 28), (1137, 49, 1135, 1136), (1158, 49, 1156, 1157), (1162, 49, 1160, 1161), (1166, 49, 1164, 1165), (1173, 49, 1172, 0), (1170, 49, 1168, 1169), (1177, 49, 1175, 1176), (1181, 49, 1179, 1180), (1185, 49, 1183, 1184), (1196, 49, 1195, 0), (1193, 49, 1192, 29), (1189, 49, 1187, 1188), (1200, 49, 1198, 1199), (1207, 49, 1206, 0), (1211, 49, 1210, 30), (1204, 49, 1202, 1203), (1216, 49, 1214, 1215), (1220, 49, 1218, 1219), (1224, 49, 1222, 1223), (1228, 49, 1226, 1227), (1232, 49, 1230, 1231), (1240, 49, 1239, 31), (1252, 49, 1251, 34), (1248, 49, 1247, 33), (1244, 49, 1243, 32), (1236, 49, 1234, 1235), (1256, 49, 1254, 1255), (1268, 49, 1267, 36), (1264, 49, 1263, 35), (1260, 49, 1258, 1259), (1272, 49, 1270, 1271), (1279, 49, 1278, 0), (1276, 49, 1274, 1275), (1283, 49, 1281, 1282), (1288, 49, 1286, 1287), (1292, 49, 1290, 1291), (1296, 49, 1294, 1295), (595, 39, 593, 594), (0, 0, 0, 0)]
def zm_cls : List String := [RX0, RX1, RX2, RX3, RX4, RX5, RX6, RX7, RX8, RX9, RX10, RX11, RL, RJ6, RJ9, RJ7]
def zy (i : Nat) : MethodName := zm_y.getD i yL_law
def zb (i : Nat) : ByteArray := zm_b.getD i cL_law
def znl (i : Nat) : Nat := zm_nl.getD i 0
def znp (i : Nat) : Nat := zm_np.getD i 0
def zcn (i : Nat) : Nat := zm_cn.getD i 0
def zkd (i : Nat) : Nat := zm_kd.getD i 0
def zfr (i : Nat) : Nat := zm_fr.getD i 0
def zlo (i : Nat) : Nat := zm_lo.getD i 0
def zmc (i : Nat) : Nat := zm_mc.getD i 0
def zms (i : Nat) : Nat := zm_ms.getD i 0
def zrt (i : Nat) : Option FieldType := zm_rt.getD i none
def zps (i : Nat) : Nat × Nat × Nat × Nat := zm_ps.getD i (0, 0, 0, 0)
def zcl (i : Nat) : String := zm_cls.getD i ""
/-- a call: class, pool index, the callee (900 Object.<init>, 901 arraycopy), 1 by the nest, place -/
def zm_lk : List ((Nat × Nat) × (Nat × Nat × Nat)) := [((12, 9), (71, 0, 56)), ((10, 1), (900, 0, 59)), ((10, 9), (41, 0, 64)), ((6, 3), (900, 0, 67)), ((6, 38), (14, 1, 74)), ((2, 3), (900, 0, 77)), ((6, 43), (35, 1, 117)), ((5, 3), (900, 0, 120)), ((6, 44), (66, 1, 163)), ((8, 3), (900, 0, 166)), ((10, 18), (26, 1, 236)), ((4, 3), (900, 0, 239)), ((10, 25), (18, 0, 265)), ((3, 3), (900, 0, 268)), ((3, 24), (69, 1, 272)), ((9, 1), (900, 0, 275)), ((10, 32), (5, 0, 316)), ((1, 3), (900, 0, 319)), ((1, 28), (3, 1, 323)), ((0, 1), (900, 0, 326)), ((10, 43), (60, 1, 371)), ((7, 3), (900, 0, 374)), ((12, 13), (72, 0, 407)), ((10, 44), (111, 0, 411)), ((10, 48), (113, 0, 414)), ((10, 53), (109, 0, 418)), ((10, 57), (45, 0, 422)), ((6, 67), (47, 0, 426)), ((6, 48), (111, 1, 430)), ((10, 61), (110, 0, 431)), ((12, 18), (73, 0, 436)), ((10, 64), (46, 0, 440)), ((12, 23), (74, 0, 444)), ((10, 68), (43, 0, 448)), ((10, 71), (42, 0, 452)), ((10, 78), (67, 0, 456)), ((10, 87), (36, 0, 462)), ((12, 28), (75, 0, 469)), ((10, 110), (112, 0, 473)), ((10, 116), (48, 0, 476)), ((6, 79), (112, 1, 480)), ((10, 119), (50, 0, 481)), ((12, 32), (76, 0, 485)), ((12, 37), (77, 0, 489)), ((12, 41), (78, 0, 493)), ((10, 125), (49, 0, 497)), ((6, 82), (43, 0, 501)), ((12, 45), (79, 0, 502)), ((10, 129), (37, 0, 506)), ((5, 34), (902, 0, 510)), ((5, 40), (903, 0, 513)), ((12, 49), (80, 0, 517)), ((12, 53), (81, 0, 521)), ((12, 58), (82, 0, 525)), ((10, 149), (44, 0, 529)), ((10, 152), (51, 0, 533)), ((6, 89), (15, 0, 537)), ((2, 15), (0, 0, 541)), ((6, 93), (16, 0, 547)), ((2, 51), (902, 0, 551)), ((2, 60), (903, 0, 552)), ((2, 69), (36, 0, 553)), ((10, 156), (17, 0, 554)), ((12, 63), (83, 0, 559)), ((10, 166), (52, 0, 563)), ((6, 104), (17, 0, 567)), ((6, 123), (68, 0, 568)), ((8, 28), (67, 0, 572)), ((12, 67), (84, 0, 573)), ((10, 170), (27, 0, 577)), ((4, 36), (28, 0, 581)), ((4, 59), (2, 0, 585)), ((4, 42), (1, 0, 589)), ((4, 65), (187, 0, 592)), ((4, 69), (51, 0, 596)), ((4, 77), (52, 0, 597)), ((4, 81), (33, 0, 598)), ((4, 107), (54, 0, 601)), ((6, 127), (0, 0, 605)), ((4, 85), (29, 0, 606)), ((4, 103), (53, 0, 609)), ((4, 55), (30, 0, 613)), ((4, 88), (904, 0, 616)), ((4, 99), (902, 0, 619)), ((4, 51), (31, 0, 620)), ((4, 110), (34, 0, 624)), ((4, 117), (0, 0, 628)), ((4, 113), (32, 0, 629)), ((10, 178), (57, 0, 633)), ((10, 182), (58, 0, 637)), ((12, 72), (85, 0, 641)), ((10, 186), (56, 0, 645)), ((6, 137), (54, 0, 649)), ((12, 76), (86, 0, 650)), ((10, 190), (55, 0, 654)), ((6, 133), (53, 0, 658)), ((12, 80), (87, 0, 659)), ((12, 84), (88, 0, 663)), ((10, 196), (114, 0, 667)), ((10, 199), (19, 0, 670)), ((12, 88), (89, 0, 674)), ((10, 202), (20, 0, 678)), ((12, 92), (90, 0, 682)), ((12, 96), (91, 0, 686)), ((12, 100), (92, 0, 690)), ((10, 220), (21, 0, 694)), ((3, 41), (23, 0, 698)), ((3, 53), (2, 0, 702)), ((3, 45), (70, 0, 703)), ((3, 59), (24, 0, 707)), ((3, 67), (111, 1, 711)), ((3, 63), (25, 0, 712)), ((3, 49), (112, 1, 716)), ((12, 104), (93, 0, 717)), ((10, 223), (22, 0, 721)), ((12, 108), (94, 0, 725)), ((10, 226), (38, 0, 729)), ((10, 230), (39, 0, 734)), ((12, 112), (95, 0, 738)), ((10, 233), (40, 0, 742)), ((12, 116), (96, 0, 746)), ((12, 120), (97, 0, 750)), ((10, 236), (59, 0, 754)), ((6, 140), (36, 0, 758)), ((6, 143), (40, 0, 759)), ((12, 124), (98, 0, 760)), ((10, 239), (115, 0, 764)), ((10, 242), (6, 0, 767)), ((12, 128), (99, 0, 771)), ((12, 132), (100, 0, 775)), ((10, 267), (7, 0, 779)), ((1, 48), (4, 0, 783)), ((1, 52), (8, 0, 787)), ((12, 136), (101, 0, 791)), ((12, 140), (102, 0, 795)), ((10, 274), (9, 0, 799)), ((1, 64), (902, 0, 803)), ((10, 278), (10, 0, 804)), ((10, 281), (11, 0, 807)), ((1, 70), (10, 0, 810)), ((12, 144), (103, 0, 811)), ((10, 284), (12, 0, 815)), ((1, 74), (112, 1, 819)), ((10, 288), (0, 0, 820)), ((12, 148), (104, 0, 821)), ((10, 293), (61, 0, 825)), ((7, 22), (2, 0, 829)), ((12, 152), (105, 0, 830)), ((10, 299), (62, 0, 834)), ((10, 306), (63, 0, 839)), ((12, 156), (106, 0, 843)), ((10, 312), (64, 0, 847)), ((10, 315), (901, 0, 851)), ((12, 161), (107, 0, 854)), ((10, 324), (65, 0, 858)), ((12, 165), (108, 0, 862)), ((10, 333), (13, 0, 866)), ((12, 12), (116, 0, 872)), ((11, 1), (900, 0, 875)), ((12, 17), (123, 0, 1016)), ((11, 135), (117, 0, 1020)), ((11, 143), (118, 0, 1024)), ((12, 22), (124, 0, 1029)), ((12, 27), (127, 0, 1033)), ((11, 148), (120, 0, 1037)), ((11, 152), (119, 0, 1041)), ((11, 155), (126, 0, 1045)), ((11, 158), (125, 0, 1049)), ((12, 31), (129, 0, 1054)), ((11, 166), (128, 0, 1058)), ((11, 162), (121, 0, 1062)), ((12, 36), (130, 0, 1065)), ((12, 40), (131, 0, 1069)), ((12, 44), (132, 0, 1073)), ((12, 48), (134, 0, 1077)), ((11, 169), (133, 0, 1081)), ((12, 52), (135, 0, 1086)), ((12, 57), (136, 0, 1090)), ((12, 62), (139, 0, 1094)), ((11, 173), (137, 0, 1098)), ((11, 176), (138, 0, 1102)), ((12, 66), (145, 0, 1107)), ((11, 195), (144, 0, 1111)), ((11, 180), (140, 0, 1115)), ((11, 183), (122, 0, 1119)), ((11, 186), (141, 0, 1122)), ((11, 189), (142, 0, 1126)), ((11, 192), (143, 0, 1130)), ((12, 71), (150, 0, 1134)), ((11, 208), (148, 0, 1138)), ((11, 200), (146, 0, 1142)), ((11, 204), (147, 0, 1147)), ((11, 212), (149, 0, 1151)), ((12, 75), (151, 0, 1155)), ((12, 79), (152, 0, 1159)), ((12, 83), (153, 0, 1163)), ((12, 87), (155, 0, 1167)), ((11, 215), (154, 0, 1171)), ((12, 91), (156, 0, 1174)), ((12, 95), (157, 0, 1178)), ((12, 99), (158, 0, 1182)), ((12, 103), (161, 0, 1186)), ((11, 231), (160, 0, 1190)), ((11, 227), (159, 0, 1194)), ((12, 107), (162, 0, 1197)), ((12, 111), (165, 0, 1201)), ((11, 235), (163, 0, 1205)), ((11, 238), (164, 0, 1208)), ((12, 115), (166, 0, 1213)), ((12, 119), (167, 0, 1217)), ((12, 123), (168, 0, 1221)), ((12, 127), (169, 0, 1225)), ((12, 131), (170, 0, 1229)), ((12, 135), (175, 0, 1233)), ((11, 251), (171, 0, 1237)), ((11, 254), (174, 0, 1241)), ((11, 245), (173, 0, 1245)), ((11, 248), (172, 0, 1249)), ((12, 139), (176, 0, 1253)), ((12, 143), (179, 0, 1257)), ((11, 260), (178, 0, 1261)), ((11, 257), (177, 0, 1265)), ((12, 147), (180, 0, 1269)), ((12, 151), (182, 0, 1273)), ((11, 263), (181, 0, 1277)), ((12, 155), (183, 0, 1280)), ((12, 160), (184, 0, 1285)), ((12, 164), (185, 0, 1289)), ((12, 168), (186, 0, 1293))]
def zm_fl : List ((Nat × Nat) × (Nat × Nat × Nat)) := [((2, 9), (2, 0, 78)), ((6, 101), (2, 0, 79)), ((2, 21), (2, 1, 80)), ((4, 94), (2, 1, 81)), ((6, 108), (2, 1, 82)), ((2, 24), (2, 2, 83)), ((8, 25), (2, 2, 84)), ((10, 162), (2, 2, 85)), ((2, 27), (2, 3, 86)), ((2, 30), (2, 4, 87)), ((6, 117), (2, 4, 88)), ((2, 33), (2, 5, 89)), ((6, 114), (2, 5, 90)), ((2, 36), (2, 6, 91)), ((6, 120), (2, 6, 92)), ((2, 39), (2, 7, 93)), ((6, 111), (2, 7, 94)), ((2, 43), (2, 8, 95)), ((8, 19), (2, 8, 96)), ((5, 25), (5, 0, 121)), ((6, 55), (5, 0, 122)), ((10, 91), (5, 0, 123)), ((2, 63), (5, 1, 124)), ((6, 58), (5, 1, 125)), ((10, 95), (5, 1, 126)), ((6, 61), (5, 2, 127)), ((10, 98), (5, 2, 128)), ((5, 31), (5, 3, 129)), ((2, 46), (5, 3, 130)), ((10, 101), (5, 3, 131)), ((5, 9), (5, 4, 132)), ((2, 57), (5, 4, 133)), ((10, 104), (5, 4, 134)), ((5, 15), (5, 5, 135)), ((2, 66), (5, 5, 136)), ((10, 113), (5, 5, 137)), ((5, 18), (5, 6, 138)), ((5, 43), (5, 7, 139)), ((5, 22), (5, 8, 140)), ((10, 122), (5, 8, 141)), ((8, 9), (8, 0, 167)), ((6, 71), (8, 0, 168)), ((6, 72), (8, 1, 169)), ((1, 56), (8, 2, 170)), ((10, 133), (8, 2, 171)), ((6, 97), (8, 2, 172)), ((6, 73), (8, 3, 173)), ((6, 76), (8, 4, 174)), ((1, 61), (8, 5, 175)), ((6, 86), (8, 5, 176)), ((10, 193), (8, 5, 177)), ((6, 11), (6, 0, 191)), ((10, 83), (6, 0, 192)), ((6, 45), (6, 1, 193)), ((10, 321), (6, 1, 194)), ((6, 19), (6, 2, 195)), ((4, 73), (6, 2, 196)), ((10, 74), (6, 2, 197)), ((4, 48), (6, 3, 198)), ((6, 52), (6, 3, 199)), ((10, 327), (6, 3, 200)), ((4, 30), (6, 4, 201)), ((6, 64), (6, 4, 202)), ((10, 107), (6, 4, 203)), ((6, 23), (6, 5, 204)), ((10, 137), (6, 5, 205)), ((6, 27), (6, 6, 206)), ((10, 140), (6, 6, 207)), ((6, 30), (6, 7, 208)), ((10, 143), (6, 7, 209)), ((6, 33), (6, 8, 210)), ((10, 146), (6, 8, 211)), ((6, 39), (6, 9, 212)), ((4, 13), (4, 0, 242)), ((4, 16), (4, 1, 243)), ((4, 20), (4, 2, 244)), ((4, 62), (4, 3, 245)), ((4, 24), (4, 4, 246)), ((4, 27), (4, 5, 247)), ((10, 174), (4, 5, 248)), ((3, 29), (9, 0, 276)), ((3, 32), (9, 1, 277)), ((9, 13), (9, 2, 278)), ((3, 38), (9, 2, 279)), ((9, 7), (9, 3, 280)), ((10, 212), (9, 3, 281)), ((3, 11), (3, 0, 291)), ((10, 208), (3, 0, 292)), ((3, 25), (3, 1, 293)), ((10, 205), (3, 1, 294)), ((3, 17), (3, 2, 295)), ((3, 35), (3, 3, 296)), ((10, 330), (3, 3, 297)), ((3, 70), (3, 4, 298)), ((10, 217), (3, 4, 299)), ((3, 20), (3, 5, 300)), ((1, 32), (0, 0, 327)), ((10, 264), (0, 0, 328)), ((0, 7), (0, 1, 329)), ((1, 35), (0, 1, 330)), ((0, 13), (0, 2, 331)), ((1, 38), (0, 2, 332)), ((1, 41), (0, 3, 333)), ((10, 271), (0, 3, 334)), ((1, 44), (0, 4, 335)), ((10, 259), (0, 4, 336)), ((1, 11), (1, 0, 348)), ((10, 255), (1, 0, 349)), ((1, 29), (1, 1, 350)), ((10, 252), (1, 1, 351)), ((1, 17), (1, 2, 352)), ((10, 246), (1, 2, 353)), ((1, 21), (1, 3, 354)), ((10, 249), (1, 3, 355)), ((1, 24), (1, 4, 356)), ((7, 15), (7, 0, 375)), ((10, 309), (7, 0, 376)), ((7, 19), (7, 1, 377)), ((10, 296), (7, 1, 378)), ((7, 9), (7, 2, 379)), ((10, 303), (7, 2, 380)), ((10, 10), (10, 0, 388)), ((10, 19), (10, 1, 389)), ((10, 26), (10, 2, 390)), ((10, 33), (10, 3, 391)), ((10, 39), (10, 4, 392)), ((10, 336), (10, 5, 393)), ((11, 132), (11, 0, 876)), ((11, 139), (11, 1, 877)), ((11, 218), (11, 2, 878)), ((11, 221), (11, 3, 879)), ((11, 242), (11, 4, 880)), ((11, 129), (11, 5, 881)), ((11, 7), (11, 6, 882)), ((11, 13), (11, 7, 883)), ((11, 16), (11, 8, 884)), ((11, 19), (11, 9, 885)), ((11, 224), (11, 10, 886)), ((11, 22), (11, 11, 887)), ((11, 25), (11, 12, 888)), ((11, 28), (11, 13, 889)), ((11, 32), (11, 14, 890)), ((11, 35), (11, 15, 891)), ((11, 38), (11, 16, 892)), ((11, 41), (11, 17, 893)), ((11, 44), (11, 18, 894)), ((11, 47), (11, 19, 895)), ((11, 50), (11, 20, 896)), ((11, 53), (11, 21, 897)), ((11, 56), (11, 22, 898)), ((11, 59), (11, 23, 899)), ((11, 63), (11, 24, 900)), ((11, 66), (11, 25, 901)), ((11, 69), (11, 26, 902)), ((11, 72), (11, 27, 903)), ((11, 75), (11, 28, 904)), ((11, 78), (11, 29, 905)), ((11, 81), (11, 30, 906)), ((11, 84), (11, 31, 907)), ((11, 87), (11, 32, 908)), ((11, 90), (11, 33, 909)), ((11, 93), (11, 34, 910)), ((11, 96), (11, 35, 911)), ((11, 99), (11, 36, 912)), ((11, 102), (11, 37, 913)), ((11, 105), (11, 38, 914)), ((11, 108), (11, 39, 915)), ((11, 111), (11, 40, 916)), ((11, 114), (11, 41, 917)), ((11, 117), (11, 42, 918)), ((11, 120), (11, 43, 919)), ((11, 123), (11, 44, 920)), ((11, 126), (11, 45, 921))]
def zm_sl : List ((Nat × Nat) × (Nat × Nat)) := [((8, 15), (109, 460)), ((5, 28), (108, 466))]
def zm_cs : List ((Nat × Nat) × (Int32 × Nat)) := [((10, 52), (-1000001, 417)), ((10, 339), (-1000002, 435)), ((10, 90), (-1000003, 468)), ((10, 132), (-1000005, 516)), ((13, 265), (1431655765, 544)), ((13, 266), (858993459, 545)), ((13, 267), (252645135, 546)), ((10, 165), (-1000004, 558)), ((10, 229), (-1000007, 733)), ((10, 302), (-1000006, 838)), ((11, 142), (-1000001, 1023)), ((11, 147), (-1000002, 1028)), ((11, 161), (-1000003, 1053)), ((11, 172), (-1000005, 1085)), ((11, 179), (-1000004, 1106)), ((11, 199), (1000000000, 1146)), ((11, 241), (-1000007, 1212)), ((11, 266), (-1000006, 1284))]
def zm_cl : List ((Nat × Nat) × (Int64 × Nat)) := [((4, 40), (2305843009213693952, 588))]
def zm_nc : List ((Nat × Nat) × (Nat × Nat)) := [((12, 7), (10, 54)), ((10, 7), (6, 62)), ((6, 9), (5, 68)), ((6, 17), (8, 70)), ((6, 36), (2, 72)), ((10, 16), (4, 234)), ((10, 23), (3, 263)), ((3, 9), (9, 269)), ((10, 30), (1, 314)), ((1, 9), (0, 320)), ((10, 37), (7, 368)), ((12, 10), (11, 870))]
-- the layout: a group's tag and length
def zg_L : List (Nat × Nat × Nat) := [(0, 0, 5), (1, 1, 5), (2, 2, 9), (3, 3, 6), (4, 4, 6), (5, 5, 9), (6, 6, 10), (7, 7, 3), (8, 8, 6), (9, 9, 4), (10, 10, 6), (11, 11, 46), (12, 9, 4), (40, 35, 10), (41, 38, 5), (42, 20, 3), (43, 29, 5), (44, 22, 1024), (45, 20, 5), (46, 22, 1024), (47, 20, 5), (48, 39, 6), (49, 39, 8), (50, 20, 6), (51, 30, 10), (52, 20, 9), (53, 37, 4), (54, 20, 10), (55, 22, 5), (73, 20, 10), (74, 20, 10), (75, 20, 10), (76, 20, 10), (77, 20, 10), (78, 20, 10), (79, 20, 10), (80, 20, 10), (81, 20, 10), (82, 20, 30), (83, 21, 10), (84, 20, 5), (85, 20, 5), (86, 20, 5), (87, 21, 5), (88, 20, 6), (89, 20, 6), (90, 20, 8), (91, 20, 8), (92, 20, 8), (93, 21, 6), (94, 20, 10), (95, 20, 10), (96, 20, 10), (97, 20, 10), (98, 21, 10), (99, 20, 4), (100, 20, 4), (101, 20, 40), (102, 20, 6144), (103, 20, 5120), (104, 20, 5), (105, 20, 10)]
def zg (g : Nat) : Nat × Nat := match zg_L.lookup g with | some x => x | none => (99, 0)
def tg (g : Nat) : Nat := (zg g).1
def lg (g : Nat) : Nat := (zg g).2
def zn_L : List (Nat × Nat) := [(10, 0), (6, 0), (40, 0), (41, 0), (2, 0), (5, 0), (42, 0), (5, 1), (42, 1), (5, 2), (42, 2), (5, 3), (42, 3), (5, 4), (42, 4), (5, 5), (42, 5), (5, 6), (42, 6), (5, 7), (42, 7), (5, 8), (42, 8), (5, 9), (42, 9), (8, 0), (8, 1), (8, 2), (8, 3), (8, 4), (4, 0), (43, 0), (44, 0), (44, 1), (44, 2), (44, 3), (44, 4), (45, 0), (55, 0), (46, 0), (47, 0), (3, 0), (48, 0), (49, 0), (50, 0), (9, 0), (9, 1), (9, 2), (9, 3), (9, 4), (9, 5), (12, 0), (12, 1), (12, 2), (12, 3), (12, 4), (12, 5), (12, 6), (12, 7), (1, 0), (51, 0), (52, 0), (0, 0), (0, 1), (0, 2), (0, 3), (0, 4), (0, 5), (0, 6), (0, 7), (0, 8), (0, 9), (53, 0), (7, 0), (54, 0), (7, 1), (54, 1), (7, 2), (54, 2), (7, 3), (54, 3), (11, 0), (73, 0), (74, 0), (75, 0), (76, 0), (77, 0), (78, 0), (79, 0), (80, 0), (81, 0), (82, 0), (83, 0), (84, 0), (85, 0), (86, 0), (87, 0), (88, 0), (89, 0), (90, 0), (91, 0), (92, 0), (93, 0), (94, 0), (95, 0), (96, 0), (97, 0), (98, 0), (99, 0), (100, 0), (101, 0), (102, 0), (103, 0), (104, 0), (105, 0)]
def zn (k : Nat) : Nat × Nat := zn_L.getD k (99, k)
def zN : Nat := 115
def zNX : Nat := 81
def zsl : Nat → Nat
  | 0 => 0
  | n + 1 => zsl n + lg (zn n).1
def zTc (c : Nat) : u_T := match c with
  | 0 => TX0
  | 1 => TX1
  | 2 => TX2
  | 3 => TX3
  | 4 => TX4
  | 5 => TX5
  | 6 => TX6
  | 7 => TX7
  | 8 => TX8
  | 9 => TX9
  | 10 => TX10
  | _ => TX11
def zty (c : Nat) : Nat → FieldType := match c with
  | 0 => tyX0
  | 1 => tyX1
  | 2 => tyX2
  | 3 => tyX3
  | 4 => tyX4
  | 5 => tyX5
  | 6 => tyX6
  | 7 => tyX7
  | 8 => tyX8
  | 9 => tyX9
  | 10 => tyX10
  | _ => tyX11
def zNc (c : Nat) : Nat := lg c
/-- the type of an array's parts, by its tag -/
def zat (t : Nat) : FieldType := if t = 20 then .int else if t = 21 then .boolean else if t = 22 then .long else if t = 29 then .array .long else .object (zcl (t - 30))
def zarr : List Nat := [20, 21, 22, 29, 30, 35, 37, 38, 39]
def zgw : List Cond := lw_tbl.filter goodWord
/-- the word stands at this place, and is kept -/
def zat_ (k : Nat) (w : Cond) : Bool := decide (lw_tbl[k]? = some w) && goodWord w
theorem zat_in {k : Nat} {w : Cond} (h : zat_ k w = true) : w ∈ zgw := by
  unfold zat_ at h
  rw [Bool.and_eq_true, decide_eq_true_eq] at h
  exact List.mem_filter.mpr ⟨List.mem_of_getElem? h.1, h.2⟩
def zk_m (i : Nat) : Bool := zat_ (zps i).1 (Cond.code (zy i) (zb i) (znl i) (zrt i)) && zat_ (zps i).2.1 (Cond.initialized (zy i).cls) && zat_ (zps i).2.2.1 (if zkd i = 1 then Cond.static (zy i) else Cond.instanceMethod (zy i)) && (decide (¬ zkd i = 0) || zat_ (zps i).2.2.2 (Cond.selects (zy i).cls (zy i) (zy i)))
set_option maxRecDepth 100000 in
theorem zk_m_0 : ((List.range 8).all (fun i => zk_m (0 + i))) = true := by decide +kernel
set_option maxRecDepth 100000 in
theorem zk_m_1 : ((List.range 8).all (fun i => zk_m (8 + i))) = true := by decide +kernel
set_option maxRecDepth 100000 in
theorem zk_m_2 : ((List.range 8).all (fun i => zk_m (16 + i))) = true := by decide +kernel
set_option maxRecDepth 100000 in
theorem zk_m_3 : ((List.range 8).all (fun i => zk_m (24 + i))) = true := by decide +kernel
set_option maxRecDepth 100000 in
theorem zk_m_4 : ((List.range 8).all (fun i => zk_m (32 + i))) = true := by decide +kernel
set_option maxRecDepth 100000 in
theorem zk_m_5 : ((List.range 8).all (fun i => zk_m (40 + i))) = true := by decide +kernel
set_option maxRecDepth 100000 in
theorem zk_m_6 : ((List.range 8).all (fun i => zk_m (48 + i))) = true := by decide +kernel
set_option maxRecDepth 100000 in
theorem zk_m_7 : ((List.range 8).all (fun i => zk_m (56 + i))) = true := by decide +kernel
set_option maxRecDepth 100000 in
theorem zk_m_8 : ((List.range 8).all (fun i => zk_m (64 + i))) = true := by decide +kernel
set_option maxRecDepth 100000 in
theorem zk_m_9 : ((List.range 8).all (fun i => zk_m (72 + i))) = true := by decide +kernel
set_option maxRecDepth 100000 in
theorem zk_m_10 : ((List.range 8).all (fun i => zk_m (80 + i))) = true := by decide +kernel
set_option maxRecDepth 100000 in
theorem zk_m_11 : ((List.range 8).all (fun i => zk_m (88 + i))) = true := by decide +kernel
set_option maxRecDepth 100000 in
theorem zk_m_12 : ((List.range 8).all (fun i => zk_m (96 + i))) = true := by decide +kernel
set_option maxRecDepth 100000 in
theorem zk_m_13 : ((List.range 8).all (fun i => zk_m (104 + i))) = true := by decide +kernel
set_option maxRecDepth 100000 in
theorem zk_m_14 : ((List.range 8).all (fun i => zk_m (112 + i))) = true := by decide +kernel
set_option maxRecDepth 100000 in
theorem zk_m_15 : ((List.range 8).all (fun i => zk_m (120 + i))) = true := by decide +kernel
set_option maxRecDepth 100000 in
theorem zk_m_16 : ((List.range 8).all (fun i => zk_m (128 + i))) = true := by decide +kernel
set_option maxRecDepth 100000 in
theorem zk_m_17 : ((List.range 8).all (fun i => zk_m (136 + i))) = true := by decide +kernel
set_option maxRecDepth 100000 in
theorem zk_m_18 : ((List.range 8).all (fun i => zk_m (144 + i))) = true := by decide +kernel
set_option maxRecDepth 100000 in
theorem zk_m_19 : ((List.range 8).all (fun i => zk_m (152 + i))) = true := by decide +kernel
set_option maxRecDepth 100000 in
theorem zk_m_20 : ((List.range 8).all (fun i => zk_m (160 + i))) = true := by decide +kernel
set_option maxRecDepth 100000 in
theorem zk_m_21 : ((List.range 8).all (fun i => zk_m (168 + i))) = true := by decide +kernel
set_option maxRecDepth 100000 in
theorem zk_m_22 : ((List.range 8).all (fun i => zk_m (176 + i))) = true := by decide +kernel
set_option maxRecDepth 100000 in
theorem zk_m_23 : ((List.range 4).all (fun i => zk_m (184 + i))) = true := by decide +kernel
def zmids : Nat := 188
theorem zk_m_at (q n : Nat) (h : ((List.range n).all (fun i => zk_m (q + i))) = true) (i : Nat) (h1 : q ≤ i) (h2 : i < q + n) : zk_m i = true := by
  have := List.all_eq_true.mp h (i - q) (List.mem_range.mpr (by omega))
  rwa [show q + (i - q) = i by omega] at this
theorem zk_m_all (i : Nat) (h : i < zmids) : zk_m i = true := by
  unfold zmids at h
  by_cases h0 : i < 8
  · exact zk_m_at 0 8 zk_m_0 i (by omega) (by omega)
  by_cases h1 : i < 16
  · exact zk_m_at 8 8 zk_m_1 i (by omega) (by omega)
  by_cases h2 : i < 24
  · exact zk_m_at 16 8 zk_m_2 i (by omega) (by omega)
  by_cases h3 : i < 32
  · exact zk_m_at 24 8 zk_m_3 i (by omega) (by omega)
  by_cases h4 : i < 40
  · exact zk_m_at 32 8 zk_m_4 i (by omega) (by omega)
  by_cases h5 : i < 48
  · exact zk_m_at 40 8 zk_m_5 i (by omega) (by omega)
  by_cases h6 : i < 56
  · exact zk_m_at 48 8 zk_m_6 i (by omega) (by omega)
  by_cases h7 : i < 64
  · exact zk_m_at 56 8 zk_m_7 i (by omega) (by omega)
  by_cases h8 : i < 72
  · exact zk_m_at 64 8 zk_m_8 i (by omega) (by omega)
  by_cases h9 : i < 80
  · exact zk_m_at 72 8 zk_m_9 i (by omega) (by omega)
  by_cases h10 : i < 88
  · exact zk_m_at 80 8 zk_m_10 i (by omega) (by omega)
  by_cases h11 : i < 96
  · exact zk_m_at 88 8 zk_m_11 i (by omega) (by omega)
  by_cases h12 : i < 104
  · exact zk_m_at 96 8 zk_m_12 i (by omega) (by omega)
  by_cases h13 : i < 112
  · exact zk_m_at 104 8 zk_m_13 i (by omega) (by omega)
  by_cases h14 : i < 120
  · exact zk_m_at 112 8 zk_m_14 i (by omega) (by omega)
  by_cases h15 : i < 128
  · exact zk_m_at 120 8 zk_m_15 i (by omega) (by omega)
  by_cases h16 : i < 136
  · exact zk_m_at 128 8 zk_m_16 i (by omega) (by omega)
  by_cases h17 : i < 144
  · exact zk_m_at 136 8 zk_m_17 i (by omega) (by omega)
  by_cases h18 : i < 152
  · exact zk_m_at 144 8 zk_m_18 i (by omega) (by omega)
  by_cases h19 : i < 160
  · exact zk_m_at 152 8 zk_m_19 i (by omega) (by omega)
  by_cases h20 : i < 168
  · exact zk_m_at 160 8 zk_m_20 i (by omega) (by omega)
  by_cases h21 : i < 176
  · exact zk_m_at 168 8 zk_m_21 i (by omega) (by omega)
  by_cases h22 : i < 184
  · exact zk_m_at 176 8 zk_m_22 i (by omega) (by omega)
  exact zk_m_at 184 4 zk_m_23 i (by omega) (by omega)
def zk_n (i : Nat) : Bool := plainName (zy i).cls && decide ((zy i).cls ≠ "java/lang/invoke/MethodHandle" ∧ (zy i).cls ≠ "java/lang/invoke/VarHandle" ∧ (parseMethodDescriptor (zy i).desc).map (fun d => d.parameters.length) = some (znp i)) && decide ((zy i).cls = zcl (zcn i)) && (decide (zkd i = 2) == decide ((zy i).name = "<init>")) && (decide (zkd i = 1) || decide (zcn i < 12))
set_option maxRecDepth 100000 in
theorem zk_n_all : ((List.range 189).all zk_n) = true := by decide +kernel
def zk_l (q : (Nat × Nat) × (Nat × Nat × Nat)) : Bool := (decide (q.2.1 < zmids) && (if q.2.2.1 = 1 then decide (lw_tbl[q.2.2.2]? = some (Cond.methodLinkNest (zcl q.1.1) q.1.2 (zy q.2.1) "SnowSchool")) else zat_ q.2.2.2 (Cond.methodLink (zcl q.1.1) q.1.2 (zy q.2.1)))) || (decide (q.2.1 = 900) && zat_ q.2.2.2 (Cond.methodLink (zcl q.1.1) q.1.2 objectInit)) || (decide (q.2.1 = 901) && zat_ q.2.2.2 (Cond.methodLink (zcl q.1.1) q.1.2 arraycopyName)) || (decide (q.2.1 = 902) && zat_ q.2.2.2 (Cond.methodLink (zcl q.1.1) q.1.2 Lib.Math.max.name)) || (decide (q.2.1 = 903) && zat_ q.2.2.2 (Cond.methodLink (zcl q.1.1) q.1.2 Lib.Math.min.name)) || (decide (q.2.1 = 904) && zat_ q.2.2.2 (Cond.methodLink (zcl q.1.1) q.1.2 Lib.MathLoose.min_long.x))
set_option maxRecDepth 100000 in
theorem zk_l_all : (zm_lk.all zk_l) = true := by decide +kernel
def zk_f (q : (Nat × Nat) × (Nat × Nat × Nat)) : Bool := decide (q.2.1 < 12) && decide (q.2.2.1 < lg q.2.1) && zat_ q.2.2.2 (Cond.fieldLink (zcl q.1.1) q.1.2 (zTc q.2.1 q.2.2.1).1 (zTc q.2.1 q.2.2.1).2.1 (zTc q.2.1 q.2.2.1).2.2.1) && decide ((zTc q.2.1 q.2.2.1).1 = zcl q.2.1)
set_option maxRecDepth 100000 in
theorem zk_f_all : (zm_fl.all zk_f) = true := by decide +kernel
def zk_c (q : (Nat × Nat) × (Int32 × Nat)) : Bool := zat_ q.2.2 (Cond.constant (zcl q.1.1) q.1.2 q.2.1)
set_option maxRecDepth 100000 in
theorem zk_c_all : (zm_cs.all zk_c) = true := by decide +kernel
def zk_d (q : (Nat × Nat) × (Int64 × Nat)) : Bool := zat_ q.2.2 (Cond.constantLong (zcl q.1.1) q.1.2 q.2.1)
set_option maxRecDepth 100000 in
theorem zk_d_all : (zm_cl.all zk_d) = true := by decide +kernel
def zk_s (q : (Nat × Nat) × (Nat × Nat)) : Bool := decide (lw_tbl[q.2.2]? = some (Cond.fieldLinkNest (zcl q.1.1) q.1.2 "SnowSchool" (if q.2.1 = 108 then "PUPIL_KINDS" else "TEACHER_KINDS") "[I" "SnowSchool")) && (decide (q.2.1 = 108) || decide (q.2.1 = 109))
set_option maxRecDepth 100000 in
theorem zk_s_all : (zm_sl.all zk_s) = true := by decide +kernel
def zk_k (q : (Nat × Nat) × (Nat × Nat)) : Bool := zat_ q.2.2 (Cond.classLink (zcl q.1.1) q.1.2 (zcl q.2.1)) && decide (q.2.1 < 12)
set_option maxRecDepth 100000 in
theorem zk_k_all : (zm_nc.all zk_k) = true := by decide +kernel
/-- words that are kept another way: nest links, arrays over a class -/
def zbw_ : Cond → Bool
  | .methodLinkNest .. => true
  | .fieldLinkNest .. => true
  | .arrayOver (.object _) => true
  | _ => false
def zbw : List Cond := lw_tbl.filter zbw_
set_option maxRecDepth 100000 in
theorem zk_in0 : ((u_ws RX0 TX0 5).all (fun w => decide (w ∈ lw_tbl) && goodWord w)) = true := by decide +kernel
set_option maxRecDepth 100000 in
theorem zk_in1 : ((u_ws RX1 TX1 5).all (fun w => decide (w ∈ lw_tbl) && goodWord w)) = true := by decide +kernel
set_option maxRecDepth 100000 in
theorem zk_in2 : ((u_ws RX2 TX2 9).all (fun w => decide (w ∈ lw_tbl) && goodWord w)) = true := by decide +kernel
set_option maxRecDepth 100000 in
theorem zk_in3 : ((u_ws RX3 TX3 6).all (fun w => decide (w ∈ lw_tbl) && goodWord w)) = true := by decide +kernel
set_option maxRecDepth 100000 in
theorem zk_in4 : ((u_ws RX4 TX4 6).all (fun w => decide (w ∈ lw_tbl) && goodWord w)) = true := by decide +kernel
set_option maxRecDepth 100000 in
theorem zk_in5 : ((u_ws RX5 TX5 9).all (fun w => decide (w ∈ lw_tbl) && goodWord w)) = true := by decide +kernel
set_option maxRecDepth 100000 in
theorem zk_in6 : ((u_ws RX6 TX6 10).all (fun w => decide (w ∈ lw_tbl) && goodWord w)) = true := by decide +kernel
set_option maxRecDepth 100000 in
theorem zk_in7 : ((u_ws RX7 TX7 3).all (fun w => decide (w ∈ lw_tbl) && goodWord w)) = true := by decide +kernel
set_option maxRecDepth 100000 in
theorem zk_in8 : ((u_ws RX8 TX8 6).all (fun w => decide (w ∈ lw_tbl) && goodWord w)) = true := by decide +kernel
set_option maxRecDepth 100000 in
theorem zk_in9 : ((u_ws RX9 TX9 4).all (fun w => decide (w ∈ lw_tbl) && goodWord w)) = true := by decide +kernel
set_option maxRecDepth 100000 in
theorem zk_in10 : ((u_ws RX10 TX10 6).all (fun w => decide (w ∈ lw_tbl) && goodWord w)) = true := by decide +kernel
set_option maxRecDepth 100000 in
theorem zk_in11 : ((u_ws RX11 TX11 46).all (fun w => decide (w ∈ lw_tbl) && goodWord w)) = true := by decide +kernel
def zk_w : List Cond := [.arrayClass .int, .arrayClass .boolean, .arrayClass .long, .instanceMethod objectInit, .code objectInit ⟨#[0xb1]⟩ 1 none, .native arraycopyName, .static arraycopyName, .initialized "java/lang/System", .static Lib.Math.max.name, .static Lib.Math.min.name, .static Lib.MathLoose.min_long.x, .initialized "java/lang/Math", .code Lib.Math.max.name Lib.Math.max.code 2 (some .int), .code Lib.Math.min.name Lib.Math.min.code 2 (some .int), .code Lib.MathLoose.min_long.x Lib.MathLoose.min_long.code 4 (some .long), .classLink RX4 11 "[[J"]
set_option maxRecDepth 100000 in
theorem zk_w_ok : (zk_w.all (fun w => decide (w ∈ lw_tbl) && goodWord w)) = true := by decide +kernel
set_option maxRecDepth 100000 in
theorem zk_w_in : ∀ w ∈ zk_w, w ∈ zgw := fun w h => by
  have := List.all_eq_true.mp zk_w_ok w h
  rw [Bool.and_eq_true, decide_eq_true_eq] at this
  exact List.mem_filter.mpr this
def zk_i (c : Nat) : Bool := decide (Cond.instantiable (zcl c) (lg c) ∈ lw_tbl) && goodWord (Cond.instantiable (zcl c) (lg c)) && decide (Cond.initialized (zcl c) ∈ lw_tbl) && goodWord (Cond.initialized (zcl c))
set_option maxRecDepth 100000 in
theorem zk_i_all : ((List.range 12).all zk_i) = true := by decide +kernel

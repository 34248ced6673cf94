-- the program by numbers: 0 J6_bitCount_0f7a4, 1 J7_fill_d0a16, 2 J7_fill_53178, 3 X0_init, 4 X0_meets, 5 X1_init, 6 X1_addAsk, 7 X1_isFree, 8 X1_suitsDay, 9 X1_bestValue, 10 X1_payIn, 11 X1_asksIn, 12 X1_bookOnly, 13 X1_countBooked, 14 X2_init, 15 X2_begin, 16 X2_take, 17 X2_hasLevel, 18 X3_init, 19 X3_addLift, 20 X3_addSlope, 21 X3_servingSlopes, 22 X3_strandingPlaces, 23 X3_reach, 24 X3_join, 25 X3_flood, 26 X4_init, 27 X4_plans, 28 X4_priceAllSets, 29 X4_priceOf, 30 X4_tieShift, 31 X4_placeParts, 32 X4_placeEachOf, 33 X4_placeRest, 34 X4_isWorthGoingOn, 35 X5_init, 36 X5_isA, 37 X5_narrow, 38 X5_hasNamed, 39 X5_addNamed, 40 X5_isAway, 41 X6_init, 42 X6_hasPupil, 43 X6_hasTeacher, 44 X6_hasAll, 45 X6_addPupil, 46 X6_addTeacher, 47 X6_acquaint, 48 X6_teacherAskedBy, 49 X6_moveAsking, 50 X6_teacherOver, 51 X6_gather, 52 X6_reasonAgainst, 53 X6_worthOf, 54 X6_movedTo, 55 X6_worthOfAll, 56 X6_countMoved, 57 X6_makeClasses, 58 X6_countClasses, 59 X6_childrenAway, 60 X7_init, 61 X7_begin, 62 X7_isMissing, 63 X7_lowestBits, 64 X7_hasRun, 65 X7_holdsSpans, 66 X8_init, 67 X8_isA, 68 X8_isGoodEnoughFor, 69 X9_init, 70 X9_isOpenAt, 71 X10_init, 72 X10_pupil, 73 X10_teacher, 74 X10_as, 75 X10_of, 76 X10_here, 77 X10_friend, 78 X10_wish, 79 X10_saw, 80 X10_ill, 81 X10_terms, 82 X10_level, 83 X10_may, 84 X10_classing, 85 X10_noon, 86 X10_worth, 87 X10_set, 88 X10_lift, 89 X10_slope, 90 X10_stop, 91 X10_meeting, 92 X10_serves, 93 X10_stranded, 94 X10_name, 95 X10_hand, 96 X10_back, 97 X10_left, 98 X10_ask, 99 X10_hours, 100 X10_book, 101 X10_open, 102 X10_choice, 103 X10_choose, 104 X10_sheet, 105 X10_write, 106 X10_copy, 107 X10_read, 108 X10_told, 109 X10_finding, 110 X10_orFull, 111 X10_isBelow, 112 X10_has, 113 X10_isTongues, 114 X10_isWay, 115 X10_areHours, 116 X11_init, 117 X11_in, 118 X11_finds, 119 X11_isPupil, 120 X11_isTeacher, 121 X11_has, 122 X11_ones, 123 X11_pupil, 124 X11_teacher, 125 X11_isChild, 126 X11_isMaster, 127 X11_as, 128 X11_teacherOf, 129 X11_of, 130 X11_here, 131 X11_friend, 132 X11_wish, 133 X11_sees, 134 X11_saw, 135 X11_ill, 136 X11_terms, 137 X11_isSet, 138 X11_levelOf, 139 X11_level, 140 X11_areOfTongue, 141 X11_hasKind, 142 X11_areNearInAge, 143 X11_areFriendsIn, 144 X11_mayTeach, 145 X11_may, 146 X11_allHere, 147 X11_costOf, 148 X11_findClassing, 149 X11_become, 150 X11_classing, 151 X11_noon, 152 X11_worth, 153 X11_set, 154 X11_isPlace, 155 X11_lift, 156 X11_slope, 157 X11_stop, 158 X11_meeting, 159 X11_goOn, 160 X11_reach, 161 X11_serves, 162 X11_stranded, 163 X11_isHand, 164 X11_isNamed, 165 X11_name, 166 X11_hand, 167 X11_back, 168 X11_left, 169 X11_ask, 170 X11_hours, 171 X11_isAsk, 172 X11_isFreeAlone, 173 X11_areApart, 174 X11_isFree, 175 X11_book, 176 X11_open, 177 X11_payOf, 178 X11_choiceOf, 179 X11_choice, 180 X11_choose, 181 X11_isSheet, 182 X11_sheet, 183 X11_write, 184 X11_copy, 185 X11_read, 186 X11_told, 187 L_law
def zm_y : List MethodName := [yJ6_bitCount_0f7a4, yJ7_fill_d0a16, yJ7_fill_53178, yX0_init, yX0_meets, yX1_init, yX1_addAsk, yX1_isFree, yX1_suitsDay, yX1_bestValue, yX1_payIn, yX1_asksIn, yX1_bookOnly, yX1_countBooked, yX2_init, yX2_begin, yX2_take, yX2_hasLevel, yX3_init, yX3_addLift, yX3_addSlope, yX3_servingSlopes, yX3_strandingPlaces, yX3_reach, yX3_join, yX3_flood, yX4_init, yX4_plans, yX4_priceAllSets, yX4_priceOf, yX4_tieShift, yX4_placeParts, yX4_placeEachOf, yX4_placeRest, yX4_isWorthGoingOn, yX5_init, yX5_isA, yX5_narrow, yX5_hasNamed, yX5_addNamed, yX5_isAway, yX6_init, yX6_hasPupil, yX6_hasTeacher, yX6_hasAll, yX6_addPupil, yX6_addTeacher, yX6_acquaint, yX6_teacherAskedBy, yX6_moveAsking, yX6_teacherOver, yX6_gather, yX6_reasonAgainst, yX6_worthOf, yX6_movedTo, yX6_worthOfAll, yX6_countMoved, yX6_makeClasses, yX6_countClasses, yX6_childrenAway, yX7_init, yX7_begin, yX7_isMissing, yX7_lowestBits, yX7_hasRun, yX7_holdsSpans, yX8_init, yX8_isA, yX8_isGoodEnoughFor, yX9_init, yX9_isOpenAt, yX10_init, yX10_pupil, yX10_teacher, yX10_as, yX10_of, yX10_here, yX10_friend, yX10_wish, yX10_saw, yX10_ill, yX10_terms, yX10_level, yX10_may, yX10_classing, yX10_noon, yX10_worth, yX10_set, yX10_lift, yX10_slope, yX10_stop, yX10_meeting, yX10_serves, yX10_stranded, yX10_name, yX10_hand, yX10_back, yX10_left, yX10_ask, yX10_hours, yX10_book, yX10_open, yX10_choice, yX10_choose, yX10_sheet, yX10_write, yX10_copy, yX10_read, yX10_told, yX10_finding, yX10_orFull, yX10_isBelow, yX10_has, yX10_isTongues, yX10_isWay, yX10_areHours, yX11_init, yX11_in, yX11_finds, yX11_isPupil, yX11_isTeacher, yX11_has, yX11_ones, yX11_pupil, yX11_teacher, yX11_isChild, yX11_isMaster, yX11_as, yX11_teacherOf, yX11_of, yX11_here, yX11_friend, yX11_wish, yX11_sees, yX11_saw, yX11_ill, yX11_terms, yX11_isSet, yX11_levelOf, yX11_level, yX11_areOfTongue, yX11_hasKind, yX11_areNearInAge, yX11_areFriendsIn, yX11_mayTeach, yX11_may, yX11_allHere, yX11_costOf, yX11_findClassing, yX11_become, yX11_classing, yX11_noon, yX11_worth, yX11_set, yX11_isPlace, yX11_lift, yX11_slope, yX11_stop, yX11_meeting, yX11_goOn, yX11_reach, yX11_serves, yX11_stranded, yX11_isHand, yX11_isNamed, yX11_name, yX11_hand, yX11_back, yX11_left, yX11_ask, yX11_hours, yX11_isAsk, yX11_isFreeAlone, yX11_areApart, yX11_isFree, yX11_book, yX11_open, yX11_payOf, yX11_choiceOf, yX11_choice, yX11_choose, yX11_isSheet, yX11_sheet, yX11_write, yX11_copy, yX11_read, yX11_told, yL_law]
def zm_b : List ByteArray := [cJ6_bitCount_0f7a4, cJ7_fill_d0a16, cJ7_fill_53178, cX0_init, cX0_meets, cX1_init, cX1_addAsk, cX1_isFree, cX1_suitsDay, cX1_bestValue, cX1_payIn, cX1_asksIn, cX1_bookOnly, cX1_countBooked, cX2_init, cX2_begin, cX2_take, cX2_hasLevel, cX3_init, cX3_addLift, cX3_addSlope, cX3_servingSlopes, cX3_strandingPlaces, cX3_reach, cX3_join, cX3_flood, cX4_init, cX4_plans, cX4_priceAllSets, cX4_priceOf, cX4_tieShift, cX4_placeParts, cX4_placeEachOf, cX4_placeRest, cX4_isWorthGoingOn, cX5_init, cX5_isA, cX5_narrow, cX5_hasNamed, cX5_addNamed, cX5_isAway, cX6_init, cX6_hasPupil, cX6_hasTeacher, cX6_hasAll, cX6_addPupil, cX6_addTeacher, cX6_acquaint, cX6_teacherAskedBy, cX6_moveAsking, cX6_teacherOver, cX6_gather, cX6_reasonAgainst, cX6_worthOf, cX6_movedTo, cX6_worthOfAll, cX6_countMoved, cX6_makeClasses, cX6_countClasses, cX6_childrenAway, cX7_init, cX7_begin, cX7_isMissing, cX7_lowestBits, cX7_hasRun, cX7_holdsSpans, cX8_init, cX8_isA, cX8_isGoodEnoughFor, cX9_init, cX9_isOpenAt, cX10_init, cX10_pupil, cX10_teacher, cX10_as, cX10_of, cX10_here, cX10_friend, cX10_wish, cX10_saw, cX10_ill, cX10_terms, cX10_level, cX10_may, cX10_classing, cX10_noon, cX10_worth, cX10_set, cX10_lift, cX10_slope, cX10_stop, cX10_meeting, cX10_serves, cX10_stranded, cX10_name, cX10_hand, cX10_back, cX10_left, cX10_ask, cX10_hours, cX10_book, cX10_open, cX10_choice, cX10_choose, cX10_sheet, cX10_write, cX10_copy, cX10_read, cX10_told, cX10_finding, cX10_orFull, cX10_isBelow, cX10_has, cX10_isTongues, cX10_isWay, cX10_areHours, cX11_init, cX11_in, cX11_finds, cX11_isPupil, cX11_isTeacher, cX11_has, cX11_ones, cX11_pupil, cX11_teacher, cX11_isChild, cX11_isMaster, cX11_as, cX11_teacherOf, cX11_of, cX11_here, cX11_friend, cX11_wish, cX11_sees, cX11_saw, cX11_ill, cX11_terms, cX11_isSet, cX11_levelOf, cX11_level, cX11_areOfTongue, cX11_hasKind, cX11_areNearInAge, cX11_areFriendsIn, cX11_mayTeach, cX11_may, cX11_allHere, cX11_costOf, cX11_findClassing, cX11_become, cX11_classing, cX11_noon, cX11_worth, cX11_set, cX11_isPlace, cX11_lift, cX11_slope, cX11_stop, cX11_meeting, cX11_goOn, cX11_reach, cX11_serves, cX11_stranded, cX11_isHand, cX11_isNamed, cX11_name, cX11_hand, cX11_back, cX11_left, cX11_ask, cX11_hours, cX11_isAsk, cX11_isFreeAlone, cX11_areApart, cX11_isFree, cX11_book, cX11_open, cX11_payOf, cX11_choiceOf, cX11_choice, cX11_choose, cX11_isSheet, cX11_sheet, cX11_write, cX11_copy, cX11_read, cX11_told, cL_law]
def zm_nl : List Nat := [1, 5, 4, 1, 3, 2, 7, 6, 3, 9, 1, 1, 4, 3, 1, 2, 2, 1, 2, 4, 5, 7, 4, 5, 5, 4, 1, 8, 9, 7, 1, 4, 9, 4, 3, 1, 2, 5, 3, 2, 1, 2, 2, 2, 2, 7, 6, 3, 3, 4, 3, 3, 3, 3, 3, 4, 4, 3, 3, 3, 1, 3, 1, 2, 3, 2, 1, 2, 2, 1, 2, 2, 4, 3, 6, 4, 3, 5, 4, 5, 5, 6, 3, 3, 1, 2, 1, 2, 3, 4, 5, 3, 3, 4, 4, 4, 4, 1, 5, 3, 3, 4, 4, 3, 5, 6, 8, 4, 2, 2, 2, 2, 2, 1, 2, 2, 1, 3, 2, 2, 2, 2, 3, 5, 3, 2, 2, 5, 3, 3, 4, 4, 4, 6, 4, 4, 5, 2, 4, 3, 4, 4, 5, 3, 4, 3, 3, 6, 8, 3, 1, 3, 3, 2, 1, 3, 4, 4, 3, 4, 7, 7, 4, 1, 4, 3, 3, 3, 3, 5, 3, 2, 3, 3, 3, 2, 3, 6, 4, 4, 4, 1, 5, 5, 7, 3, 4, 4]
def zm_rt : List (Option FieldType) := [(some .int), none, none, none, (some .boolean), none, (some .int), (some .boolean), (some .boolean), (some .int), (some .int), (some .int), none, (some .int), none, none, none, (some .boolean), none, (some .int), (some .int), (some .int), (some .int), (some .int), none, (some .int), none, (some .boolean), none, (some .long), (some .int), none, none, none, (some .boolean), none, (some .boolean), (some .boolean), (some .boolean), (some .int), (some .boolean), none, (some .boolean), (some .boolean), (some .boolean), (some .int), (some .int), none, (some .int), none, (some .int), (some (.object "SnowSchool$Group")), (some .int), (some .int), (some .int), (some .int), (some .int), none, (some .int), (some .int), none, none, (some .boolean), (some .int), (some .boolean), (some .boolean), none, (some .boolean), (some .boolean), none, (some .boolean), none, (some .int), (some .int), (some .int), (some .int), (some .int), (some .int), (some .int), (some .int), (some .int), (some .int), (some .int), (some .int), (some .int), (some .int), (some .int), (some .int), (some .int), (some .int), (some .int), (some .int), (some .int), (some .int), (some .int), (some .int), (some .int), (some .int), (some .int), (some .int), (some .int), (some .int), (some .int), (some .int), (some .int), (some .int), (some .int), (some .int), (some .int), (some .int), (some .int), (some .boolean), (some .boolean), (some .boolean), (some .boolean), (some .boolean), none, (some .boolean), (some .int), (some .boolean), (some .boolean), (some .boolean), (some .int), (some .int), (some .int), (some .boolean), (some .boolean), (some .int), (some .int), (some .int), (some .int), (some .int), (some .int), (some .boolean), (some .int), (some .int), (some .int), (some .boolean), (some .int), (some .int), (some .boolean), (some .boolean), (some .boolean), (some .boolean), (some .int), (some .int), (some .int), (some .int), (some .int), (some .int), (some .int), (some .int), (some .int), (some .int), (some .boolean), (some .int), (some .int), (some .int), (some .int), (some .int), (some .int), (some .int), (some .int), (some .boolean), (some .boolean), (some .int), (some .int), (some .int), (some .int), (some .int), (some .int), (some .boolean), (some .boolean), (some .boolean), (some .boolean), (some .int), (some .int), (some .int), (some .int), (some .int), (some .int), (some .boolean), (some .int), (some .int), (some .int), (some .int), (some .int), (some .boolean)]
def zm_np : List Nat := [1, 2, 2, 0, 2, 0, 4, 2, 2, 2, 1, 1, 2, 0, 0, 1, 1, 0, 0, 2, 3, 1, 2, 3, 2, 0, 0, 2, 3, 4, 1, 2, 3, 2, 2, 0, 1, 2, 1, 1, 0, 0, 1, 1, 1, 3, 2, 2, 1, 3, 1, 1, 2, 2, 2, 1, 1, 1, 0, 0, 0, 2, 0, 1, 2, 0, 0, 1, 1, 0, 1, 0, 3, 2, 3, 2, 2, 2, 2, 3, 2, 4, 1, 2, 0, 0, 0, 1, 2, 3, 2, 1, 1, 2, 2, 2, 1, 0, 4, 2, 1, 1, 2, 1, 3, 3, 5, 1, 1, 1, 1, 2, 2, 1, 2, 2, 0, 3, 1, 1, 1, 2, 1, 3, 2, 1, 1, 3, 1, 2, 2, 2, 2, 3, 3, 2, 4, 1, 1, 1, 2, 2, 1, 1, 2, 2, 0, 3, 1, 0, 0, 0, 0, 1, 1, 2, 3, 2, 1, 4, 3, 1, 2, 1, 2, 2, 2, 1, 0, 4, 2, 1, 1, 2, 1, 1, 1, 2, 1, 2, 1, 1, 3, 3, 5, 1, 1, 1]
def zm_cn : List Nat := [13, 15, 15, 0, 0, 1, 1, 1, 1, 1, 1, 1, 1, 1, 2, 2, 2, 2, 3, 3, 3, 3, 3, 3, 3, 3, 4, 4, 4, 4, 4, 4, 4, 4, 4, 5, 5, 5, 5, 5, 5, 6, 6, 6, 6, 6, 6, 6, 6, 6, 6, 6, 6, 6, 6, 6, 6, 6, 6, 6, 7, 7, 7, 7, 7, 7, 8, 8, 8, 9, 9, 10, 10, 10, 10, 10, 10, 10, 10, 10, 10, 10, 10, 10, 10, 10, 10, 10, 10, 10, 10, 10, 10, 10, 10, 10, 10, 10, 10, 10, 10, 10, 10, 10, 10, 10, 10, 10, 10, 10, 10, 10, 10, 10, 10, 10, 11, 11, 11, 11, 11, 11, 11, 11, 11, 11, 11, 11, 11, 11, 11, 11, 11, 11, 11, 11, 11, 11, 11, 11, 11, 11, 11, 11, 11, 11, 11, 11, 11, 11, 11, 11, 11, 11, 11, 11, 11, 11, 11, 11, 11, 11, 11, 11, 11, 11, 11, 11, 11, 11, 11, 11, 11, 11, 11, 11, 11, 11, 11, 11, 11, 11, 11, 11, 11, 11, 11, 12]
def zm_kd : List Nat := [1, 1, 1, 2, 0, 2, 0, 0, 0, 0, 1, 1, 0, 0, 2, 0, 0, 0, 2, 0, 0, 0, 0, 0, 0, 0, 2, 0, 0, 1, 1, 0, 0, 0, 0, 2, 0, 0, 0, 0, 0, 2, 0, 0, 0, 0, 0, 0, 0, 0, 0, 0, 0, 0, 0, 0, 0, 0, 0, 0, 2, 0, 0, 0, 0, 0, 2, 0, 0, 2, 0, 2, 0, 0, 0, 0, 0, 0, 0, 0, 0, 0, 0, 0, 0, 0, 0, 0, 0, 0, 0, 0, 0, 0, 0, 0, 0, 0, 0, 0, 0, 0, 0, 0, 0, 0, 0, 0, 0, 0, 0, 1, 1, 1, 1, 1, 2, 1, 0, 0, 0, 1, 1, 0, 0, 0, 0, 0, 0, 0, 0, 0, 0, 0, 0, 0, 0, 0, 0, 0, 0, 0, 0, 0, 0, 0, 0, 0, 0, 0, 0, 0, 0, 0, 1, 0, 0, 0, 0, 1, 0, 0, 0, 1, 0, 0, 0, 0, 0, 0, 0, 0, 0, 0, 0, 0, 0, 0, 0, 0, 0, 1, 0, 0, 0, 0, 0, 1]
def zm_fr : List Nat := [1, 1, 1, 1, 1, 2, 1, 3, 2, 3, 1, 2, 2, 1, 1, 2, 3, 1, 2, 1, 1, 4, 4, 3, 2, 2, 1, 7, 6, 5, 1, 2, 1, 2, 1, 1, 2, 1, 1, 1, 1, 2, 2, 2, 1, 3, 3, 2, 2, 3, 2, 4, 4, 2, 2, 3, 3, 1, 1, 3, 1, 2, 1, 1, 1, 1, 1, 2, 3, 1, 1, 3, 4, 4, 3, 3, 3, 3, 4, 3, 3, 2, 5, 5, 8, 8, 8, 3, 3, 3, 2, 2, 5, 5, 3, 3, 3, 4, 3, 2, 4, 2, 4, 4, 3, 2, 2, 2, 2, 1, 2, 1, 1, 1, 2, 1, 1, 1, 1, 2, 2, 1, 1, 2, 2, 1, 1, 3, 2, 3, 3, 3, 3, 1, 3, 3, 2, 1, 2, 3, 2, 2, 2, 2, 3, 4, 1, 4, 5, 1, 6, 6, 6, 3, 2, 3, 3, 2, 3, 2, 3, 4, 4, 2, 1, 3, 3, 3, 2, 3, 2, 2, 1, 1, 2, 3, 3, 2, 3, 4, 4, 2, 3, 3, 3, 3, 2, 10]
def zm_lo : List Nat := [60, 60, 60, 60, 60, 80, 60, 104, 82, 104, 60, 80, 81, 60, 60, 80, 102, 60, 80, 60, 60, 129, 129, 105, 81, 81, 60, 199, 171, 145, 60, 88, 60, 82, 60, 60, 81, 60, 60, 60, 60, 80, 81, 81, 60, 103, 103, 81, 81, 102, 81, 123, 123, 80, 80, 102, 102, 60, 60, 102, 60, 83, 60, 60, 60, 60, 60, 81, 102, 60, 60, 101, 129, 128, 102, 103, 102, 102, 125, 102, 102, 81, 145, 145, 226, 226, 226, 102, 102, 102, 81, 81, 155, 152, 102, 102, 102, 124, 102, 81, 129, 81, 132, 132, 105, 81, 82, 84, 82, 60, 81, 60, 60, 60, 81, 60, 60, 60, 60, 82, 82, 60, 60, 82, 82, 60, 60, 103, 81, 103, 103, 103, 103, 60, 103, 103, 82, 60, 81, 104, 81, 81, 81, 81, 105, 128, 60, 128, 153, 60, 180, 180, 180, 103, 82, 102, 102, 82, 102, 81, 104, 130, 130, 82, 60, 103, 103, 103, 81, 103, 82, 82, 60, 60, 82, 104, 103, 82, 107, 130, 130, 82, 102, 102, 102, 102, 81, 376]
def zm_mc : List Nat := [0, 0, 0, 0, 0, 12, 0, 0, 0, 0, 0, 0, 0, 0, 0, 0, 0, 0, 17, 0, 0, 0, 0, 0, 0, 0, 9, 0, 0, 0, 0, 0, 0, 0, 0, 1, 0, 0, 0, 0, 0, 28, 0, 0, 0, 0, 0, 0, 0, 0, 0, 0, 0, 0, 0, 0, 0, 0, 0, 0, 1, 0, 0, 0, 0, 0, 0, 0, 0, 0, 0, 79, 0, 0, 0, 0, 0, 0, 0, 0, 0, 0, 0, 0, 0, 0, 0, 0, 0, 0, 0, 0, 0, 0, 0, 0, 0, 0, 0, 0, 0, 0, 0, 0, 0, 0, 0, 0, 0, 0, 0, 0, 0, 0, 0, 0, 33, 0, 0, 0, 0, 0, 0, 0, 0, 0, 0, 0, 0, 0, 0, 0, 0, 0, 0, 0, 0, 0, 0, 0, 0, 0, 0, 0, 0, 0, 0, 0, 0, 0, 0, 0, 0, 0, 0, 0, 0, 0, 0, 0, 0, 0, 0, 0, 0, 0, 0, 0, 0, 0, 0, 0, 0, 0, 0, 0, 0, 0, 0, 0, 0, 0, 0, 0, 0, 0, 0, 0]
def zm_ms : List Nat := [0, 0, 0, 0, 0, 69, 0, 0, 0, 0, 0, 0, 0, 0, 0, 0, 0, 0, 76, 0, 0, 0, 0, 0, 0, 0, 6159, 0, 0, 0, 0, 0, 0, 0, 0, 3, 0, 0, 0, 0, 0, 174, 0, 0, 0, 0, 0, 0, 0, 0, 0, 0, 0, 0, 0, 0, 0, 0, 0, 0, 10, 0, 0, 0, 0, 0, 0, 0, 0, 0, 0, 6560, 0, 0, 0, 0, 0, 0, 0, 0, 0, 0, 0, 0, 0, 0, 0, 0, 0, 0, 0, 0, 0, 0, 0, 0, 0, 0, 0, 0, 0, 0, 0, 0, 0, 0, 0, 0, 0, 0, 0, 0, 0, 0, 0, 0, 11569, 0, 0, 0, 0, 0, 0, 0, 0, 0, 0, 0, 0, 0, 0, 0, 0, 0, 0, 0, 0, 0, 0, 0, 0, 0, 0, 0, 0, 0, 0, 0, 0, 0, 0, 0, 0, 0, 0, 0, 0, 0, 0, 0, 0, 0, 0, 0, 0, 0, 0, 0, 0, 0, 0, 0, 0, 0, 0, 0, 0, 0, 0, 0, 0, 0, 0, 0, 0, 0, 0, 0]
/-- places in lw_tbl: code, initialized, static or instanceMethod, selects -/
def zm_ps : List (Nat × Nat × Nat × Nat) := [(545, 52, 544, 0), (613, 53, 612, 0), (589, 53, 588, 0), (323, 48, 322, 0), (783, 48, 781, 782), (316, 47, 315, 0), (767, 47, 765, 766), (779, 47, 777, 778), (787, 47, 786, 11), (799, 47, 797, 798), (803, 47, 802, 0), (806, 47, 805, 0), (815, 47, 813, 814), (866, 47, 864, 865), (77, 41, 76, 0), (542, 41, 540, 541), (552, 41, 550, 551), (559, 41, 557, 558), (265, 45, 264, 0), (670, 45, 668, 669), (678, 45, 676, 677), (694, 45, 692, 693), (721, 45, 719, 720), (698, 45, 697, 8), (707, 45, 706, 9), (712, 45, 711, 10), (239, 44, 238, 0), (582, 44, 580, 581), (586, 44, 585, 3), (594, 44, 593, 0), (607, 44, 606, 0), (617, 44, 616, 4), (625, 44, 624, 6), (629, 44, 628, 7), (621, 44, 620, 5), (120, 42, 119, 0), (467, 42, 465, 466), (511, 42, 509, 510), (729, 42, 727, 728), (734, 42, 732, 733), (742, 42, 740, 741), (67, 40, 66, 0), (453, 40, 451, 452), (449, 40, 447, 448), (534, 40, 532, 533), (423, 40, 421, 422), (441, 40, 439, 440), (427, 40, 426, 1), (481, 40, 479, 480), (502, 40, 500, 501), (486, 40, 484, 485), (538, 40, 536, 537), (568, 40, 566, 567), (604, 40, 602, 603), (599, 40, 597, 598), (654, 40, 652, 653), (645, 40, 643, 644), (633, 40, 631, 632), (637, 40, 635, 636), (754, 40, 752, 753), (371, 49, 370, 0), (825, 49, 823, 824), (834, 49, 832, 833), (839, 49, 837, 838), (847, 49, 845, 846), (858, 49, 856, 857), (166, 43, 165, 0), (457, 43, 455, 456), (573, 43, 571, 572), (272, 46, 271, 0), (703, 46, 701, 702), (59, 39, 58, 0), (408, 39, 406, 407), (437, 39, 435, 436), (445, 39, 443, 444), (476, 39, 474, 475), (490, 39, 488, 489), (494, 39, 492, 493), (498, 39, 496, 497), (507, 39, 505, 506), (522, 39, 520, 521), (526, 39, 524, 525), (530, 39, 528, 529), (564, 39, 562, 563), (578, 39, 576, 577), (641, 39, 639, 640), (650, 39, 648, 649), (659, 39, 657, 658), (663, 39, 661, 662), (674, 39, 672, 673), (682, 39, 680, 681), (686, 39, 684, 685), (690, 39, 688, 689), (717, 39, 715, 716), (725, 39, 723, 724), (738, 39, 736, 737), (746, 39, 744, 745), (750, 39, 748, 749), (760, 39, 758, 759), (771, 39, 769, 770), (775, 39, 773, 774), (791, 39, 789, 790), (795, 39, 793, 794), (811, 39, 809, 810), (821, 39, 819, 820), (830, 39, 828, 829), (843, 39, 841, 842), (854, 39, 852, 853), (862, 39, 860, 861), (419, 39, 418, 0), (432, 39, 431, 2), (411, 39, 410, 0), (463, 39, 462, 0), (414, 39, 413, 0), (666, 39, 665, 0), (763, 39, 762, 0), (871, 50, 870, 0), (1019, 50, 1018, 0), (1024, 50, 1023, 12), (1041, 50, 1040, 14), (1037, 50, 1036, 13), (1061, 50, 1060, 0), (1118, 50, 1117, 0), (1016, 50, 1014, 1015), (1029, 50, 1027, 1028), (1049, 50, 1048, 16), (1045, 50, 1044, 15), (1033, 50, 1031, 1032), (1058, 50, 1057, 17), (1054, 50, 1052, 1053), (1065, 50, 1063, 1064), (1069, 50, 1067, 1068), (1073, 50, 1071, 1072), (1081, 50, 1080, 18), (1077, 50, 1075, 1076), (1086, 50, 1084, 1085), (1090, 50, 1088, 1089), (1098, 50, 1097, 19), (1102, 50, 1101, 20), (1094, 50, 1092, 1093), (1115, 50, 1114, 22), (1122, 50, 1121, 23), (1126, 50, 1125, 24), (1130, 50, 1129, 25), (1111, 50, 1110, 21), (1107, 50, 1105, 1106), (1142, 50, 1141, 27), (1147, 50, 1146, 28), (1138, 50, 1137, 26), (1151, 50, 1150, 29), (1134, 50, 1132, 1133), (1155, 50, 1153, 1154), (1159, 50, 1157, 1158), (1163, 50, 1161, 1162), (1170, 50, 1169, 0), (1167, 50, 1165, 1166), (1174, 50, 1172, 1173), (1178, 50, 1176, 1177), (1182, 50, 1180, 1181), (1193, 50, 1192, 0), (1190, 50, 1189, 30), (1186, 50, 1184, 1185), (1197, 50, 1195, 1196), (1204, 50, 1203, 0), (1208, 50, 1207, 31), (1201, 50, 1199, 1200), (1213, 50, 1211, 1212), (1217, 50, 1215, 1216), (1221, 50, 1219, 1220), (1225, 50, 1223, 1224), (1229, 50, 1227, 1228), (1237, 50, 1236, 32), (1249, 50, 1248, 35), (1245, 50, 1244, 34), (1241, 50, 1240, 33), (1233, 50, 1231, 1232), (1253, 50, 1251, 1252), (1265, 50, 1264, 37), (1261, 50, 1260, 36), (1257, 50, 1255, 1256), (1269, 50, 1267, 1268), (1276, 50, 1275, 0), (1273, 50, 1271, 1272), (1280, 50, 1278, 1279), (1285, 50, 1283, 1284), (1289, 50, 1287, 1288), (1293, 50, 1291, 1292), (0, 0, 0, 0)]
def zm_cls : List String := [RX0, RX1, RX2, RX3, RX4, RX5, RX6, RX7, RX8, RX9, RX10, RX11, RL, RJ6, RJ9, RJ7]
def zy (i : Nat) : MethodName := zm_y.getD i yL_law
def zb (i : Nat) : ByteArray := zm_b.getD i cL_law
def znl (i : Nat) : Nat := zm_nl.getD i 0
def znp (i : Nat) : Nat := zm_np.getD i 0
def zcn (i : Nat) : Nat := zm_cn.getD i 0
def zkd (i : Nat) : Nat := zm_kd.getD i 0
def zfr (i : Nat) : Nat := zm_fr.getD i 0
def zlo (i : Nat) : Nat := zm_lo.getD i 0
def zmc (i : Nat) : Nat := zm_mc.getD i 0
def zms (i : Nat) : Nat := zm_ms.getD i 0
def zrt (i : Nat) : Option FieldType := zm_rt.getD i none
def zps (i : Nat) : Nat × Nat × Nat × Nat := zm_ps.getD i (0, 0, 0, 0)
def zcl (i : Nat) : String := zm_cls.getD i ""
/-- a call: class, pool index, the callee (900 Object.<init>, 901 arraycopy), 1 by the nest, place -/
def zm_lk : List ((Nat × Nat) × (Nat × Nat × Nat)) := [((12, 9), (71, 0, 57)), ((10, 1), (900, 0, 60)), ((10, 9), (41, 0, 65)), ((6, 3), (900, 0, 68)), ((6, 38), (14, 1, 75)), ((2, 3), (900, 0, 78)), ((6, 43), (35, 1, 118)), ((5, 3), (900, 0, 121)), ((6, 44), (66, 1, 164)), ((8, 3), (900, 0, 167)), ((10, 18), (26, 1, 237)), ((4, 3), (900, 0, 240)), ((10, 25), (18, 0, 263)), ((3, 3), (900, 0, 266)), ((3, 24), (69, 1, 270)), ((9, 1), (900, 0, 273)), ((10, 32), (5, 0, 314)), ((1, 3), (900, 0, 317)), ((1, 28), (3, 1, 321)), ((0, 1), (900, 0, 324)), ((10, 43), (60, 1, 369)), ((7, 3), (900, 0, 372)), ((12, 13), (72, 0, 405)), ((10, 44), (111, 0, 409)), ((10, 48), (113, 0, 412)), ((10, 53), (109, 0, 416)), ((10, 57), (45, 0, 420)), ((6, 67), (47, 0, 424)), ((6, 48), (111, 1, 428)), ((10, 61), (110, 0, 429)), ((12, 18), (73, 0, 434)), ((10, 64), (46, 0, 438)), ((12, 23), (74, 0, 442)), ((10, 68), (43, 0, 446)), ((10, 71), (42, 0, 450)), ((10, 78), (67, 0, 454)), ((8, 15), (111, 1, 458)), ((8, 23), (112, 1, 461)), ((10, 87), (36, 0, 464)), ((5, 28), (111, 1, 468)), ((5, 35), (112, 1, 471)), ((12, 28), (75, 0, 473)), ((10, 110), (112, 0, 477)), ((10, 116), (48, 0, 478)), ((6, 79), (112, 1, 482)), ((10, 119), (50, 0, 483)), ((12, 32), (76, 0, 487)), ((12, 37), (77, 0, 491)), ((12, 41), (78, 0, 495)), ((10, 125), (49, 0, 499)), ((6, 82), (43, 0, 503)), ((12, 45), (79, 0, 504)), ((10, 129), (37, 0, 508)), ((5, 41), (902, 0, 512)), ((5, 47), (903, 0, 515)), ((12, 49), (80, 0, 519)), ((12, 53), (81, 0, 523)), ((12, 58), (82, 0, 527)), ((10, 149), (44, 0, 531)), ((10, 152), (51, 0, 535)), ((6, 89), (15, 0, 539)), ((2, 15), (0, 0, 543)), ((6, 93), (16, 0, 549)), ((2, 51), (902, 0, 553)), ((2, 60), (903, 0, 554)), ((2, 69), (36, 0, 555)), ((10, 156), (17, 0, 556)), ((12, 63), (83, 0, 561)), ((10, 166), (52, 0, 565)), ((6, 104), (17, 0, 569)), ((6, 123), (68, 0, 570)), ((8, 35), (67, 0, 574)), ((12, 67), (84, 0, 575)), ((10, 170), (27, 0, 579)), ((4, 33), (28, 0, 583)), ((4, 59), (2, 0, 587)), ((4, 66), (51, 0, 591)), ((4, 70), (29, 0, 592)), ((4, 84), (52, 0, 595)), ((4, 93), (54, 0, 596)), ((6, 127), (0, 0, 600)), ((4, 97), (53, 0, 601)), ((4, 55), (30, 0, 605)), ((4, 74), (904, 0, 608)), ((4, 39), (1, 0, 611)), ((4, 48), (31, 0, 614)), ((4, 100), (34, 0, 618)), ((4, 104), (32, 0, 622)), ((4, 52), (33, 0, 626)), ((10, 178), (57, 0, 630)), ((10, 182), (58, 0, 634)), ((12, 72), (85, 0, 638)), ((10, 186), (56, 0, 642)), ((6, 137), (54, 0, 646)), ((12, 76), (86, 0, 647)), ((10, 190), (55, 0, 651)), ((6, 133), (53, 0, 655)), ((12, 80), (87, 0, 656)), ((12, 84), (88, 0, 660)), ((10, 196), (114, 0, 664)), ((10, 199), (19, 0, 667)), ((12, 88), (89, 0, 671)), ((10, 202), (20, 0, 675)), ((12, 92), (90, 0, 679)), ((12, 96), (91, 0, 683)), ((12, 100), (92, 0, 687)), ((10, 220), (21, 0, 691)), ((3, 41), (23, 0, 695)), ((3, 53), (2, 0, 699)), ((3, 45), (70, 0, 700)), ((3, 59), (24, 0, 704)), ((3, 67), (111, 1, 708)), ((3, 63), (25, 0, 709)), ((3, 49), (112, 1, 713)), ((12, 104), (93, 0, 714)), ((10, 223), (22, 0, 718)), ((12, 108), (94, 0, 722)), ((10, 226), (38, 0, 726)), ((10, 230), (39, 0, 731)), ((12, 112), (95, 0, 735)), ((10, 233), (40, 0, 739)), ((12, 116), (96, 0, 743)), ((12, 120), (97, 0, 747)), ((10, 236), (59, 0, 751)), ((6, 140), (36, 0, 755)), ((6, 143), (40, 0, 756)), ((12, 124), (98, 0, 757)), ((10, 239), (115, 0, 761)), ((10, 242), (6, 0, 764)), ((12, 128), (99, 0, 768)), ((12, 132), (100, 0, 772)), ((10, 267), (7, 0, 776)), ((1, 48), (4, 0, 780)), ((1, 52), (8, 0, 784)), ((12, 136), (101, 0, 788)), ((12, 140), (102, 0, 792)), ((10, 274), (9, 0, 796)), ((1, 64), (902, 0, 800)), ((10, 278), (10, 0, 801)), ((10, 281), (11, 0, 804)), ((1, 70), (10, 0, 807)), ((12, 144), (103, 0, 808)), ((10, 284), (12, 0, 812)), ((1, 74), (112, 1, 816)), ((10, 288), (0, 0, 817)), ((12, 148), (104, 0, 818)), ((10, 293), (61, 0, 822)), ((7, 22), (2, 0, 826)), ((12, 152), (105, 0, 827)), ((10, 299), (62, 0, 831)), ((10, 306), (63, 0, 836)), ((12, 156), (106, 0, 840)), ((10, 312), (64, 0, 844)), ((10, 315), (901, 0, 848)), ((12, 161), (107, 0, 851)), ((10, 324), (65, 0, 855)), ((12, 165), (108, 0, 859)), ((10, 333), (13, 0, 863)), ((12, 12), (116, 0, 869)), ((11, 1), (900, 0, 872)), ((12, 17), (123, 0, 1013)), ((11, 135), (117, 0, 1017)), ((11, 143), (118, 0, 1021)), ((12, 22), (124, 0, 1026)), ((12, 27), (127, 0, 1030)), ((11, 148), (120, 0, 1034)), ((11, 152), (119, 0, 1038)), ((11, 155), (126, 0, 1042)), ((11, 158), (125, 0, 1046)), ((12, 31), (129, 0, 1051)), ((11, 166), (128, 0, 1055)), ((11, 162), (121, 0, 1059)), ((12, 36), (130, 0, 1062)), ((12, 40), (131, 0, 1066)), ((12, 44), (132, 0, 1070)), ((12, 48), (134, 0, 1074)), ((11, 169), (133, 0, 1078)), ((12, 52), (135, 0, 1083)), ((12, 57), (136, 0, 1087)), ((12, 62), (139, 0, 1091)), ((11, 173), (137, 0, 1095)), ((11, 176), (138, 0, 1099)), ((12, 66), (145, 0, 1104)), ((11, 195), (144, 0, 1108)), ((11, 180), (140, 0, 1112)), ((11, 183), (122, 0, 1116)), ((11, 186), (141, 0, 1119)), ((11, 189), (142, 0, 1123)), ((11, 192), (143, 0, 1127)), ((12, 71), (150, 0, 1131)), ((11, 208), (148, 0, 1135)), ((11, 200), (146, 0, 1139)), ((11, 204), (147, 0, 1144)), ((11, 212), (149, 0, 1148)), ((12, 75), (151, 0, 1152)), ((12, 79), (152, 0, 1156)), ((12, 83), (153, 0, 1160)), ((12, 87), (155, 0, 1164)), ((11, 215), (154, 0, 1168)), ((12, 91), (156, 0, 1171)), ((12, 95), (157, 0, 1175)), ((12, 99), (158, 0, 1179)), ((12, 103), (161, 0, 1183)), ((11, 231), (160, 0, 1187)), ((11, 227), (159, 0, 1191)), ((12, 107), (162, 0, 1194)), ((12, 111), (165, 0, 1198)), ((11, 235), (163, 0, 1202)), ((11, 238), (164, 0, 1205)), ((12, 115), (166, 0, 1210)), ((12, 119), (167, 0, 1214)), ((12, 123), (168, 0, 1218)), ((12, 127), (169, 0, 1222)), ((12, 131), (170, 0, 1226)), ((12, 135), (175, 0, 1230)), ((11, 251), (171, 0, 1234)), ((11, 254), (174, 0, 1238)), ((11, 245), (173, 0, 1242)), ((11, 248), (172, 0, 1246)), ((12, 139), (176, 0, 1250)), ((12, 143), (179, 0, 1254)), ((11, 260), (178, 0, 1258)), ((11, 257), (177, 0, 1262)), ((12, 147), (180, 0, 1266)), ((12, 151), (182, 0, 1270)), ((11, 263), (181, 0, 1274)), ((12, 155), (183, 0, 1277)), ((12, 160), (184, 0, 1282)), ((12, 164), (185, 0, 1286)), ((12, 168), (186, 0, 1290))]
def zm_fl : List ((Nat × Nat) × (Nat × Nat × Nat)) := [((2, 9), (2, 0, 79)), ((4, 88), (2, 0, 80)), ((6, 101), (2, 0, 81)), ((2, 21), (2, 1, 82)), ((6, 108), (2, 1, 83)), ((2, 24), (2, 2, 84)), ((8, 32), (2, 2, 85)), ((10, 162), (2, 2, 86)), ((2, 27), (2, 3, 87)), ((2, 30), (2, 4, 88)), ((6, 117), (2, 4, 89)), ((2, 33), (2, 5, 90)), ((6, 114), (2, 5, 91)), ((2, 36), (2, 6, 92)), ((6, 120), (2, 6, 93)), ((2, 39), (2, 7, 94)), ((6, 111), (2, 7, 95)), ((2, 43), (2, 8, 96)), ((8, 26), (2, 8, 97)), ((5, 25), (5, 0, 122)), ((6, 55), (5, 0, 123)), ((10, 91), (5, 0, 124)), ((2, 63), (5, 1, 125)), ((6, 58), (5, 1, 126)), ((10, 95), (5, 1, 127)), ((6, 61), (5, 2, 128)), ((10, 98), (5, 2, 129)), ((5, 38), (5, 3, 130)), ((2, 46), (5, 3, 131)), ((10, 101), (5, 3, 132)), ((5, 9), (5, 4, 133)), ((2, 57), (5, 4, 134)), ((10, 104), (5, 4, 135)), ((5, 15), (5, 5, 136)), ((2, 66), (5, 5, 137)), ((10, 113), (5, 5, 138)), ((5, 18), (5, 6, 139)), ((5, 50), (5, 7, 140)), ((5, 22), (5, 8, 141)), ((10, 122), (5, 8, 142)), ((8, 9), (8, 0, 168)), ((6, 71), (8, 0, 169)), ((6, 72), (8, 1, 170)), ((1, 56), (8, 2, 171)), ((10, 133), (8, 2, 172)), ((6, 97), (8, 2, 173)), ((6, 73), (8, 3, 174)), ((6, 76), (8, 4, 175)), ((1, 61), (8, 5, 176)), ((6, 86), (8, 5, 177)), ((10, 193), (8, 5, 178)), ((6, 11), (6, 0, 192)), ((10, 83), (6, 0, 193)), ((6, 45), (6, 1, 194)), ((10, 321), (6, 1, 195)), ((6, 19), (6, 2, 196)), ((4, 80), (6, 2, 197)), ((10, 74), (6, 2, 198)), ((4, 45), (6, 3, 199)), ((6, 52), (6, 3, 200)), ((10, 327), (6, 3, 201)), ((4, 27), (6, 4, 202)), ((6, 64), (6, 4, 203)), ((10, 107), (6, 4, 204)), ((6, 23), (6, 5, 205)), ((10, 137), (6, 5, 206)), ((6, 27), (6, 6, 207)), ((10, 140), (6, 6, 208)), ((6, 30), (6, 7, 209)), ((10, 143), (6, 7, 210)), ((6, 33), (6, 8, 211)), ((10, 146), (6, 8, 212)), ((6, 39), (6, 9, 213)), ((4, 13), (4, 0, 243)), ((4, 16), (4, 1, 244)), ((4, 62), (4, 2, 245)), ((4, 20), (4, 3, 246)), ((4, 24), (4, 4, 247)), ((10, 174), (4, 4, 248)), ((3, 29), (9, 0, 274)), ((3, 32), (9, 1, 275)), ((9, 13), (9, 2, 276)), ((3, 38), (9, 2, 277)), ((9, 7), (9, 3, 278)), ((10, 212), (9, 3, 279)), ((3, 11), (3, 0, 289)), ((10, 208), (3, 0, 290)), ((3, 25), (3, 1, 291)), ((10, 205), (3, 1, 292)), ((3, 17), (3, 2, 293)), ((3, 35), (3, 3, 294)), ((10, 330), (3, 3, 295)), ((3, 70), (3, 4, 296)), ((10, 217), (3, 4, 297)), ((3, 20), (3, 5, 298)), ((1, 32), (0, 0, 325)), ((10, 264), (0, 0, 326)), ((0, 7), (0, 1, 327)), ((1, 35), (0, 1, 328)), ((0, 13), (0, 2, 329)), ((1, 38), (0, 2, 330)), ((1, 41), (0, 3, 331)), ((10, 271), (0, 3, 332)), ((1, 44), (0, 4, 333)), ((10, 259), (0, 4, 334)), ((1, 11), (1, 0, 346)), ((10, 255), (1, 0, 347)), ((1, 29), (1, 1, 348)), ((10, 252), (1, 1, 349)), ((1, 17), (1, 2, 350)), ((10, 246), (1, 2, 351)), ((1, 21), (1, 3, 352)), ((10, 249), (1, 3, 353)), ((1, 24), (1, 4, 354)), ((7, 15), (7, 0, 373)), ((10, 309), (7, 0, 374)), ((7, 19), (7, 1, 375)), ((10, 296), (7, 1, 376)), ((7, 9), (7, 2, 377)), ((10, 303), (7, 2, 378)), ((10, 10), (10, 0, 386)), ((10, 19), (10, 1, 387)), ((10, 26), (10, 2, 388)), ((10, 33), (10, 3, 389)), ((10, 39), (10, 4, 390)), ((10, 336), (10, 5, 391)), ((11, 132), (11, 0, 873)), ((11, 139), (11, 1, 874)), ((11, 218), (11, 2, 875)), ((11, 221), (11, 3, 876)), ((11, 242), (11, 4, 877)), ((11, 129), (11, 5, 878)), ((11, 7), (11, 6, 879)), ((11, 13), (11, 7, 880)), ((11, 16), (11, 8, 881)), ((11, 19), (11, 9, 882)), ((11, 224), (11, 10, 883)), ((11, 22), (11, 11, 884)), ((11, 25), (11, 12, 885)), ((11, 28), (11, 13, 886)), ((11, 32), (11, 14, 887)), ((11, 35), (11, 15, 888)), ((11, 38), (11, 16, 889)), ((11, 41), (11, 17, 890)), ((11, 44), (11, 18, 891)), ((11, 47), (11, 19, 892)), ((11, 50), (11, 20, 893)), ((11, 53), (11, 21, 894)), ((11, 56), (11, 22, 895)), ((11, 59), (11, 23, 896)), ((11, 63), (11, 24, 897)), ((11, 66), (11, 25, 898)), ((11, 69), (11, 26, 899)), ((11, 72), (11, 27, 900)), ((11, 75), (11, 28, 901)), ((11, 78), (11, 29, 902)), ((11, 81), (11, 30, 903)), ((11, 84), (11, 31, 904)), ((11, 87), (11, 32, 905)), ((11, 90), (11, 33, 906)), ((11, 93), (11, 34, 907)), ((11, 96), (11, 35, 908)), ((11, 99), (11, 36, 909)), ((11, 102), (11, 37, 910)), ((11, 105), (11, 38, 911)), ((11, 108), (11, 39, 912)), ((11, 111), (11, 40, 913)), ((11, 114), (11, 41, 914)), ((11, 117), (11, 42, 915)), ((11, 120), (11, 43, 916)), ((11, 123), (11, 44, 917)), ((11, 126), (11, 45, 918))]
def zm_sl : List ((Nat × Nat) × (Nat × Nat)) := [((8, 19), (109, 459)), ((5, 32), (108, 469))]
def zm_cs : List ((Nat × Nat) × (Int32 × Nat)) := [((10, 52), (-1000001, 415)), ((10, 339), (-1000002, 433)), ((10, 90), (-1000003, 472)), ((10, 132), (-1000005, 518)), ((13, 265), (1431655765, 546)), ((13, 266), (858993459, 547)), ((13, 267), (252645135, 548)), ((10, 165), (-1000004, 560)), ((10, 229), (-1000007, 730)), ((10, 302), (-1000006, 835)), ((11, 142), (-1000001, 1020)), ((11, 147), (-1000002, 1025)), ((11, 161), (-1000003, 1050)), ((11, 172), (-1000005, 1082)), ((11, 179), (-1000004, 1103)), ((11, 199), (1000000000, 1143)), ((11, 241), (-1000007, 1209)), ((11, 266), (-1000006, 1281))]
def zm_cl : List ((Nat × Nat) × (Int64 × Nat)) := [((4, 37), (2305843009213693952, 590))]
def zm_nc : List ((Nat × Nat) × (Nat × Nat)) := [((12, 7), (10, 55)), ((10, 7), (6, 63)), ((6, 9), (5, 69)), ((6, 17), (8, 71)), ((6, 36), (2, 73)), ((10, 16), (4, 235)), ((10, 23), (3, 261)), ((3, 9), (9, 267)), ((10, 30), (1, 312)), ((1, 9), (0, 318)), ((10, 37), (7, 366)), ((12, 10), (11, 867))]
-- the layout: a group's tag and length
def zg_L : List (Nat × Nat × Nat) := [(0, 0, 5), (1, 1, 5), (2, 2, 9), (3, 3, 6), (4, 4, 5), (5, 5, 9), (6, 6, 10), (7, 7, 3), (8, 8, 6), (9, 9, 4), (10, 10, 6), (11, 11, 46), (12, 9, 4), (40, 35, 10), (41, 38, 5), (42, 20, 3), (43, 29, 5), (44, 22, 1024), (45, 20, 5), (46, 22, 1024), (47, 20, 5), (48, 39, 6), (49, 39, 8), (50, 20, 6), (51, 30, 10), (52, 20, 9), (53, 37, 4), (54, 20, 10), (73, 20, 10), (74, 20, 10), (75, 20, 10), (76, 20, 10), (77, 20, 10), (78, 20, 10), (79, 20, 10), (80, 20, 10), (81, 20, 10), (82, 20, 30), (83, 21, 10), (84, 20, 5), (85, 20, 5), (86, 20, 5), (87, 21, 5), (88, 20, 6), (89, 20, 6), (90, 20, 8), (91, 20, 8), (92, 20, 8), (93, 21, 6), (94, 20, 10), (95, 20, 10), (96, 20, 10), (97, 20, 10), (98, 21, 10), (99, 20, 4), (100, 20, 4), (101, 20, 40), (102, 20, 6144), (103, 20, 5120), (104, 20, 5), (105, 20, 10)]
def zg (g : Nat) : Nat × Nat := match zg_L.lookup g with | some x => x | none => (99, 0)
def tg (g : Nat) : Nat := (zg g).1
def lg (g : Nat) : Nat := (zg g).2
def zn_L : List (Nat × Nat) := [(10, 0), (6, 0), (40, 0), (41, 0), (2, 0), (5, 0), (42, 0), (5, 1), (42, 1), (5, 2), (42, 2), (5, 3), (42, 3), (5, 4), (42, 4), (5, 5), (42, 5), (5, 6), (42, 6), (5, 7), (42, 7), (5, 8), (42, 8), (5, 9), (42, 9), (8, 0), (8, 1), (8, 2), (8, 3), (8, 4), (4, 0), (43, 0), (44, 0), (44, 1), (44, 2), (44, 3), (44, 4), (45, 0), (46, 0), (47, 0), (3, 0), (48, 0), (49, 0), (50, 0), (9, 0), (9, 1), (9, 2), (9, 3), (9, 4), (9, 5), (12, 0), (12, 1), (12, 2), (12, 3), (12, 4), (12, 5), (12, 6), (12, 7), (1, 0), (51, 0), (52, 0), (0, 0), (0, 1), (0, 2), (0, 3), (0, 4), (0, 5), (0, 6), (0, 7), (0, 8), (0, 9), (53, 0), (7, 0), (54, 0), (7, 1), (54, 1), (7, 2), (54, 2), (7, 3), (54, 3), (11, 0), (73, 0), (74, 0), (75, 0), (76, 0), (77, 0), (78, 0), (79, 0), (80, 0), (81, 0), (82, 0), (83, 0), (84, 0), (85, 0), (86, 0), (87, 0), (88, 0), (89, 0), (90, 0), (91, 0), (92, 0), (93, 0), (94, 0), (95, 0), (96, 0), (97, 0), (98, 0), (99, 0), (100, 0), (101, 0), (102, 0), (103, 0), (104, 0), (105, 0)]
def zn (k : Nat) : Nat × Nat := zn_L.getD k (99, k)
def zN : Nat := 114
def zNX : Nat := 80
def zsl : Nat → Nat
  | 0 => 0
  | n + 1 => zsl n + lg (zn n).1
def zTc (c : Nat) : u_T := match c with
  | 0 => TX0
  | 1 => TX1
  | 2 => TX2
  | 3 => TX3
  | 4 => TX4
  | 5 => TX5
  | 6 => TX6
  | 7 => TX7
  | 8 => TX8
  | 9 => TX9
  | 10 => TX10
  | _ => TX11
def zty (c : Nat) : Nat → FieldType := match c with
  | 0 => tyX0
  | 1 => tyX1
  | 2 => tyX2
  | 3 => tyX3
  | 4 => tyX4
  | 5 => tyX5
  | 6 => tyX6
  | 7 => tyX7
  | 8 => tyX8
  | 9 => tyX9
  | 10 => tyX10
  | _ => tyX11
def zNc (c : Nat) : Nat := lg c
/-- the type of an array's parts, by its tag -/
def zat (t : Nat) : FieldType := if t = 20 then .int else if t = 21 then .boolean else if t = 22 then .long else if t = 29 then .array .long else .object (zcl (t - 30))
def zarr : List Nat := [20, 21, 22, 29, 30, 35, 37, 38, 39]
def zgw : List Cond := lw_tbl.filter goodWord
/-- the word stands at this place, and is kept -/
def zat_ (k : Nat) (w : Cond) : Bool := decide (lw_tbl[k]? = some w) && goodWord w
theorem zat_in {k : Nat} {w : Cond} (h : zat_ k w = true) : w ∈ zgw := by
  unfold zat_ at h
  rw [Bool.and_eq_true, decide_eq_true_eq] at h
  exact List.mem_filter.mpr ⟨List.mem_of_getElem? h.1, h.2⟩
def zk_m (i : Nat) : Bool := zat_ (zps i).1 (Cond.code (zy i) (zb i) (znl i) (zrt i)) && zat_ (zps i).2.1 (Cond.initialized (zy i).cls) && zat_ (zps i).2.2.1 (if zkd i = 1 then Cond.static (zy i) else Cond.instanceMethod (zy i)) && (decide (¬ zkd i = 0) || zat_ (zps i).2.2.2 (Cond.selects (zy i).cls (zy i) (zy i)))
set_option maxRecDepth 100000 in
theorem zk_m_0 : ((List.range 8).all (fun i => zk_m (0 + i))) = true := by decide +kernel
set_option maxRecDepth 100000 in
theorem zk_m_1 : ((List.range 8).all (fun i => zk_m (8 + i))) = true := by decide +kernel
set_option maxRecDepth 100000 in
theorem zk_m_2 : ((List.range 8).all (fun i => zk_m (16 + i))) = true := by decide +kernel
set_option maxRecDepth 100000 in
theorem zk_m_3 : ((List.range 8).all (fun i => zk_m (24 + i))) = true := by decide +kernel
set_option maxRecDepth 100000 in
theorem zk_m_4 : ((List.range 8).all (fun i => zk_m (32 + i))) = true := by decide +kernel
set_option maxRecDepth 100000 in
theorem zk_m_5 : ((List.range 8).all (fun i => zk_m (40 + i))) = true := by decide +kernel
set_option maxRecDepth 100000 in
theorem zk_m_6 : ((List.range 8).all (fun i => zk_m (48 + i))) = true := by decide +kernel
set_option maxRecDepth 100000 in
theorem zk_m_7 : ((List.range 8).all (fun i => zk_m (56 + i))) = true := by decide +kernel
set_option maxRecDepth 100000 in
theorem zk_m_8 : ((List.range 8).all (fun i => zk_m (64 + i))) = true := by decide +kernel
set_option maxRecDepth 100000 in
theorem zk_m_9 : ((List.range 8).all (fun i => zk_m (72 + i))) = true := by decide +kernel
set_option maxRecDepth 100000 in
theorem zk_m_10 : ((List.range 8).all (fun i => zk_m (80 + i))) = true := by decide +kernel
set_option maxRecDepth 100000 in
theorem zk_m_11 : ((List.range 8).all (fun i => zk_m (88 + i))) = true := by decide +kernel
set_option maxRecDepth 100000 in
theorem zk_m_12 : ((List.range 8).all (fun i => zk_m (96 + i))) = true := by decide +kernel
set_option maxRecDepth 100000 in
theorem zk_m_13 : ((List.range 8).all (fun i => zk_m (104 + i))) = true := by decide +kernel
set_option maxRecDepth 100000 in
theorem zk_m_14 : ((List.range 8).all (fun i => zk_m (112 + i))) = true := by decide +kernel
set_option maxRecDepth 100000 in
theorem zk_m_15 : ((List.range 8).all (fun i => zk_m (120 + i))) = true := by decide +kernel
set_option maxRecDepth 100000 in
theorem zk_m_16 : ((List.range 8).all (fun i => zk_m (128 + i))) = true := by decide +kernel
set_option maxRecDepth 100000 in
theorem zk_m_17 : ((List.range 8).all (fun i => zk_m (136 + i))) = true := by decide +kernel
set_option maxRecDepth 100000 in
theorem zk_m_18 : ((List.range 8).all (fun i => zk_m (144 + i))) = true := by decide +kernel
set_option maxRecDepth 100000 in
theorem zk_m_19 : ((List.range 8).all (fun i => zk_m (152 + i))) = true := by decide +kernel
set_option maxRecDepth 100000 in
theorem zk_m_20 : ((List.range 8).all (fun i => zk_m (160 + i))) = true := by decide +kernel
set_option maxRecDepth 100000 in
theorem zk_m_21 : ((List.range 8).all (fun i => zk_m (168 + i))) = true := by decide +kernel
set_option maxRecDepth 100000 in
theorem zk_m_22 : ((List.range 8).all (fun i => zk_m (176 + i))) = true := by decide +kernel
set_option maxRecDepth 100000 in
theorem zk_m_23 : ((List.range 3).all (fun i => zk_m (184 + i))) = true := by decide +kernel
def zmids : Nat := 187
theorem zk_m_at (q n : Nat) (h : ((List.range n).all (fun i => zk_m (q + i))) = true) (i : Nat) (h1 : q ≤ i) (h2 : i < q + n) : zk_m i = true := by
  have := List.all_eq_true.mp h (i - q) (List.mem_range.mpr (by omega))
  rwa [show q + (i - q) = i by omega] at this
theorem zk_m_all (i : Nat) (h : i < zmids) : zk_m i = true := by
  unfold zmids at h
  by_cases h0 : i < 8
  · exact zk_m_at 0 8 zk_m_0 i (by omega) (by omega)
  by_cases h1 : i < 16
  · exact zk_m_at 8 8 zk_m_1 i (by omega) (by omega)
  by_cases h2 : i < 24
  · exact zk_m_at 16 8 zk_m_2 i (by omega) (by omega)
  by_cases h3 : i < 32
  · exact zk_m_at 24 8 zk_m_3 i (by omega) (by omega)
  by_cases h4 : i < 40
  · exact zk_m_at 32 8 zk_m_4 i (by omega) (by omega)
  by_cases h5 : i < 48
  · exact zk_m_at 40 8 zk_m_5 i (by omega) (by omega)
  by_cases h6 : i < 56
  · exact zk_m_at 48 8 zk_m_6 i (by omega) (by omega)
  by_cases h7 : i < 64
  · exact zk_m_at 56 8 zk_m_7 i (by omega) (by omega)
  by_cases h8 : i < 72
  · exact zk_m_at 64 8 zk_m_8 i (by omega) (by omega)
  by_cases h9 : i < 80
  · exact zk_m_at 72 8 zk_m_9 i (by omega) (by omega)
  by_cases h10 : i < 88
  · exact zk_m_at 80 8 zk_m_10 i (by omega) (by omega)
  by_cases h11 : i < 96
  · exact zk_m_at 88 8 zk_m_11 i (by omega) (by omega)
  by_cases h12 : i < 104
  · exact zk_m_at 96 8 zk_m_12 i (by omega) (by omega)
  by_cases h13 : i < 112
  · exact zk_m_at 104 8 zk_m_13 i (by omega) (by omega)
  by_cases h14 : i < 120
  · exact zk_m_at 112 8 zk_m_14 i (by omega) (by omega)
  by_cases h15 : i < 128
  · exact zk_m_at 120 8 zk_m_15 i (by omega) (by omega)
  by_cases h16 : i < 136
  · exact zk_m_at 128 8 zk_m_16 i (by omega) (by omega)
  by_cases h17 : i < 144
  · exact zk_m_at 136 8 zk_m_17 i (by omega) (by omega)
  by_cases h18 : i < 152
  · exact zk_m_at 144 8 zk_m_18 i (by omega) (by omega)
  by_cases h19 : i < 160
  · exact zk_m_at 152 8 zk_m_19 i (by omega) (by omega)
  by_cases h20 : i < 168
  · exact zk_m_at 160 8 zk_m_20 i (by omega) (by omega)
  by_cases h21 : i < 176
  · exact zk_m_at 168 8 zk_m_21 i (by omega) (by omega)
  by_cases h22 : i < 184
  · exact zk_m_at 176 8 zk_m_22 i (by omega) (by omega)
  exact zk_m_at 184 3 zk_m_23 i (by omega) (by omega)
def zk_n (i : Nat) : Bool := plainName (zy i).cls && decide ((zy i).cls ≠ "java/lang/invoke/MethodHandle" ∧ (zy i).cls ≠ "java/lang/invoke/VarHandle" ∧ (parseMethodDescriptor (zy i).desc).map (fun d => d.parameters.length) = some (znp i)) && decide ((zy i).cls = zcl (zcn i)) && (decide (zkd i = 2) == decide ((zy i).name = "<init>")) && (decide (zkd i = 1) || decide (zcn i < 12))
set_option maxRecDepth 100000 in
theorem zk_n_all : ((List.range 188).all zk_n) = true := by decide +kernel
def zk_l (q : (Nat × Nat) × (Nat × Nat × Nat)) : Bool := (decide (q.2.1 < zmids) && (if q.2.2.1 = 1 then decide (lw_tbl[q.2.2.2]? = some (Cond.methodLinkNest (zcl q.1.1) q.1.2 (zy q.2.1) "SnowSchool")) else zat_ q.2.2.2 (Cond.methodLink (zcl q.1.1) q.1.2 (zy q.2.1)))) || (decide (q.2.1 = 900) && zat_ q.2.2.2 (Cond.methodLink (zcl q.1.1) q.1.2 objectInit)) || (decide (q.2.1 = 901) && zat_ q.2.2.2 (Cond.methodLink (zcl q.1.1) q.1.2 arraycopyName)) || (decide (q.2.1 = 902) && zat_ q.2.2.2 (Cond.methodLink (zcl q.1.1) q.1.2 Lib.Math.max.name)) || (decide (q.2.1 = 903) && zat_ q.2.2.2 (Cond.methodLink (zcl q.1.1) q.1.2 Lib.Math.min.name)) || (decide (q.2.1 = 904) && zat_ q.2.2.2 (Cond.methodLink (zcl q.1.1) q.1.2 Lib.MathLoose.min_long.x))
set_option maxRecDepth 100000 in
theorem zk_l_all : (zm_lk.all zk_l) = true := by decide +kernel
def zk_f (q : (Nat × Nat) × (Nat × Nat × Nat)) : Bool := decide (q.2.1 < 12) && decide (q.2.2.1 < lg q.2.1) && zat_ q.2.2.2 (Cond.fieldLink (zcl q.1.1) q.1.2 (zTc q.2.1 q.2.2.1).1 (zTc q.2.1 q.2.2.1).2.1 (zTc q.2.1 q.2.2.1).2.2.1) && decide ((zTc q.2.1 q.2.2.1).1 = zcl q.2.1)
set_option maxRecDepth 100000 in
theorem zk_f_all : (zm_fl.all zk_f) = true := by decide +kernel
def zk_c (q : (Nat × Nat) × (Int32 × Nat)) : Bool := zat_ q.2.2 (Cond.constant (zcl q.1.1) q.1.2 q.2.1)
set_option maxRecDepth 100000 in
theorem zk_c_all : (zm_cs.all zk_c) = true := by decide +kernel
def zk_d (q : (Nat × Nat) × (Int64 × Nat)) : Bool := zat_ q.2.2 (Cond.constantLong (zcl q.1.1) q.1.2 q.2.1)
set_option maxRecDepth 100000 in
theorem zk_d_all : (zm_cl.all zk_d) = true := by decide +kernel
def zk_s (q : (Nat × Nat) × (Nat × Nat)) : Bool := decide (lw_tbl[q.2.2]? = some (Cond.fieldLinkNest (zcl q.1.1) q.1.2 "SnowSchool" (if q.2.1 = 108 then "PUPIL_KINDS" else "TEACHER_KINDS") "[I" "SnowSchool")) && (decide (q.2.1 = 108) || decide (q.2.1 = 109))
set_option maxRecDepth 100000 in
theorem zk_s_all : (zm_sl.all zk_s) = true := by decide +kernel
def zk_k (q : (Nat × Nat) × (Nat × Nat)) : Bool := zat_ q.2.2 (Cond.classLink (zcl q.1.1) q.1.2 (zcl q.2.1)) && decide (q.2.1 < 12)
set_option maxRecDepth 100000 in
theorem zk_k_all : (zm_nc.all zk_k) = true := by decide +kernel
/-- words that are kept another way: nest links, arrays over a class -/
def zbw_ : Cond → Bool
  | .methodLinkNest .. => true
  | .fieldLinkNest .. => true
  | .arrayOver (.object _) => true
  | _ => false
def zbw : List Cond := lw_tbl.filter zbw_
set_option maxRecDepth 100000 in
theorem zk_in0 : ((u_ws RX0 TX0 5).all (fun w => decide (w ∈ lw_tbl) && goodWord w)) = true := by decide +kernel
set_option maxRecDepth 100000 in
theorem zk_in1 : ((u_ws RX1 TX1 5).all (fun w => decide (w ∈ lw_tbl) && goodWord w)) = true := by decide +kernel
set_option maxRecDepth 100000 in
theorem zk_in2 : ((u_ws RX2 TX2 9).all (fun w => decide (w ∈ lw_tbl) && goodWord w)) = true := by decide +kernel
set_option maxRecDepth 100000 in
theorem zk_in3 : ((u_ws RX3 TX3 6).all (fun w => decide (w ∈ lw_tbl) && goodWord w)) = true := by decide +kernel
set_option maxRecDepth 100000 in
theorem zk_in4 : ((u_ws RX4 TX4 5).all (fun w => decide (w ∈ lw_tbl) && goodWord w)) = true := by decide +kernel
set_option maxRecDepth 100000 in
theorem zk_in5 : ((u_ws RX5 TX5 9).all (fun w => decide (w ∈ lw_tbl) && goodWord w)) = true := by decide +kernel
set_option maxRecDepth 100000 in
theorem zk_in6 : ((u_ws RX6 TX6 10).all (fun w => decide (w ∈ lw_tbl) && goodWord w)) = true := by decide +kernel
set_option maxRecDepth 100000 in
theorem zk_in7 : ((u_ws RX7 TX7 3).all (fun w => decide (w ∈ lw_tbl) && goodWord w)) = true := by decide +kernel
set_option maxRecDepth 100000 in
theorem zk_in8 : ((u_ws RX8 TX8 6).all (fun w => decide (w ∈ lw_tbl) && goodWord w)) = true := by decide +kernel
set_option maxRecDepth 100000 in
theorem zk_in9 : ((u_ws RX9 TX9 4).all (fun w => decide (w ∈ lw_tbl) && goodWord w)) = true := by decide +kernel
set_option maxRecDepth 100000 in
theorem zk_in10 : ((u_ws RX10 TX10 6).all (fun w => decide (w ∈ lw_tbl) && goodWord w)) = true := by decide +kernel
set_option maxRecDepth 100000 in
theorem zk_in11 : ((u_ws RX11 TX11 46).all (fun w => decide (w ∈ lw_tbl) && goodWord w)) = true := by decide +kernel
def zk_w : List Cond := [.arrayClass .int, .arrayClass .boolean, .arrayClass .long, .instanceMethod objectInit, .code objectInit ⟨#[0xb1]⟩ 1 none, .native arraycopyName, .static arraycopyName, .initialized "java/lang/System", .static Lib.Math.max.name, .static Lib.Math.min.name, .static Lib.MathLoose.min_long.x, .initialized "java/lang/Math", .code Lib.Math.max.name Lib.Math.max.code 2 (some .int), .code Lib.Math.min.name Lib.Math.min.code 2 (some .int), .code Lib.MathLoose.min_long.x Lib.MathLoose.min_long.code 4 (some .long), .classLink RX4 11 "[[J"]
set_option maxRecDepth 100000 in
theorem zk_w_ok : (zk_w.all (fun w => decide (w ∈ lw_tbl) && goodWord w)) = true := by decide +kernel
set_option maxRecDepth 100000 in
theorem zk_w_in : ∀ w ∈ zk_w, w ∈ zgw := fun w h => by
  have := List.all_eq_true.mp zk_w_ok w h
  rw [Bool.and_eq_true, decide_eq_true_eq] at this
  exact List.mem_filter.mpr this
def zk_i (c : Nat) : Bool := decide (Cond.instantiable (zcl c) (lg c) ∈ lw_tbl) && goodWord (Cond.instantiable (zcl c) (lg c)) && decide (Cond.initialized (zcl c) ∈ lw_tbl) && goodWord (Cond.initialized (zcl c))
set_option maxRecDepth 100000 in
theorem zk_i_all : ((List.range 12).all zk_i) = true := by decide +kernel

/-! the methods, by numbers -/
abbrev Md : Type := MethodName × ByteArray × Nat × Option FieldType
def mds_0 : List Md := [(yX0_init, cX0_init, 1, none), (yX0_has, cX0_has, 2, (some .boolean)), (yX0_add, cX0_add, 2, (some .int)), (yX0_kindOf, cX0_kindOf, 2, (some .int)), (yX0_isUnder, cX0_isUnder, 4, (some .boolean)), (yX0_begin, cX0_begin, 4, (some .int)), (yX0_ran, cX0_ran, 2, (some .int)), (yX0_above, cX0_above, 1, (some .int)), (yX0_ownBody, cX0_ownBody, 2, (some .int)), (yX0_perform, cX0_perform, 7, (some .int)), (yX0_performOwn, cX0_performOwn, 4, (some .int)), (yX0_run, cX0_run, 5, (some .int)), (yX1_init, cX1_init, 1, none), (yX1_note, cX1_note, 5, none), (yX1_takeBack, cX1_takeBack, 2, (some .int)), (yX1_makeAgain, cX1_makeAgain, 2, (some .int)), (yX1_dropOldest, cX1_dropOldest, 1, none), (yX2_init, cX2_init, 1, none), (yX2_become, cX2_become, 2, none), (yX2_allLying, cX2_allLying, 3, (some .int)), (yX3_init, cX3_init, 1, none), (yX3_clear, cX3_clear, 1, none), (yX3_isEmpty, cX3_isEmpty, 1, (some .boolean)), (yX0_has, cX0_has, 2, (some .boolean)), (yX3_add, cX3_add, 4, (some .int)), (yX3_addLine, cX3_addLine, 3, none), (yX3_name, cX3_name, 3, none), (yX3_work, cX3_work, 3, (some .int)), (yX3_has, cX3_has, 2, (some .boolean)), (yX3_join, cX3_join, 3, (some .int)), (yX4_init, cX4_init, 3, none), (yX4_begin, cX4_begin, 2, none), (yX4_knownNumber, cX4_knownNumber, 5, (some .int)), (yX4_number, cX4_number, 9, (some .int)), (yX4_others, cX4_others, 6, (some .int)), (yX4_held, cX4_held, 1, (some .int)), (yX5_init, cX5_init, 4, none), (yX5_spread, cX5_spread, 5, none), (yX5_spreadHour, cX5_spreadHour, 5, none), (yX5_spreadPerson, cX5_spreadPerson, 7, none)]
def mds_1 : List Md := [(yX5_weigh, cX5_weigh, 3, none), (yX6_init, cX6_init, 3, none), (yX6_measure, cX6_measure, 9, (some .int)), (yX6_follow, cX6_follow, 6, (some .int)), (yX6_bestStep, cX6_bestStep, 7, (some .int)), (yX6_leastAt, cX6_leastAt, 4, (some .int)), (yX7_init, cX7_init, 1, none), (yX7_has, cX7_has, 2, (some .boolean)), (yX7_holdsNothing, cX7_holdsNothing, 2, (some .boolean)), (yX7_holdsBytes, cX7_holdsBytes, 2, (some .boolean)), (yX7_holdAlike, cX7_holdAlike, 3, (some .boolean)), (yX7_holdsRow, cX7_holdsRow, 2, (some .boolean)), (yX7_lengthOf, cX7_lengthOf, 2, (some .int)), (yX7_bodyOn, cX7_bodyOn, 2, (some .int)), (yX7_clear, cX7_clear, 2, none), (yX7_holdBody, cX7_holdBody, 3, none), (yX7_holdRow, cX7_holdRow, 4, none), (yX7_refusal, cX7_refusal, 3, (some .int)), (yX7_get, cX7_get, 3, (some .long)), (yX7_set, cX7_set, 5, none), (yX7_cut, cX7_cut, 3, (some .long)), (yX7_hasSpan, cX7_hasSpan, 4, (some .boolean)), (yX7_carry, cX7_carry, 6, none), (yX8_init, cX8_init, 1, none), (yX8_formula, cX8_formula, 1, (some (.object "HatRank$Formula"))), (yX8_take, cX8_take, 2, (some .int)), (yX8_becomeLaw, cX8_becomeLaw, 3, (some .int)), (yX8_here, cX8_here, 1, (some .int)), (yX8_readLines, cX8_readLines, 2, (some .boolean)), (yX8_readLine, cX8_readLine, 3, (some .boolean)), (yX8_readJoined, cX8_readJoined, 8, (some .int)), (yX8_joins, cX8_joins, 2, (some .boolean)), (yX8_readOperand, cX8_readOperand, 4, (some .int)), (yX8_readOpened, cX8_readOpened, 4, (some .int)), (yX8_readNumber, cX8_readNumber, 3, (some .int)), (yX8_isDigit, cX8_isDigit, 1, (some .boolean)), (yX9_init, cX9_init, 1, none), (yX9_hasPerson, cX9_hasPerson, 2, (some .boolean)), (yX9_hasPlace, cX9_hasPlace, 2, (some .boolean)), (yX9_addPlace, cX9_addPlace, 2, (some .int))]
def mds_2 : List Md := [(yX9_addPerson, cX9_addPerson, 2, (some .int)), (yX9_joined, cX9_joined, 3, (some .boolean)), (yX9_addWay, cX9_addWay, 3, (some .int)), (yX9_gust, cX9_gust, 4, (some .int)), (yX9_hasSetting, cX9_hasSetting, 4, (some .boolean)), (yX9_exchange, cX9_exchange, 6, (some .int)), (yX9_rank, cX9_rank, 5, (some .int)), (yX9_commander, cX9_commander, 4, (some .int)), (yX10_init, cX10_init, 3, none), (yX10_begin, cX10_begin, 2, none), (yX10_think, cX10_think, 4, (some (.object "HatRank$Day"))), (yX10_blowHours, cX10_blowHours, 8, (some .int)), (yX10_draws, cX10_draws, 3, (some .boolean)), (yX10_takeUp, cX10_takeUp, 4, none), (yX10_fall, cX10_fall, 4, (some .int)), (yX10_unfall, cX10_unfall, 4, none), (yX10_shiftHat, cX10_shiftHat, 5, none), (yX10_landing, cX10_landing, 6, (some .int)), (yX10_catches, cX10_catches, 3, (some .boolean)), (yX11_init, cX11_init, 1, none), (yX11_place, cX11_place, 2, (some .int)), (yX11_way, cX11_way, 4, (some .int)), (yX11_person, cX11_person, 3, (some .int)), (yX11_people, cX11_people, 5, (some .int)), (yX11_mend, cX11_mend, 6, (some .int)), (yX11_of, cX11_of, 3, (some .int)), (yX11_feed, cX11_feed, 2, (some .int)), (yX11_law, cX11_law, 2, (some .int)), (yX11_go, cX11_go, 3, (some .int)), (yX11_move, cX11_move, 3, (some .int)), (yX11_lay, cX11_lay, 2, (some .int)), (yX11_commands, cX11_commands, 1, (some .int)), (yX11_led, cX11_led, 2, (some .int)), (yX11_risk, cX11_risk, 4, (some .int)), (yX11_walk, cX11_walk, 5, (some .int)), (yX11_chance, cX11_chance, 6, (some .long)), (yX11_mean, cX11_mean, 6, (some .long)), (yX11_stand, cX11_stand, 8, (some .int)), (yX11_heavy, cX11_heavy, 4, (some .int)), (yX11_ahead, cX11_ahead, 7, (some .int))]
def mds_3 : List Md := [(yX11_storm, cX11_storm, 5, (some .int)), (yX11_seeded, cX11_seeded, 4, (some .int)), (yX11_image, cX11_image, 1, (some .int)), (yX11_back, cX11_back, 2, (some .int)), (yX11_undo, cX11_undo, 1, (some .int)), (yX11_redo, cX11_redo, 1, (some .int)), (yX11_body, cX11_body, 2, (some .int)), (yX11_act, cX11_act, 4, (some .int)), (yX11_trace, cX11_trace, 2, (some .int)), (yX11_keep, cX11_keep, 3, (some .int)), (yX11_row, cX11_row, 4, (some .int)), (yX11_put, cX11_put, 6, (some .int)), (yX11_element, cX11_element, 3, (some .long)), (yX11_shift, cX11_shift, 6, (some .int)), (yX11_taken, cX11_taken, 4, (some .int)), (yX11_count, cX11_count, 2, (some .int)), (yX11_within, cX11_within, 3, (some .boolean)), (yX11_hoursLeft, cX11_hoursLeft, 1, (some .int)), (yX11_mayThink, cX11_mayThink, 3, (some .boolean)), (yX11_fractionRefusal, cX11_fractionRefusal, 4, (some .long)), (yX11_mayEnd, cX11_mayEnd, 2, (some .boolean)), (yX11_newPerson, cX11_newPerson, 5, (some .int)), (yX11_newPersonFrom, cX11_newPersonFrom, 6, (some .int)), (yX11_ofPerson, cX11_ofPerson, 3, (some .int)), (yX11_ofPlace, cX11_ofPlace, 3, (some .int)), (yX11_hatsAreAsTold, cX11_hatsAreAsTold, 5, (some .boolean)), (yX11_partOf, cX11_partOf, 7, (some .long)), (yX11_commonDivisor, cX11_commonDivisor, 11, (some .long)), (yX12_init, cX12_init, 1, none), (yX12_in, cX12_in, 3, (some .boolean)), (yX12_isPlace, cX12_isPlace, 2, (some .boolean)), (yX12_isPerson, cX12_isPerson, 2, (some .boolean)), (yX12_isHour, cX12_isHour, 1, (some .boolean)), (yX12_place, cX12_place, 2, (some .int)), (yX12_isWay, cX12_isWay, 4, (some .boolean)), (yX12_way, cX12_way, 2, (some .int)), (yX12_addPerson, cX12_addPerson, 4, (some .int)), (yX12_person, cX12_person, 3, (some .int)), (yX12_people, cX12_people, 8, (some .int)), (yX12_valueAt, cX12_valueAt, 3, (some .int))]
def mds_4 : List Md := [(yX12_lays, cX12_lays, 4, none), (yX12_changes, cX12_changes, 6, (some .int)), (yX12_undo, cX12_undo, 1, (some .int)), (yX12_redo, cX12_redo, 1, (some .int)), (yX12_mend, cX12_mend, 4, (some .int)), (yX12_feed, cX12_feed, 2, (some .int)), (yX12_look, cX12_look, 1, (some .int)), (yX12_faulty, cX12_faulty, 1, none), (yX12_addStep, cX12_addStep, 3, none), (yX12_nameOf, cX12_nameOf, 1, (some .int)), (yX12_opens, cX12_opens, 1, (some .boolean)), (yX12_figure, cX12_figure, 3, none), (yX12_operand, cX12_operand, 2, none), (yX12_product, cX12_product, 2, none), (yX12_sum, cX12_sum, 2, none), (yX12_compared, cX12_compared, 2, none), (yX12_both, cX12_both, 1, none), (yX12_either, cX12_either, 1, none), (yX12_line, cX12_line, 2, none), (yX12_readText, cX12_readText, 3, (some .int)), (yX12_twoOf, cX12_twoOf, 3, (some .int)), (yX12_worked, cX12_worked, 7, (some .int)), (yX12_gives, cX12_gives, 4, (some .int)), (yX12_law, cX12_law, 2, (some .int)), (yX12_gustAt, cX12_gustAt, 4, (some .int)), (yX12_think, cX12_think, 2, none), (yX12_falls, cX12_falls, 3, (some .int)), (yX12_fallsBy, cX12_fallsBy, 9, (some .int)), (yX12_rankOf, cX12_rankOf, 5, (some .int)), (yX12_firstOf, cX12_firstOf, 3, (some .int)), (yX12_of, cX12_of, 3, (some .int)), (yX12_takeUp, cX12_takeUp, 2, none), (yX12_catcher, cX12_catcher, 4, (some .int)), (yX12_fall, cX12_fall, 4, none), (yX12_goHour, cX12_goHour, 4, (some .int)), (yX12_go, cX12_go, 5, (some .int)), (yX12_move, cX12_move, 3, (some .int)), (yX12_lay, cX12_lay, 2, (some .int)), (yX12_commands, cX12_commands, 1, (some .int)), (yX12_led, cX12_led, 2, (some .int))]
def mds_5 : List Md := [(yX12_mayGo, cX12_mayGo, 3, (some .boolean)), (yX12_findRisk, cX12_findRisk, 8, none), (yX12_isWalk, cX12_isWalk, 3, (some .boolean)), (yX12_risk, cX12_risk, 4, (some .int)), (yX12_walk, cX12_walk, 8, (some .int)), (yX12_keepThen, cX12_keepThen, 3, none), (yX12_layBack, cX12_layBack, 3, none), (yX12_goThrough, cX12_goThrough, 7, none), (yX12_findChance, cX12_findChance, 4, none), (yX12_common, cX12_common, 10, (some .long)), (yX12_below, cX12_below, 5, (some .long)), (yX12_asPart, cX12_asPart, 7, (some .long)), (yX12_chance, cX12_chance, 4, (some .long)), (yX12_mean, cX12_mean, 4, (some .long)), (yX12_stand, cX12_stand, 7, (some .int)), (yX12_heavy, cX12_heavy, 4, (some .int)), (yX12_thinkOn, cX12_thinkOn, 4, none), (yX12_ahead, cX12_ahead, 7, (some .int)), (yX12_storm, cX12_storm, 4, (some .int)), (yX12_seeded, cX12_seeded, 6, (some .int)), (yX12_image, cX12_image, 2, (some .int)), (yX12_back, cX12_back, 2, (some .int)), (yX12_isBody, cX12_isBody, 2, (some .boolean)), (yX12_ran, cX12_ran, 2, none), (yX12_trace, cX12_trace, 2, (some .int)), (yX12_body, cX12_body, 2, (some .int)), (yX12_isUnder, cX12_isUnder, 2, (some .boolean)), (yX12_plainSits, cX12_plainSits, 3, (some .int)), (yX12_newSits, cX12_newSits, 3, (some .int)), (yX12_sitting, cX12_sitting, 3, (some .int)), (yX12_plainFalls, cX12_plainFalls, 3, (some .int)), (yX12_blownFalls, cX12_blownFalls, 3, (some .int)), (yX12_falling, cX12_falling, 4, (some .int)), (yX12_plainLands, cX12_plainLands, 3, (some .int)), (yX12_caughtLands, cX12_caughtLands, 3, (some .int)), (yX12_landing, cX12_landing, 4, (some .int)), (yX12_plainRanks, cX12_plainRanks, 4, (some .int)), (yX12_ranking, cX12_ranking, 3, (some .int)), (yX12_act, cX12_act, 4, (some .int)), (yX12_count, cX12_count, 2, (some .int))]
def mds_6 : List Md := [(yX12_isShelf, cX12_isShelf, 1, (some .boolean)), (yX12_keep, cX12_keep, 3, (some .int)), (yX12_row, cX12_row, 5, (some .int)), (yX12_whyNoPlace, cX12_whyNoPlace, 3, (some .int)), (yX12_put, cX12_put, 7, (some .int)), (yX12_element, cX12_element, 3, (some .long)), (yX12_shift, cX12_shift, 7, (some .int)), (yX12_taken, cX12_taken, 3, (some .int)), (yJ0_length_8abf5, cJ0_length_8abf5, 1, (some .int)), (yJ0_indexOf_0f7a4, cJ0_indexOf_0f7a4, 2, (some .int)), (yJ0_indexOf_7cf53, cJ0_indexOf_7cf53, 3, (some .int)), (yJ0_coder_7d493, cJ0_coder_7d493, 1, (some .byte)), (yJ0_isLatin1_aae02, cJ0_isLatin1_aae02, 1, (some .boolean)), (yJ0_checkBoundsBeginEnd_23922, cJ0_checkBoundsBeginEnd_23922, 3, none), (yJ1_canEncode_9a6ad, cJ1_canEncode_9a6ad, 1, (some .boolean)), (yJ1_indexOf_4cfef, cJ1_indexOf_4cfef, 4, (some .int)), (yJ1_indexOfChar_4cfef, cJ1_indexOfChar_4cfef, 6, (some .int)), (yJ2_getChar_3b067, cJ2_getChar_3b067, 2, (some .char)), (yJ2_length_9d52b, cJ2_length_9d52b, 1, (some .int)), (yJ2_indexOf_4cfef, cJ2_indexOf_4cfef, 4, (some .int)), (yJ2_indexOfChar_4cfef, cJ2_indexOfChar_4cfef, 4, (some .int)), (yJ2_indexOfCharUnsafe_4cfef, cJ2_indexOfCharUnsafe_4cfef, 5, (some .int)), (yJ2_indexOfSupplementary_4cfef, cJ2_indexOfSupplementary_4cfef, 7, (some .int)), (yJ2_checkBoundsBeginEnd_d044e, cJ2_checkBoundsBeginEnd_d044e, 3, none), (yJ3_checkFromToIndex_8c36e, cJ3_checkFromToIndex_8c36e, 4, (some .int)), (yJ7_fill_d0a16, cJ7_fill_d0a16, 5, none), (yJ7_fill_53178, cJ7_fill_53178, 4, none), (yJ9_max_7cf53, cJ9_max_7cf53, 2, (some .int)), (yJ9_min_7cf53, cJ9_min_7cf53, 2, (some .int)), (yJ11_isValidCodePoint_9a6ad, cJ11_isValidCodePoint_9a6ad, 2, (some .boolean)), (yJ11_highSurrogate_5068e, cJ11_highSurrogate_5068e, 1, (some .char)), (yJ11_lowSurrogate_5068e, cJ11_lowSurrogate_5068e, 1, (some .char))]
def mds : List Md := mds_0 ++ (mds_1 ++ (mds_2 ++ (mds_3 ++ (mds_4 ++ (mds_5 ++ (mds_6))))))
def md (y : Nat) : Md := mds.getD y (yX0_has, cX0_has, 2, some .boolean)
theorem md_X0_init : md 0 = (yX0_init, cX0_init, 1, none) := rfl
theorem md_X0_has : md 1 = (yX0_has, cX0_has, 2, (some .boolean)) := rfl
theorem md_X0_add : md 2 = (yX0_add, cX0_add, 2, (some .int)) := rfl
theorem md_X0_kindOf : md 3 = (yX0_kindOf, cX0_kindOf, 2, (some .int)) := rfl
theorem md_X0_isUnder : md 4 = (yX0_isUnder, cX0_isUnder, 4, (some .boolean)) := rfl
theorem md_X0_begin : md 5 = (yX0_begin, cX0_begin, 4, (some .int)) := rfl
theorem md_X0_ran : md 6 = (yX0_ran, cX0_ran, 2, (some .int)) := rfl
theorem md_X0_above : md 7 = (yX0_above, cX0_above, 1, (some .int)) := rfl
theorem md_X0_ownBody : md 8 = (yX0_ownBody, cX0_ownBody, 2, (some .int)) := rfl
theorem md_X0_perform : md 9 = (yX0_perform, cX0_perform, 7, (some .int)) := rfl
theorem md_X0_performOwn : md 10 = (yX0_performOwn, cX0_performOwn, 4, (some .int)) := rfl
theorem md_X0_run : md 11 = (yX0_run, cX0_run, 5, (some .int)) := rfl
theorem md_X1_init : md 12 = (yX1_init, cX1_init, 1, none) := rfl
theorem md_X1_note : md 13 = (yX1_note, cX1_note, 5, none) := rfl
theorem md_X1_takeBack : md 14 = (yX1_takeBack, cX1_takeBack, 2, (some .int)) := rfl
theorem md_X1_makeAgain : md 15 = (yX1_makeAgain, cX1_makeAgain, 2, (some .int)) := rfl
theorem md_X1_dropOldest : md 16 = (yX1_dropOldest, cX1_dropOldest, 1, none) := rfl
theorem md_X2_init : md 17 = (yX2_init, cX2_init, 1, none) := rfl
theorem md_X2_become : md 18 = (yX2_become, cX2_become, 2, none) := rfl
theorem md_X2_allLying : md 19 = (yX2_allLying, cX2_allLying, 3, (some .int)) := rfl
theorem md_X3_init : md 20 = (yX3_init, cX3_init, 1, none) := rfl
theorem md_X3_clear : md 21 = (yX3_clear, cX3_clear, 1, none) := rfl
theorem md_X3_isEmpty : md 22 = (yX3_isEmpty, cX3_isEmpty, 1, (some .boolean)) := rfl
theorem md_X3_add : md 24 = (yX3_add, cX3_add, 4, (some .int)) := rfl
theorem md_X3_addLine : md 25 = (yX3_addLine, cX3_addLine, 3, none) := rfl
theorem md_X3_name : md 26 = (yX3_name, cX3_name, 3, none) := rfl
theorem md_X3_work : md 27 = (yX3_work, cX3_work, 3, (some .int)) := rfl
theorem md_X3_has : md 28 = (yX3_has, cX3_has, 2, (some .boolean)) := rfl
theorem md_X3_join : md 29 = (yX3_join, cX3_join, 3, (some .int)) := rfl
theorem md_X4_init : md 30 = (yX4_init, cX4_init, 3, none) := rfl
theorem md_X4_begin : md 31 = (yX4_begin, cX4_begin, 2, none) := rfl
theorem md_X4_knownNumber : md 32 = (yX4_knownNumber, cX4_knownNumber, 5, (some .int)) := rfl
theorem md_X4_number : md 33 = (yX4_number, cX4_number, 9, (some .int)) := rfl
theorem md_X4_others : md 34 = (yX4_others, cX4_others, 6, (some .int)) := rfl
theorem md_X4_held : md 35 = (yX4_held, cX4_held, 1, (some .int)) := rfl
theorem md_X5_init : md 36 = (yX5_init, cX5_init, 4, none) := rfl
theorem md_X5_spread : md 37 = (yX5_spread, cX5_spread, 5, none) := rfl
theorem md_X5_spreadHour : md 38 = (yX5_spreadHour, cX5_spreadHour, 5, none) := rfl
theorem md_X5_spreadPerson : md 39 = (yX5_spreadPerson, cX5_spreadPerson, 7, none) := rfl
theorem md_X5_weigh : md 40 = (yX5_weigh, cX5_weigh, 3, none) := rfl
theorem md_X6_init : md 41 = (yX6_init, cX6_init, 3, none) := rfl
theorem md_X6_measure : md 42 = (yX6_measure, cX6_measure, 9, (some .int)) := rfl
theorem md_X6_follow : md 43 = (yX6_follow, cX6_follow, 6, (some .int)) := rfl
theorem md_X6_bestStep : md 44 = (yX6_bestStep, cX6_bestStep, 7, (some .int)) := rfl
theorem md_X6_leastAt : md 45 = (yX6_leastAt, cX6_leastAt, 4, (some .int)) := rfl
theorem md_X7_init : md 46 = (yX7_init, cX7_init, 1, none) := rfl
theorem md_X7_has : md 47 = (yX7_has, cX7_has, 2, (some .boolean)) := rfl
theorem md_X7_holdsNothing : md 48 = (yX7_holdsNothing, cX7_holdsNothing, 2, (some .boolean)) := rfl
theorem md_X7_holdsBytes : md 49 = (yX7_holdsBytes, cX7_holdsBytes, 2, (some .boolean)) := rfl
theorem md_X7_holdAlike : md 50 = (yX7_holdAlike, cX7_holdAlike, 3, (some .boolean)) := rfl
theorem md_X7_holdsRow : md 51 = (yX7_holdsRow, cX7_holdsRow, 2, (some .boolean)) := rfl
theorem md_X7_lengthOf : md 52 = (yX7_lengthOf, cX7_lengthOf, 2, (some .int)) := rfl
theorem md_X7_bodyOn : md 53 = (yX7_bodyOn, cX7_bodyOn, 2, (some .int)) := rfl
theorem md_X7_clear : md 54 = (yX7_clear, cX7_clear, 2, none) := rfl
theorem md_X7_holdBody : md 55 = (yX7_holdBody, cX7_holdBody, 3, none) := rfl
theorem md_X7_holdRow : md 56 = (yX7_holdRow, cX7_holdRow, 4, none) := rfl
theorem md_X7_refusal : md 57 = (yX7_refusal, cX7_refusal, 3, (some .int)) := rfl
theorem md_X7_get : md 58 = (yX7_get, cX7_get, 3, (some .long)) := rfl
theorem md_X7_set : md 59 = (yX7_set, cX7_set, 5, none) := rfl
theorem md_X7_cut : md 60 = (yX7_cut, cX7_cut, 3, (some .long)) := rfl
theorem md_X7_hasSpan : md 61 = (yX7_hasSpan, cX7_hasSpan, 4, (some .boolean)) := rfl
theorem md_X7_carry : md 62 = (yX7_carry, cX7_carry, 6, none) := rfl
theorem md_X8_init : md 63 = (yX8_init, cX8_init, 1, none) := rfl
theorem md_X8_formula : md 64 = (yX8_formula, cX8_formula, 1, (some (.object "HatRank$Formula"))) := rfl
theorem md_X8_take : md 65 = (yX8_take, cX8_take, 2, (some .int)) := rfl
theorem md_X8_becomeLaw : md 66 = (yX8_becomeLaw, cX8_becomeLaw, 3, (some .int)) := rfl
theorem md_X8_here : md 67 = (yX8_here, cX8_here, 1, (some .int)) := rfl
theorem md_X8_readLines : md 68 = (yX8_readLines, cX8_readLines, 2, (some .boolean)) := rfl
theorem md_X8_readLine : md 69 = (yX8_readLine, cX8_readLine, 3, (some .boolean)) := rfl
theorem md_X8_readJoined : md 70 = (yX8_readJoined, cX8_readJoined, 8, (some .int)) := rfl
theorem md_X8_joins : md 71 = (yX8_joins, cX8_joins, 2, (some .boolean)) := rfl
theorem md_X8_readOperand : md 72 = (yX8_readOperand, cX8_readOperand, 4, (some .int)) := rfl
theorem md_X8_readOpened : md 73 = (yX8_readOpened, cX8_readOpened, 4, (some .int)) := rfl
theorem md_X8_readNumber : md 74 = (yX8_readNumber, cX8_readNumber, 3, (some .int)) := rfl
theorem md_X8_isDigit : md 75 = (yX8_isDigit, cX8_isDigit, 1, (some .boolean)) := rfl
theorem md_X9_init : md 76 = (yX9_init, cX9_init, 1, none) := rfl
theorem md_X9_hasPerson : md 77 = (yX9_hasPerson, cX9_hasPerson, 2, (some .boolean)) := rfl
theorem md_X9_hasPlace : md 78 = (yX9_hasPlace, cX9_hasPlace, 2, (some .boolean)) := rfl
theorem md_X9_addPlace : md 79 = (yX9_addPlace, cX9_addPlace, 2, (some .int)) := rfl
theorem md_X9_addPerson : md 80 = (yX9_addPerson, cX9_addPerson, 2, (some .int)) := rfl
theorem md_X9_joined : md 81 = (yX9_joined, cX9_joined, 3, (some .boolean)) := rfl
theorem md_X9_addWay : md 82 = (yX9_addWay, cX9_addWay, 3, (some .int)) := rfl
theorem md_X9_gust : md 83 = (yX9_gust, cX9_gust, 4, (some .int)) := rfl
theorem md_X9_hasSetting : md 84 = (yX9_hasSetting, cX9_hasSetting, 4, (some .boolean)) := rfl
theorem md_X9_exchange : md 85 = (yX9_exchange, cX9_exchange, 6, (some .int)) := rfl
theorem md_X9_rank : md 86 = (yX9_rank, cX9_rank, 5, (some .int)) := rfl
theorem md_X9_commander : md 87 = (yX9_commander, cX9_commander, 4, (some .int)) := rfl
theorem md_X10_init : md 88 = (yX10_init, cX10_init, 3, none) := rfl
theorem md_X10_begin : md 89 = (yX10_begin, cX10_begin, 2, none) := rfl
theorem md_X10_think : md 90 = (yX10_think, cX10_think, 4, (some (.object "HatRank$Day"))) := rfl
theorem md_X10_blowHours : md 91 = (yX10_blowHours, cX10_blowHours, 8, (some .int)) := rfl
theorem md_X10_draws : md 92 = (yX10_draws, cX10_draws, 3, (some .boolean)) := rfl
theorem md_X10_takeUp : md 93 = (yX10_takeUp, cX10_takeUp, 4, none) := rfl
theorem md_X10_fall : md 94 = (yX10_fall, cX10_fall, 4, (some .int)) := rfl
theorem md_X10_unfall : md 95 = (yX10_unfall, cX10_unfall, 4, none) := rfl
theorem md_X10_shiftHat : md 96 = (yX10_shiftHat, cX10_shiftHat, 5, none) := rfl
theorem md_X10_landing : md 97 = (yX10_landing, cX10_landing, 6, (some .int)) := rfl
theorem md_X10_catches : md 98 = (yX10_catches, cX10_catches, 3, (some .boolean)) := rfl
theorem md_X11_init : md 99 = (yX11_init, cX11_init, 1, none) := rfl
theorem md_X11_place : md 100 = (yX11_place, cX11_place, 2, (some .int)) := rfl
theorem md_X11_way : md 101 = (yX11_way, cX11_way, 4, (some .int)) := rfl
theorem md_X11_person : md 102 = (yX11_person, cX11_person, 3, (some .int)) := rfl
theorem md_X11_people : md 103 = (yX11_people, cX11_people, 5, (some .int)) := rfl
theorem md_X11_mend : md 104 = (yX11_mend, cX11_mend, 6, (some .int)) := rfl
theorem md_X11_of : md 105 = (yX11_of, cX11_of, 3, (some .int)) := rfl
theorem md_X11_feed : md 106 = (yX11_feed, cX11_feed, 2, (some .int)) := rfl
theorem md_X11_law : md 107 = (yX11_law, cX11_law, 2, (some .int)) := rfl
theorem md_X11_go : md 108 = (yX11_go, cX11_go, 3, (some .int)) := rfl
theorem md_X11_move : md 109 = (yX11_move, cX11_move, 3, (some .int)) := rfl
theorem md_X11_lay : md 110 = (yX11_lay, cX11_lay, 2, (some .int)) := rfl
theorem md_X11_commands : md 111 = (yX11_commands, cX11_commands, 1, (some .int)) := rfl
theorem md_X11_led : md 112 = (yX11_led, cX11_led, 2, (some .int)) := rfl
theorem md_X11_risk : md 113 = (yX11_risk, cX11_risk, 4, (some .int)) := rfl
theorem md_X11_walk : md 114 = (yX11_walk, cX11_walk, 5, (some .int)) := rfl
theorem md_X11_chance : md 115 = (yX11_chance, cX11_chance, 6, (some .long)) := rfl
theorem md_X11_mean : md 116 = (yX11_mean, cX11_mean, 6, (some .long)) := rfl
theorem md_X11_stand : md 117 = (yX11_stand, cX11_stand, 8, (some .int)) := rfl
theorem md_X11_heavy : md 118 = (yX11_heavy, cX11_heavy, 4, (some .int)) := rfl
theorem md_X11_ahead : md 119 = (yX11_ahead, cX11_ahead, 7, (some .int)) := rfl
theorem md_X11_storm : md 120 = (yX11_storm, cX11_storm, 5, (some .int)) := rfl
theorem md_X11_seeded : md 121 = (yX11_seeded, cX11_seeded, 4, (some .int)) := rfl
theorem md_X11_image : md 122 = (yX11_image, cX11_image, 1, (some .int)) := rfl
theorem md_X11_back : md 123 = (yX11_back, cX11_back, 2, (some .int)) := rfl
theorem md_X11_undo : md 124 = (yX11_undo, cX11_undo, 1, (some .int)) := rfl
theorem md_X11_redo : md 125 = (yX11_redo, cX11_redo, 1, (some .int)) := rfl
theorem md_X11_body : md 126 = (yX11_body, cX11_body, 2, (some .int)) := rfl
theorem md_X11_act : md 127 = (yX11_act, cX11_act, 4, (some .int)) := rfl
theorem md_X11_trace : md 128 = (yX11_trace, cX11_trace, 2, (some .int)) := rfl
theorem md_X11_keep : md 129 = (yX11_keep, cX11_keep, 3, (some .int)) := rfl
theorem md_X11_row : md 130 = (yX11_row, cX11_row, 4, (some .int)) := rfl
theorem md_X11_put : md 131 = (yX11_put, cX11_put, 6, (some .int)) := rfl
theorem md_X11_element : md 132 = (yX11_element, cX11_element, 3, (some .long)) := rfl
theorem md_X11_shift : md 133 = (yX11_shift, cX11_shift, 6, (some .int)) := rfl
theorem md_X11_taken : md 134 = (yX11_taken, cX11_taken, 4, (some .int)) := rfl
theorem md_X11_count : md 135 = (yX11_count, cX11_count, 2, (some .int)) := rfl
theorem md_X11_within : md 136 = (yX11_within, cX11_within, 3, (some .boolean)) := rfl
theorem md_X11_hoursLeft : md 137 = (yX11_hoursLeft, cX11_hoursLeft, 1, (some .int)) := rfl
theorem md_X11_mayThink : md 138 = (yX11_mayThink, cX11_mayThink, 3, (some .boolean)) := rfl
theorem md_X11_fractionRefusal : md 139 = (yX11_fractionRefusal, cX11_fractionRefusal, 4, (some .long)) := rfl
theorem md_X11_mayEnd : md 140 = (yX11_mayEnd, cX11_mayEnd, 2, (some .boolean)) := rfl
theorem md_X11_newPerson : md 141 = (yX11_newPerson, cX11_newPerson, 5, (some .int)) := rfl
theorem md_X11_newPersonFrom : md 142 = (yX11_newPersonFrom, cX11_newPersonFrom, 6, (some .int)) := rfl
theorem md_X11_ofPerson : md 143 = (yX11_ofPerson, cX11_ofPerson, 3, (some .int)) := rfl
theorem md_X11_ofPlace : md 144 = (yX11_ofPlace, cX11_ofPlace, 3, (some .int)) := rfl
theorem md_X11_hatsAreAsTold : md 145 = (yX11_hatsAreAsTold, cX11_hatsAreAsTold, 5, (some .boolean)) := rfl
theorem md_X11_partOf : md 146 = (yX11_partOf, cX11_partOf, 7, (some .long)) := rfl
theorem md_X11_commonDivisor : md 147 = (yX11_commonDivisor, cX11_commonDivisor, 11, (some .long)) := rfl
theorem md_X12_init : md 148 = (yX12_init, cX12_init, 1, none) := rfl
theorem md_X12_in : md 149 = (yX12_in, cX12_in, 3, (some .boolean)) := rfl
theorem md_X12_isPlace : md 150 = (yX12_isPlace, cX12_isPlace, 2, (some .boolean)) := rfl
theorem md_X12_isPerson : md 151 = (yX12_isPerson, cX12_isPerson, 2, (some .boolean)) := rfl
theorem md_X12_isHour : md 152 = (yX12_isHour, cX12_isHour, 1, (some .boolean)) := rfl
theorem md_X12_place : md 153 = (yX12_place, cX12_place, 2, (some .int)) := rfl
theorem md_X12_isWay : md 154 = (yX12_isWay, cX12_isWay, 4, (some .boolean)) := rfl
theorem md_X12_way : md 155 = (yX12_way, cX12_way, 2, (some .int)) := rfl
theorem md_X12_addPerson : md 156 = (yX12_addPerson, cX12_addPerson, 4, (some .int)) := rfl
theorem md_X12_person : md 157 = (yX12_person, cX12_person, 3, (some .int)) := rfl
theorem md_X12_people : md 158 = (yX12_people, cX12_people, 8, (some .int)) := rfl
theorem md_X12_valueAt : md 159 = (yX12_valueAt, cX12_valueAt, 3, (some .int)) := rfl
theorem md_X12_lays : md 160 = (yX12_lays, cX12_lays, 4, none) := rfl
theorem md_X12_changes : md 161 = (yX12_changes, cX12_changes, 6, (some .int)) := rfl
theorem md_X12_undo : md 162 = (yX12_undo, cX12_undo, 1, (some .int)) := rfl
theorem md_X12_redo : md 163 = (yX12_redo, cX12_redo, 1, (some .int)) := rfl
theorem md_X12_mend : md 164 = (yX12_mend, cX12_mend, 4, (some .int)) := rfl
theorem md_X12_feed : md 165 = (yX12_feed, cX12_feed, 2, (some .int)) := rfl
theorem md_X12_look : md 166 = (yX12_look, cX12_look, 1, (some .int)) := rfl
theorem md_X12_faulty : md 167 = (yX12_faulty, cX12_faulty, 1, none) := rfl
theorem md_X12_addStep : md 168 = (yX12_addStep, cX12_addStep, 3, none) := rfl
theorem md_X12_nameOf : md 169 = (yX12_nameOf, cX12_nameOf, 1, (some .int)) := rfl
theorem md_X12_opens : md 170 = (yX12_opens, cX12_opens, 1, (some .boolean)) := rfl
theorem md_X12_figure : md 171 = (yX12_figure, cX12_figure, 3, none) := rfl
theorem md_X12_operand : md 172 = (yX12_operand, cX12_operand, 2, none) := rfl
theorem md_X12_product : md 173 = (yX12_product, cX12_product, 2, none) := rfl
theorem md_X12_sum : md 174 = (yX12_sum, cX12_sum, 2, none) := rfl
theorem md_X12_compared : md 175 = (yX12_compared, cX12_compared, 2, none) := rfl
theorem md_X12_both : md 176 = (yX12_both, cX12_both, 1, none) := rfl
theorem md_X12_either : md 177 = (yX12_either, cX12_either, 1, none) := rfl
theorem md_X12_line : md 178 = (yX12_line, cX12_line, 2, none) := rfl
theorem md_X12_readText : md 179 = (yX12_readText, cX12_readText, 3, (some .int)) := rfl
theorem md_X12_twoOf : md 180 = (yX12_twoOf, cX12_twoOf, 3, (some .int)) := rfl
theorem md_X12_worked : md 181 = (yX12_worked, cX12_worked, 7, (some .int)) := rfl
theorem md_X12_gives : md 182 = (yX12_gives, cX12_gives, 4, (some .int)) := rfl
theorem md_X12_law : md 183 = (yX12_law, cX12_law, 2, (some .int)) := rfl
theorem md_X12_gustAt : md 184 = (yX12_gustAt, cX12_gustAt, 4, (some .int)) := rfl
theorem md_X12_think : md 185 = (yX12_think, cX12_think, 2, none) := rfl
theorem md_X12_falls : md 186 = (yX12_falls, cX12_falls, 3, (some .int)) := rfl
theorem md_X12_fallsBy : md 187 = (yX12_fallsBy, cX12_fallsBy, 9, (some .int)) := rfl
theorem md_X12_rankOf : md 188 = (yX12_rankOf, cX12_rankOf, 5, (some .int)) := rfl
theorem md_X12_firstOf : md 189 = (yX12_firstOf, cX12_firstOf, 3, (some .int)) := rfl
theorem md_X12_of : md 190 = (yX12_of, cX12_of, 3, (some .int)) := rfl
theorem md_X12_takeUp : md 191 = (yX12_takeUp, cX12_takeUp, 2, none) := rfl
theorem md_X12_catcher : md 192 = (yX12_catcher, cX12_catcher, 4, (some .int)) := rfl
theorem md_X12_fall : md 193 = (yX12_fall, cX12_fall, 4, none) := rfl
theorem md_X12_goHour : md 194 = (yX12_goHour, cX12_goHour, 4, (some .int)) := rfl
theorem md_X12_go : md 195 = (yX12_go, cX12_go, 5, (some .int)) := rfl
theorem md_X12_move : md 196 = (yX12_move, cX12_move, 3, (some .int)) := rfl
theorem md_X12_lay : md 197 = (yX12_lay, cX12_lay, 2, (some .int)) := rfl
theorem md_X12_commands : md 198 = (yX12_commands, cX12_commands, 1, (some .int)) := rfl
theorem md_X12_led : md 199 = (yX12_led, cX12_led, 2, (some .int)) := rfl
theorem md_X12_mayGo : md 200 = (yX12_mayGo, cX12_mayGo, 3, (some .boolean)) := rfl
theorem md_X12_findRisk : md 201 = (yX12_findRisk, cX12_findRisk, 8, none) := rfl
theorem md_X12_isWalk : md 202 = (yX12_isWalk, cX12_isWalk, 3, (some .boolean)) := rfl
theorem md_X12_risk : md 203 = (yX12_risk, cX12_risk, 4, (some .int)) := rfl
theorem md_X12_walk : md 204 = (yX12_walk, cX12_walk, 8, (some .int)) := rfl
theorem md_X12_keepThen : md 205 = (yX12_keepThen, cX12_keepThen, 3, none) := rfl
theorem md_X12_layBack : md 206 = (yX12_layBack, cX12_layBack, 3, none) := rfl
theorem md_X12_goThrough : md 207 = (yX12_goThrough, cX12_goThrough, 7, none) := rfl
theorem md_X12_findChance : md 208 = (yX12_findChance, cX12_findChance, 4, none) := rfl
theorem md_X12_common : md 209 = (yX12_common, cX12_common, 10, (some .long)) := rfl
theorem md_X12_below : md 210 = (yX12_below, cX12_below, 5, (some .long)) := rfl
theorem md_X12_asPart : md 211 = (yX12_asPart, cX12_asPart, 7, (some .long)) := rfl
theorem md_X12_chance : md 212 = (yX12_chance, cX12_chance, 4, (some .long)) := rfl
theorem md_X12_mean : md 213 = (yX12_mean, cX12_mean, 4, (some .long)) := rfl
theorem md_X12_stand : md 214 = (yX12_stand, cX12_stand, 7, (some .int)) := rfl
theorem md_X12_heavy : md 215 = (yX12_heavy, cX12_heavy, 4, (some .int)) := rfl
theorem md_X12_thinkOn : md 216 = (yX12_thinkOn, cX12_thinkOn, 4, none) := rfl
theorem md_X12_ahead : md 217 = (yX12_ahead, cX12_ahead, 7, (some .int)) := rfl
theorem md_X12_storm : md 218 = (yX12_storm, cX12_storm, 4, (some .int)) := rfl
theorem md_X12_seeded : md 219 = (yX12_seeded, cX12_seeded, 6, (some .int)) := rfl
theorem md_X12_image : md 220 = (yX12_image, cX12_image, 2, (some .int)) := rfl
theorem md_X12_back : md 221 = (yX12_back, cX12_back, 2, (some .int)) := rfl
theorem md_X12_isBody : md 222 = (yX12_isBody, cX12_isBody, 2, (some .boolean)) := rfl
theorem md_X12_ran : md 223 = (yX12_ran, cX12_ran, 2, none) := rfl
theorem md_X12_trace : md 224 = (yX12_trace, cX12_trace, 2, (some .int)) := rfl
theorem md_X12_body : md 225 = (yX12_body, cX12_body, 2, (some .int)) := rfl
theorem md_X12_isUnder : md 226 = (yX12_isUnder, cX12_isUnder, 2, (some .boolean)) := rfl
theorem md_X12_plainSits : md 227 = (yX12_plainSits, cX12_plainSits, 3, (some .int)) := rfl
theorem md_X12_newSits : md 228 = (yX12_newSits, cX12_newSits, 3, (some .int)) := rfl
theorem md_X12_sitting : md 229 = (yX12_sitting, cX12_sitting, 3, (some .int)) := rfl
theorem md_X12_plainFalls : md 230 = (yX12_plainFalls, cX12_plainFalls, 3, (some .int)) := rfl
theorem md_X12_blownFalls : md 231 = (yX12_blownFalls, cX12_blownFalls, 3, (some .int)) := rfl
theorem md_X12_falling : md 232 = (yX12_falling, cX12_falling, 4, (some .int)) := rfl
theorem md_X12_plainLands : md 233 = (yX12_plainLands, cX12_plainLands, 3, (some .int)) := rfl
theorem md_X12_caughtLands : md 234 = (yX12_caughtLands, cX12_caughtLands, 3, (some .int)) := rfl
theorem md_X12_landing : md 235 = (yX12_landing, cX12_landing, 4, (some .int)) := rfl
theorem md_X12_plainRanks : md 236 = (yX12_plainRanks, cX12_plainRanks, 4, (some .int)) := rfl
theorem md_X12_ranking : md 237 = (yX12_ranking, cX12_ranking, 3, (some .int)) := rfl
theorem md_X12_act : md 238 = (yX12_act, cX12_act, 4, (some .int)) := rfl
theorem md_X12_count : md 239 = (yX12_count, cX12_count, 2, (some .int)) := rfl
theorem md_X12_isShelf : md 240 = (yX12_isShelf, cX12_isShelf, 1, (some .boolean)) := rfl
theorem md_X12_keep : md 241 = (yX12_keep, cX12_keep, 3, (some .int)) := rfl
theorem md_X12_row : md 242 = (yX12_row, cX12_row, 5, (some .int)) := rfl
theorem md_X12_whyNoPlace : md 243 = (yX12_whyNoPlace, cX12_whyNoPlace, 3, (some .int)) := rfl
theorem md_X12_put : md 244 = (yX12_put, cX12_put, 7, (some .int)) := rfl
theorem md_X12_element : md 245 = (yX12_element, cX12_element, 3, (some .long)) := rfl
theorem md_X12_shift : md 246 = (yX12_shift, cX12_shift, 7, (some .int)) := rfl
theorem md_X12_taken : md 247 = (yX12_taken, cX12_taken, 3, (some .int)) := rfl
theorem md_J0_length_8abf5 : md 248 = (yJ0_length_8abf5, cJ0_length_8abf5, 1, (some .int)) := rfl
theorem md_J0_indexOf_0f7a4 : md 249 = (yJ0_indexOf_0f7a4, cJ0_indexOf_0f7a4, 2, (some .int)) := rfl
theorem md_J0_indexOf_7cf53 : md 250 = (yJ0_indexOf_7cf53, cJ0_indexOf_7cf53, 3, (some .int)) := rfl
theorem md_J0_coder_7d493 : md 251 = (yJ0_coder_7d493, cJ0_coder_7d493, 1, (some .byte)) := rfl
theorem md_J0_isLatin1_aae02 : md 252 = (yJ0_isLatin1_aae02, cJ0_isLatin1_aae02, 1, (some .boolean)) := rfl
theorem md_J0_checkBoundsBeginEnd_23922 : md 253 = (yJ0_checkBoundsBeginEnd_23922, cJ0_checkBoundsBeginEnd_23922, 3, none) := rfl
theorem md_J1_canEncode_9a6ad : md 254 = (yJ1_canEncode_9a6ad, cJ1_canEncode_9a6ad, 1, (some .boolean)) := rfl
theorem md_J1_indexOf_4cfef : md 255 = (yJ1_indexOf_4cfef, cJ1_indexOf_4cfef, 4, (some .int)) := rfl
theorem md_J1_indexOfChar_4cfef : md 256 = (yJ1_indexOfChar_4cfef, cJ1_indexOfChar_4cfef, 6, (some .int)) := rfl
theorem md_J2_getChar_3b067 : md 257 = (yJ2_getChar_3b067, cJ2_getChar_3b067, 2, (some .char)) := rfl
theorem md_J2_length_9d52b : md 258 = (yJ2_length_9d52b, cJ2_length_9d52b, 1, (some .int)) := rfl
theorem md_J2_indexOf_4cfef : md 259 = (yJ2_indexOf_4cfef, cJ2_indexOf_4cfef, 4, (some .int)) := rfl
theorem md_J2_indexOfChar_4cfef : md 260 = (yJ2_indexOfChar_4cfef, cJ2_indexOfChar_4cfef, 4, (some .int)) := rfl
theorem md_J2_indexOfCharUnsafe_4cfef : md 261 = (yJ2_indexOfCharUnsafe_4cfef, cJ2_indexOfCharUnsafe_4cfef, 5, (some .int)) := rfl
theorem md_J2_indexOfSupplementary_4cfef : md 262 = (yJ2_indexOfSupplementary_4cfef, cJ2_indexOfSupplementary_4cfef, 7, (some .int)) := rfl
theorem md_J2_checkBoundsBeginEnd_d044e : md 263 = (yJ2_checkBoundsBeginEnd_d044e, cJ2_checkBoundsBeginEnd_d044e, 3, none) := rfl
theorem md_J3_checkFromToIndex_8c36e : md 264 = (yJ3_checkFromToIndex_8c36e, cJ3_checkFromToIndex_8c36e, 4, (some .int)) := rfl
theorem md_J7_fill_d0a16 : md 265 = (yJ7_fill_d0a16, cJ7_fill_d0a16, 5, none) := rfl
theorem md_J7_fill_53178 : md 266 = (yJ7_fill_53178, cJ7_fill_53178, 4, none) := rfl
theorem md_J9_max_7cf53 : md 267 = (yJ9_max_7cf53, cJ9_max_7cf53, 2, (some .int)) := rfl
theorem md_J9_min_7cf53 : md 268 = (yJ9_min_7cf53, cJ9_min_7cf53, 2, (some .int)) := rfl
theorem md_J11_isValidCodePoint_9a6ad : md 269 = (yJ11_isValidCodePoint_9a6ad, cJ11_isValidCodePoint_9a6ad, 2, (some .boolean)) := rfl
theorem md_J11_highSurrogate_5068e : md 270 = (yJ11_highSurrogate_5068e, cJ11_highSurrogate_5068e, 1, (some .char)) := rfl
theorem md_J11_lowSurrogate_5068e : md 271 = (yJ11_lowSurrogate_5068e, cJ11_lowSurrogate_5068e, 1, (some .char)) := rfl

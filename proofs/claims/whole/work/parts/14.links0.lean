abbrev mX0_init : MD := (yX0_init, cX0_init, 2, none)
abbrev mX0_side : MD := (yX0_side, cX0_side, 2, none)
abbrev mX0_outcome : MD := (yX0_outcome, cX0_outcome, 7, some .int)
abbrev mX0_bestOf : MD := (yX0_bestOf, cX0_bestOf, 10, some .int)
abbrev mX0_byStep : MD := (yX0_byStep, cX0_byStep, 7, some .int)
abbrev mX0_bestGoer : MD := (yX0_bestGoer, cX0_bestGoer, 6, some .int)
abbrev mX1_init : MD := (yX1_init, cX1_init, 2, none)
abbrev mX1_draw : MD := (yX1_draw, cX1_draw, 2, some .int)
abbrev mX1_nextDeed : MD := (yX1_nextDeed, cX1_nextDeed, 2, some .int)
abbrev mX2_init : MD := (yX2_init, cX2_init, 1, none)
abbrev mX2_take : MD := (yX2_take, cX2_take, 3, none)
abbrev mX2_depthAfter : MD := (yX2_depthAfter, cX2_depthAfter, 10, some .int)
abbrev mX2_noiseOf : MD := (yX2_noiseOf, cX2_noiseOf, 8, some .int)
abbrev mX2_depthThen : MD := (yX2_depthThen, cX2_depthThen, 8, some .int)
abbrev mX2_run : MD := (yX2_run, cX2_run, 5, some .int)
abbrev mX2_join : MD := (yX2_join, cX2_join, 5, some .int)
abbrev mX3_init : MD := (yX3_init, cX3_init, 1, none)
abbrev mX3_putBytes : MD := (yX3_putBytes, cX3_putBytes, 3, none)
abbrev mX3_read : MD := (yX3_read, cX3_read, 4, some (.object "SleepAct$Street"))
abbrev mX3_refuse : MD := (yX3_refuse, cX3_refuse, 2, none)
abbrev mX3_byteAt : MD := (yX3_byteAt, cX3_byteAt, 2, some .int)
abbrev mX3_advance : MD := (yX3_advance, cX3_advance, 1, none)
abbrev mX3_kindOf : MD := (yX3_kindOf, cX3_kindOf, 1, some .int)
abbrev mX3_numberHere : MD := (yX3_numberHere, cX3_numberHere, 3, some .int)
abbrev mX3_isWord : MD := (yX3_isWord, cX3_isWord, 3, some .boolean)
abbrev mX3_isSign : MD := (yX3_isSign, cX3_isSign, 2, some .boolean)
abbrev mX3_passWord : MD := (yX3_passWord, cX3_passWord, 2, none)
abbrev mX3_passSign : MD := (yX3_passSign, cX3_passSign, 2, none)
abbrev mX3_passNumber : MD := (yX3_passNumber, cX3_passNumber, 4, some .int)
abbrev mX3_passWordNumber : MD := (yX3_passWordNumber, cX3_passWordNumber, 4, some .int)
abbrev mX3_readHead : MD := (yX3_readHead, cX3_readHead, 1, none)
abbrev mX3_endLine : MD := (yX3_endLine, cX3_endLine, 1, none)
abbrev mX3_readLine : MD := (yX3_readLine, cX3_readLine, 1, none)
abbrev mX3_readGoer : MD := (yX3_readGoer, cX3_readGoer, 5, none)
abbrev mX3_readPeople : MD := (yX3_readPeople, cX3_readPeople, 1, none)
abbrev mX3_readHint : MD := (yX3_readHint, cX3_readHint, 4, none)
abbrev mX3_readLaw : MD := (yX3_readLaw, cX3_readLaw, 2, some (.array .int))
abbrev mX3_emit : MD := (yX3_emit, cX3_emit, 2, none)
abbrev mX3_enter : MD := (yX3_enter, cX3_enter, 1, some .boolean)
abbrev mX3_readSum : MD := (yX3_readSum, cX3_readSum, 3, none)
abbrev mX3_readTerm : MD := (yX3_readTerm, cX3_readTerm, 2, none)
abbrev mX3_readAtom : MD := (yX3_readAtom, cX3_readAtom, 2, none)
abbrev mX3_readChoice : MD := (yX3_readChoice, cX3_readChoice, 1, none)
abbrev mX3_lawWord : MD := (yX3_lawWord, cX3_lawWord, 1, some .int)
abbrev mX3_readTruth : MD := (yX3_readTruth, cX3_readTruth, 2, none)
abbrev mX3_readBoth : MD := (yX3_readBoth, cX3_readBoth, 2, none)
abbrev mX3_readUnit : MD := (yX3_readUnit, cX3_readUnit, 1, none)
abbrev mX3_readComparison : MD := (yX3_readComparison, cX3_readComparison, 2, none)
abbrev mX4_init : MD := (yX4_init, cX4_init, 1, none)
abbrev mX4_learn : MD := (yX4_learn, cX4_learn, 6, none)
abbrev mX4_waysWith : MD := (yX4_waysWith, cX4_waysWith, 4, some .int)
abbrev mX4_bindLeast : MD := (yX4_bindLeast, cX4_bindLeast, 6, none)
abbrev mX4_boundTo : MD := (yX4_boundTo, cX4_boundTo, 2, some .int)
abbrev mX4_mayBind : MD := (yX4_mayBind, cX4_mayBind, 4, some .boolean)
abbrev mX4_addWay : MD := (yX4_addWay, cX4_addWay, 2, none)
abbrev mX5_init : MD := (yX5_init, cX5_init, 1, none)
abbrev mX5_become : MD := (yX5_become, cX5_become, 2, none)
abbrev mX5_addHint : MD := (yX5_addHint, cX5_addHint, 6, none)
abbrev mX6_init : MD := (yX6_init, cX6_init, 2, none)
abbrev mX6_pastAt : MD := (yX6_pastAt, cX6_pastAt, 5, some .int)
abbrev mX7_init : MD := (yX7_init, cX7_init, 1, none)
abbrev mX7_lay : MD := (yX7_lay, cX7_lay, 3, none)
abbrev mX7_get : MD := (yX7_get, cX7_get, 2, some .long)
abbrev mX7_put : MD := (yX7_put, cX7_put, 4, none)
abbrev mX7_cut : MD := (yX7_cut, cX7_cut, 3, some .long)
abbrev mX8_init : MD := (yX8_init, cX8_init, 2, none)
abbrev mX8_beginAt : MD := (yX8_beginAt, cX8_beginAt, 5, none)
abbrev mX8_find : MD := (yX8_find, cX8_find, 3, none)
abbrev mX8_laySets : MD := (yX8_laySets, cX8_laySets, 7, none)
abbrev mX8_depthThen : MD := (yX8_depthThen, cX8_depthThen, 3, some .int)
abbrev mX8_lookOn : MD := (yX8_lookOn, cX8_lookOn, 6, some .boolean)
abbrev mX8_lookAtAll : MD := (yX8_lookAtAll, cX8_lookAtAll, 2, none)
abbrev mX8_hoursTo : MD := (yX8_hoursTo, cX8_hoursTo, 4, some .int)
abbrev mX8_isReached : MD := (yX8_isReached, cX8_isReached, 3, some .boolean)
abbrev mX8_hoursOf : MD := (yX8_hoursOf, cX8_hoursOf, 4, some .int)
abbrev mX8_stepsAt : MD := (yX8_stepsAt, cX8_stepsAt, 4, some .int)
abbrev mX8_everPast : MD := (yX8_everPast, cX8_everPast, 3, some .int)
abbrev mX8_greatestPast : MD := (yX8_greatestPast, cX8_greatestPast, 5, some .int)
abbrev mX8_greatestDepth : MD := (yX8_greatestDepth, cX8_greatestDepth, 3, some .int)
abbrev mX8_countRows : MD := (yX8_countRows, cX8_countRows, 6, some .long)
abbrev mX8_addHour : MD := (yX8_addHour, cX8_addHour, 3, none)
abbrev mX8_moveRows : MD := (yX8_moveRows, cX8_moveRows, 6, none)
abbrev mX9_init : MD := (yX9_init, cX9_init, 2, none)
abbrev mX9_feed : MD := (yX9_feed, cX9_feed, 6, some .int)
abbrev mX9_street : MD := (yX9_street, cX9_street, 3, some .int)
abbrev mX9_fault : MD := (yX9_fault, cX9_fault, 2, some .int)
abbrev mX9_goer : MD := (yX9_goer, cX9_goer, 4, some .int)
abbrev mX9_cellOf : MD := (yX9_cellOf, cX9_cellOf, 4, some .int)
abbrev mX9_by : MD := (yX9_by, cX9_by, 2, some .int)
abbrev mX9_isSet : MD := (yX9_isSet, cX9_isSet, 3, some .boolean)
abbrev mX9_refusal : MD := (yX9_refusal, cX9_refusal, 3, some .int)
abbrev mX9_stepHour : MD := (yX9_stepHour, cX9_stepHour, 4, some .int)
abbrev mX9_shiftOf : MD := (yX9_shiftOf, cX9_shiftOf, 3, some .int)
abbrev mX9_tellHint : MD := (yX9_tellHint, cX9_tellHint, 5, some .int)
abbrev mX9_isPerson : MD := (yX9_isPerson, cX9_isPerson, 2, some .boolean)
abbrev mX9_changeDraught : MD := (yX9_changeDraught, cX9_changeDraught, 3, some .int)
abbrev mX9_doDeed : MD := (yX9_doDeed, cX9_doDeed, 5, some .int)
abbrev mX9_keepForUndo : MD := (yX9_keepForUndo, cX9_keepForUndo, 4, none)
abbrev mX9_hour : MD := (yX9_hour, cX9_hour, 3, some .int)
abbrev mX9_hours : MD := (yX9_hours, cX9_hours, 3, some .int)
abbrev mX9_hint : MD := (yX9_hint, cX9_hint, 4, some .int)
abbrev mX9_draught : MD := (yX9_draught, cX9_draught, 2, some .int)
abbrev mX9_undo : MD := (yX9_undo, cX9_undo, 2, some .int)
abbrev mX9_judge : MD := (yX9_judge, cX9_judge, 7, some .int)
abbrev mX9_perform : MD := (yX9_perform, cX9_perform, 4, some .int)
abbrev mX9_night : MD := (yX9_night, cX9_night, 6, some .int)
abbrev mX9_layWalks : MD := (yX9_layWalks, cX9_layWalks, 1, some (.object "SleepAct$Walks"))
abbrev mX9_soonest : MD := (yX9_soonest, cX9_soonest, 2, some .int)
abbrev mX9_way : MD := (yX9_way, cX9_way, 5, some .int)
abbrev mX9_rows : MD := (yX9_rows, cX9_rows, 3, some .long)
abbrev mX9_can : MD := (yX9_can, cX9_can, 2, some .int)
abbrev mX9_most : MD := (yX9_most, cX9_most, 4, some .int)
abbrev mX9_deepest : MD := (yX9_deepest, cX9_deepest, 2, some .int)
abbrev mX9_atOnce : MD := (yX9_atOnce, cX9_atOnce, 5, some .int)
abbrev mX9_stands : MD := (yX9_stands, cX9_stands, 2, some .int)
abbrev mX9_learnSays : MD := (yX9_learnSays, cX9_learnSays, 1, some (.object "SleepAct$Says"))
abbrev mX9_ways : MD := (yX9_ways, cX9_ways, 1, some .int)
abbrev mX9_first : MD := (yX9_first, cX9_first, 3, some .int)
abbrev mX9_surely : MD := (yX9_surely, cX9_surely, 4, some .int)
abbrev mX9_odds : MD := (yX9_odds, cX9_odds, 5, some .int)
abbrev mX9_partOf : MD := (yX9_partOf, cX9_partOf, 12, some .int)
abbrev mX9_clause : MD := (yX9_clause, cX9_clause, 8, some .int)
abbrev mX9_hints : MD := (yX9_hints, cX9_hints, 2, some .int)
abbrev mX9_draughts : MD := (yX9_draughts, cX9_draughts, 3, some .int)
abbrev mX9_refuseSlept : MD := (yX9_refuseSlept, cX9_refuseSlept, 4, some .int)
abbrev mX9_draughtsOf : MD := (yX9_draughtsOf, cX9_draughtsOf, 4, some .int)
abbrev mX9_sleptBy : MD := (yX9_sleptBy, cX9_sleptBy, 5, some .boolean)
abbrev mX9_attempt : MD := (yX9_attempt, cX9_attempt, 9, some .int)
abbrev mX9_mostAlike : MD := (yX9_mostAlike, cX9_mostAlike, 6, some .int)
abbrev mX9_layDares : MD := (yX9_layDares, cX9_layDares, 2, some (.object "SleepAct$Dares"))
abbrev mX9_daring : MD := (yX9_daring, cX9_daring, 2, some .int)
abbrev mX9_dares : MD := (yX9_dares, cX9_dares, 2, some .int)
abbrev mX9_chance : MD := (yX9_chance, cX9_chance, 6, some .int)
abbrev mX9_mean : MD := (yX9_mean, cX9_mean, 9, some .int)
abbrev mX9_refuseChance : MD := (yX9_refuseChance, cX9_refuseChance, 7, some .int)
abbrev mX9_weighHours : MD := (yX9_weighHours, cX9_weighHours, 7, some .long)
abbrev mX9_weighHour : MD := (yX9_weighHour, cX9_weighHour, 6, none)
abbrev mX9_isTray : MD := (yX9_isTray, cX9_isTray, 1, some .boolean)
abbrev mX9_numbers : MD := (yX9_numbers, cX9_numbers, 4, some .int)
abbrev mX9_write : MD := (yX9_write, cX9_write, 6, some .long)
abbrev mX9_lists : MD := (yX9_lists, cX9_lists, 8, some .int)
abbrev mX9_isImage : MD := (yX9_isImage, cX9_isImage, 1, some .boolean)
abbrev mX9_image : MD := (yX9_image, cX9_image, 2, some .int)
abbrev mX9_restore : MD := (yX9_restore, cX9_restore, 2, some .int)
abbrev mX9_count : MD := (yX9_count, cX9_count, 2, some .int)
abbrev mX10_within : MD := (yX10_within, cX10_within, 6, some .boolean)
abbrev mX10_init : MD := (yX10_init, cX10_init, 1, none)
abbrev mX10_plain : MD := (yX10_plain, cX10_plain, 2, none)
abbrev mX10_feed : MD := (yX10_feed, cX10_feed, 8, some .int)
abbrev mX10_see : MD := (yX10_see, cX10_see, 2, some .int)
abbrev mX10_isSmall : MD := (yX10_isSmall, cX10_isSmall, 1, some .boolean)
abbrev mX10_isDigit : MD := (yX10_isDigit, cX10_isDigit, 1, some .boolean)
abbrev mX10_keyAt : MD := (yX10_keyAt, cX10_keyAt, 4, some .int)
abbrev mX10_next : MD := (yX10_next, cX10_next, 2, none)
abbrev mX10_fails : MD := (yX10_fails, cX10_fails, 2, none)
abbrev mX10_is : MD := (yX10_is, cX10_is, 2, some .boolean)
abbrev mX10_eats : MD := (yX10_eats, cX10_eats, 2, some .boolean)
abbrev mX10_takes : MD := (yX10_takes, cX10_takes, 4, some .int)
abbrev mX10_isIn : MD := (yX10_isIn, cX10_isIn, 3, some .boolean)
abbrev mX10_wordOf : MD := (yX10_wordOf, cX10_wordOf, 2, some .int)
abbrev mX10_codes : MD := (yX10_codes, cX10_codes, 2, none)
abbrev mX10_goesIn : MD := (yX10_goesIn, cX10_goesIn, 2, some .boolean)
abbrev mX10_readAtom : MD := (yX10_readAtom, cX10_readAtom, 2, none)
abbrev mX10_readIf : MD := (yX10_readIf, cX10_readIf, 2, none)
abbrev mX10_readTerm : MD := (yX10_readTerm, cX10_readTerm, 2, none)
abbrev mX10_readSum : MD := (yX10_readSum, cX10_readSum, 3, none)
abbrev mX10_readUnit : MD := (yX10_readUnit, cX10_readUnit, 3, none)
abbrev mX10_readBoth : MD := (yX10_readBoth, cX10_readBoth, 2, none)
abbrev mX10_readTruth : MD := (yX10_readTruth, cX10_readTruth, 2, none)
abbrev mX10_readFlag : MD := (yX10_readFlag, cX10_readFlag, 2, some .boolean)
abbrev mX10_readGoer : MD := (yX10_readGoer, cX10_readGoer, 2, none)
abbrev mX10_readPeople : MD := (yX10_readPeople, cX10_readPeople, 1, none)
abbrev mX10_hinted : MD := (yX10_hinted, cX10_hinted, 7, none)
abbrev mX10_readHint : MD := (yX10_readHint, cX10_readHint, 4, none)
abbrev mX10_readCart : MD := (yX10_readCart, cX10_readCart, 1, none)
abbrev mX10_readLaw : MD := (yX10_readLaw, cX10_readLaw, 3, none)
abbrev mX10_readLine : MD := (yX10_readLine, cX10_readLine, 1, none)
abbrev mX10_ends : MD := (yX10_ends, cX10_ends, 1, none)
abbrev mX10_street : MD := (yX10_street, cX10_street, 3, some .int)
abbrev mX10_fault : MD := (yX10_fault, cX10_fault, 2, some .int)
abbrev mX10_isGoer : MD := (yX10_isGoer, cX10_isGoer, 2, some .boolean)
abbrev mX10_isSet : MD := (yX10_isSet, cX10_isSet, 3, some .boolean)
abbrev mX10_areTwo : MD := (yX10_areTwo, cX10_areTwo, 5, some .boolean)
abbrev mX10_bitsOf : MD := (yX10_bitsOf, cX10_bitsOf, 3, some .int)
abbrev mX10_cellIn : MD := (yX10_cellIn, cX10_cellIn, 2, some .int)
abbrev mX10_depthIn : MD := (yX10_depthIn, cX10_depthIn, 1, some .int)
abbrev mX10_standNow : MD := (yX10_standNow, cX10_standNow, 3, some .int)
abbrev mX10_isStand : MD := (yX10_isStand, cX10_isStand, 3, none)
abbrev mX10_pastIn : MD := (yX10_pastIn, cX10_pastIn, 4, some .int)
abbrev mX10_between : MD := (yX10_between, cX10_between, 5, some .int)
abbrev mX10_reckons : MD := (yX10_reckons, cX10_reckons, 6, some .int)
abbrev mX10_noiseOf : MD := (yX10_noiseOf, cX10_noiseOf, 6, some .int)
abbrev mX10_hourTo : MD := (yX10_hourTo, cX10_hourTo, 9, some .int)
abbrev mX10_whyBy : MD := (yX10_whyBy, cX10_whyBy, 4, some .int)
abbrev mX10_goer : MD := (yX10_goer, cX10_goer, 3, some .int)
abbrev mX10_by : MD := (yX10_by, cX10_by, 3, some .int)
abbrev mX10_keeps : MD := (yX10_keeps, cX10_keeps, 2, none)
abbrev mX10_isAgain : MD := (yX10_isAgain, cX10_isAgain, 2, none)
abbrev mX10_notes : MD := (yX10_notes, cX10_notes, 2, none)
abbrev mX10_goesHour : MD := (yX10_goesHour, cX10_goesHour, 2, none)
abbrev mX10_hour : MD := (yX10_hour, cX10_hour, 3, some .int)
abbrev mX10_hours : MD := (yX10_hours, cX10_hours, 3, some .int)
abbrev mX10_hint : MD := (yX10_hint, cX10_hint, 4, some .int)
abbrev mX10_draught : MD := (yX10_draught, cX10_draught, 2, some .int)
abbrev mX10_undo : MD := (yX10_undo, cX10_undo, 3, some .int)
abbrev mX10_whyNot : MD := (yX10_whyNot, cX10_whyNot, 3, some .int)
abbrev mX10_does : MD := (yX10_does, cX10_does, 2, none)
abbrev mX10_tells : MD := (yX10_tells, cX10_tells, 3, some .int)
abbrev mX10_noTray : MD := (yX10_noTray, cX10_noTray, 2, some .int)
abbrev mX10_judge : MD := (yX10_judge, cX10_judge, 6, some .int)
abbrev mX10_perform : MD := (yX10_perform, cX10_perform, 4, some .int)
abbrev mX10_draw : MD := (yX10_draw, cX10_draw, 2, some .int)
abbrev mX10_drawn : MD := (yX10_drawn, cX10_drawn, 3, some .int)
abbrev mX10_night : MD := (yX10_night, cX10_night, 6, some .int)
abbrev mX10_adds : MD := (yX10_adds, cX10_adds, 2, none)
abbrev mX10_laysStands : MD := (yX10_laysStands, cX10_laysStands, 4, none)
abbrev mX10_isBy : MD := (yX10_isBy, cX10_isBy, 3, some .boolean)
abbrev mX10_farBy : MD := (yX10_farBy, cX10_farBy, 4, some .int)
abbrev mX10_laysFar : MD := (yX10_laysFar, cX10_laysFar, 5, some .int)
abbrev mX10_stepAt : MD := (yX10_stepAt, cX10_stepAt, 5, some .int)
abbrev mX10_soonest : MD := (yX10_soonest, cX10_soonest, 3, some .int)
abbrev mX10_way : MD := (yX10_way, cX10_way, 3, some .int)
abbrev mX10_rows : MD := (yX10_rows, cX10_rows, 7, some .long)
abbrev mX10_can : MD := (yX10_can, cX10_can, 3, some .int)
abbrev mX10_most : MD := (yX10_most, cX10_most, 5, some .int)
abbrev mX10_deepest : MD := (yX10_deepest, cX10_deepest, 3, some .int)
abbrev mX10_atOnce : MD := (yX10_atOnce, cX10_atOnce, 3, some .int)
abbrev mX10_stands : MD := (yX10_stands, cX10_stands, 1, some .int)
abbrev mX10_mayBind : MD := (yX10_mayBind, cX10_mayBind, 3, some .boolean)
abbrev mX10_isWay : MD := (yX10_isWay, cX10_isWay, 2, none)
abbrev mX10_goesBind : MD := (yX10_goesBind, cX10_goesBind, 4, none)
abbrev mX10_goesBindLeft : MD := (yX10_goesBindLeft, cX10_goesBindLeft, 2, none)
abbrev mX10_laysWays : MD := (yX10_laysWays, cX10_laysWays, 4, some .int)
abbrev mX10_isPerson : MD := (yX10_isPerson, cX10_isPerson, 2, some .boolean)
abbrev mX10_notSelf : MD := (yX10_notSelf, cX10_notSelf, 2, some .int)
abbrev mX10_ways : MD := (yX10_ways, cX10_ways, 1, some .int)
abbrev mX10_first : MD := (yX10_first, cX10_first, 2, some .int)
abbrev mX10_surely : MD := (yX10_surely, cX10_surely, 2, some .int)
abbrev mX10_common : MD := (yX10_common, cX10_common, 2, some .int)
abbrev mX10_part : MD := (yX10_part, cX10_part, 3, some .int)
abbrev mX10_odds : MD := (yX10_odds, cX10_odds, 4, some .int)
abbrev mX10_clause : MD := (yX10_clause, cX10_clause, 6, some .int)
abbrev mX10_hints : MD := (yX10_hints, cX10_hints, 4, some .int)
abbrev mX10_noSlept : MD := (yX10_noSlept, cX10_noSlept, 4, some .int)
abbrev mX10_draughtsOf : MD := (yX10_draughtsOf, cX10_draughtsOf, 7, some .int)
abbrev mX10_draughts : MD := (yX10_draughts, cX10_draughts, 3, some .int)
abbrev mX10_mostOften : MD := (yX10_mostOften, cX10_mostOften, 6, some .int)
abbrev mX10_attempt : MD := (yX10_attempt, cX10_attempt, 8, some .int)
abbrev mX10_daresFrom : MD := (yX10_daresFrom, cX10_daresFrom, 8, some .int)
abbrev mX10_daresBy : MD := (yX10_daresBy, cX10_daresBy, 6, some .int)
abbrev mX10_beginsDaring : MD := (yX10_beginsDaring, cX10_beginsDaring, 2, none)
abbrev mX10_noDaring : MD := (yX10_noDaring, cX10_noDaring, 2, some .int)
abbrev mX10_daring : MD := (yX10_daring, cX10_daring, 3, some .int)
abbrev mX10_dares : MD := (yX10_dares, cX10_dares, 5, some .int)
abbrev mX10_noChance : MD := (yX10_noChance, cX10_noChance, 7, some .int)
abbrev mX10_goesCart : MD := (yX10_goesCart, cX10_goesCart, 6, none)
abbrev mX10_laysChance : MD := (yX10_laysChance, cX10_laysChance, 4, some .int)
abbrev mX10_chance : MD := (yX10_chance, cX10_chance, 5, some .int)
abbrev mX10_mean : MD := (yX10_mean, cX10_mean, 5, some .int)
abbrev mX10_cut : MD := (yX10_cut, cX10_cut, 3, some .long)
abbrev mX10_numbers : MD := (yX10_numbers, cX10_numbers, 5, some .int)
abbrev mX10_write : MD := (yX10_write, cX10_write, 6, some .long)
abbrev mX10_lists : MD := (yX10_lists, cX10_lists, 7, some .int)
abbrev mX10_image : MD := (yX10_image, cX10_image, 3, some .int)
abbrev mX10_restore : MD := (yX10_restore, cX10_restore, 3, some .int)
abbrev mX10_count : MD := (yX10_count, cX10_count, 2, some .int)
abbrev mJ6_bitCount_0f7a4 : MD := (yJ6_bitCount_0f7a4, cJ6_bitCount_0f7a4, 1, some .int)
abbrev mJ13_bitCount_95d88 : MD := (yJ13_bitCount_95d88, cJ13_bitCount_95d88, 2, some .int)
abbrev mJ9_abs_0f7a4 : MD := (yJ9_abs_0f7a4, cJ9_abs_0f7a4, 1, some .int)
abbrev mJ9_max_7cf53 : MD := (yJ9_max_7cf53, cJ9_max_7cf53, 2, some .int)
abbrev mJ9_min_7cf53 : MD := (yJ9_min_7cf53, cJ9_min_7cf53, 2, some .int)
abbrev mJ0_length_8abf5 : MD := (yJ0_length_8abf5, cJ0_length_8abf5, 1, some .int)
abbrev mJ0_charAt_5068e : MD := (yJ0_charAt_5068e, cJ0_charAt_5068e, 2, some .char)
abbrev mJ0_coder_7d493 : MD := (yJ0_coder_7d493, cJ0_coder_7d493, 1, some .byte)
abbrev mJ0_isLatin1_aae02 : MD := (yJ0_isLatin1_aae02, cJ0_isLatin1_aae02, 1, some .boolean)
abbrev mJ0_checkIndex_df160 : MD := (yJ0_checkIndex_df160, cJ0_checkIndex_df160, 2, none)
abbrev mJ1_charAt_3b067 : MD := (yJ1_charAt_3b067, cJ1_charAt_3b067, 2, some .char)
abbrev mJ2_getChar_3b067 : MD := (yJ2_getChar_3b067, cJ2_getChar_3b067, 2, some .char)
abbrev mJ2_length_9d52b : MD := (yJ2_length_9d52b, cJ2_length_9d52b, 1, some .int)
abbrev mJ2_charAt_3b067 : MD := (yJ2_charAt_3b067, cJ2_charAt_3b067, 2, some .char)
abbrev mJ2_checkIndex_2214a : MD := (yJ2_checkIndex_2214a, cJ2_checkIndex_2214a, 2, none)
abbrev mJ7_fill_d0a16 : MD := (yJ7_fill_d0a16, cJ7_fill_d0a16, 5, none)
abbrev mJ7_fill_53178 : MD := (yJ7_fill_53178, cJ7_fill_53178, 4, none)
abbrev mJ7_copyOf_59c91 : MD := (yJ7_copyOf_59c91, cJ7_copyOf_59c91, 3, some (.array .int))
abbrev mJ3_checkIndex_8e157 : MD := (yJ3_checkIndex_8e157, cJ3_checkIndex_8e157, 3, some .int)
theorem nX9_7 : NL RX9 7 3 14 [.int 0, .int 0, .int 0, .null, .int 0, .int 0, .int 0, .int 0, .int 0, .int 0, .int 0, .null, .int 0, .null] := ⟨RX3, TX3, tyX3, rfl, inX3, tyX3_ok, (gT_mem (List.mem_of_getElem? (i := 157) (by decide +kernel)) rfl), (gT_mem (List.mem_of_getElem? (i := 158) (by decide +kernel)) rfl), (gT_mem (List.mem_of_getElem? (i := 130) (by decide +kernel)) rfl), by decide, fun _ => rfl⟩
theorem kX9_9 : MLI RX9 9 mX3_init 0 := ⟨Or.inr ⟨"SleepAct", (nT_mem (List.mem_of_getElem? (i := 159) (by decide +kernel)) rfl)⟩, (gT_mem (List.mem_of_getElem? (i := 160) (by decide +kernel)) rfl), (gT_mem (List.mem_of_getElem? (i := 130) (by decide +kernel)) rfl), (gT_mem (List.mem_of_getElem? (i := 161) (by decide +kernel)) rfl), ⟨by decide, by decide, by decide +kernel⟩, by decide, rfl, rfl⟩
theorem fX9_10 : FL RX9 10 9 0 true (.object "SleepAct$Reader") := ⟨RX9, TX9, 17, tyX9, rfl, by decide, inX9, tyX9_ok, nmX9, rfl, rfl, Or.inl (gT_mem (List.mem_of_getElem? (i := 414) (by decide +kernel)) rfl)⟩
theorem FX9_10 : FLF RX9 10 9 0 (.object "SleepAct$Reader") := ⟨RX9, TX9, 17, tyX9, rfl, by decide, inX9, tyX9_ok, nmX9, rfl, rfl, (gT_mem (List.mem_of_getElem? (i := 414) (by decide +kernel)) rfl), rfl⟩
theorem qX9_16 : Cond.classLink RX9 16 "SleepAct$Street" ∈ gT := (gT_mem (List.mem_of_getElem? (i := 317) (by decide +kernel)) rfl)
theorem nX9_16 : NL RX9 16 6 13 [.int 0, .int 0, .int 0, .int 0, .int 0, .null, .null, .int 0, .int 0, .int 0, .null, .null, .null] := ⟨RX6, TX6, tyX6, rfl, inX6, tyX6_ok, (gT_mem (List.mem_of_getElem? (i := 317) (by decide +kernel)) rfl), (gT_mem (List.mem_of_getElem? (i := 164) (by decide +kernel)) rfl), (gT_mem (List.mem_of_getElem? (i := 131) (by decide +kernel)) rfl), by decide, fun _ => rfl⟩
theorem kX9_18 : MLI RX9 18 mX6_init 1 := ⟨Or.inl (gT_mem (List.mem_of_getElem? (i := 318) (by decide +kernel)) rfl), (gT_mem (List.mem_of_getElem? (i := 166) (by decide +kernel)) rfl), (gT_mem (List.mem_of_getElem? (i := 131) (by decide +kernel)) rfl), (gT_mem (List.mem_of_getElem? (i := 167) (by decide +kernel)) rfl), ⟨by decide, by decide, by decide +kernel⟩, by decide, rfl, rfl⟩
theorem fX9_21 : FL RX9 21 9 2 false (.object "SleepAct$Street") := ⟨RX9, TX9, 17, tyX9, rfl, by decide, inX9, tyX9_ok, nmX9, rfl, rfl, Or.inl (gT_mem (List.mem_of_getElem? (i := 416) (by decide +kernel)) rfl)⟩
theorem qX9_25 : Cond.classLink RX9 25 "SleepAct$Stand" ∈ gT := (gT_mem (List.mem_of_getElem? (i := 319) (by decide +kernel)) rfl)
theorem nX9_25 : NL RX9 25 5 6 [.int 0, .int 0, .long 0, .long 0, .int 0, .int 0] := ⟨RX5, TX5, tyX5, rfl, inX5, tyX5_ok, (gT_mem (List.mem_of_getElem? (i := 319) (by decide +kernel)) rfl), (gT_mem (List.mem_of_getElem? (i := 170) (by decide +kernel)) rfl), (gT_mem (List.mem_of_getElem? (i := 132) (by decide +kernel)) rfl), by decide, fun _ => rfl⟩
theorem kX9_27 : MLI RX9 27 mX5_init 0 := ⟨Or.inr ⟨"SleepAct", (nT_mem (List.mem_of_getElem? (i := 320) (by decide +kernel)) rfl)⟩, (gT_mem (List.mem_of_getElem? (i := 172) (by decide +kernel)) rfl), (gT_mem (List.mem_of_getElem? (i := 132) (by decide +kernel)) rfl), (gT_mem (List.mem_of_getElem? (i := 173) (by decide +kernel)) rfl), ⟨by decide, by decide, by decide +kernel⟩, by decide, rfl, rfl⟩
theorem fX9_28 : FL RX9 28 9 3 true (.object "SleepAct$Stand") := ⟨RX9, TX9, 17, tyX9, rfl, by decide, inX9, tyX9_ok, nmX9, rfl, rfl, Or.inl (gT_mem (List.mem_of_getElem? (i := 417) (by decide +kernel)) rfl)⟩
theorem FX9_28 : FLF RX9 28 9 3 (.object "SleepAct$Stand") := ⟨RX9, TX9, 17, tyX9, rfl, by decide, inX9, tyX9_ok, nmX9, rfl, rfl, (gT_mem (List.mem_of_getElem? (i := 417) (by decide +kernel)) rfl), rfl⟩
theorem fX9_32 : FL RX9 32 9 4 true (.object "SleepAct$Stand") := ⟨RX9, TX9, 17, tyX9, rfl, by decide, inX9, tyX9_ok, nmX9, rfl, rfl, Or.inl (gT_mem (List.mem_of_getElem? (i := 418) (by decide +kernel)) rfl)⟩
theorem FX9_32 : FLF RX9 32 9 4 (.object "SleepAct$Stand") := ⟨RX9, TX9, 17, tyX9, rfl, by decide, inX9, tyX9_ok, nmX9, rfl, rfl, (gT_mem (List.mem_of_getElem? (i := 418) (by decide +kernel)) rfl), rfl⟩
theorem fX9_35 : FL RX9 35 9 5 true (.array (.object "SleepAct$Stand")) := ⟨RX9, TX9, 17, tyX9, rfl, by decide, inX9, tyX9_ok, nmX9, rfl, rfl, Or.inl (gT_mem (List.mem_of_getElem? (i := 419) (by decide +kernel)) rfl)⟩
theorem FX9_35 : FLF RX9 35 9 5 (.array (.object "SleepAct$Stand")) := ⟨RX9, TX9, 17, tyX9, rfl, by decide, inX9, tyX9_ok, nmX9, rfl, rfl, (gT_mem (List.mem_of_getElem? (i := 419) (by decide +kernel)) rfl), rfl⟩
theorem fX9_39 : FL RX9 39 9 7 true (.array (.object "SleepAct$Street")) := ⟨RX9, TX9, 17, tyX9, rfl, by decide, inX9, tyX9_ok, nmX9, rfl, rfl, Or.inl (gT_mem (List.mem_of_getElem? (i := 421) (by decide +kernel)) rfl)⟩
theorem FX9_39 : FLF RX9 39 9 7 (.array (.object "SleepAct$Street")) := ⟨RX9, TX9, 17, tyX9, rfl, by decide, inX9, tyX9_ok, nmX9, rfl, rfl, (gT_mem (List.mem_of_getElem? (i := 421) (by decide +kernel)) rfl), rfl⟩
theorem fX9_43 : FL RX9 43 9 8 true (.array (.object "SleepAct$Stand")) := ⟨RX9, TX9, 17, tyX9, rfl, by decide, inX9, tyX9_ok, nmX9, rfl, rfl, Or.inl (gT_mem (List.mem_of_getElem? (i := 422) (by decide +kernel)) rfl)⟩
theorem FX9_43 : FLF RX9 43 9 8 (.array (.object "SleepAct$Stand")) := ⟨RX9, TX9, 17, tyX9, rfl, by decide, inX9, tyX9_ok, nmX9, rfl, rfl, (gT_mem (List.mem_of_getElem? (i := 422) (by decide +kernel)) rfl), rfl⟩
theorem qX9_46 : Cond.classLink RX9 46 "SleepAct$Tray" ∈ gT := (gT_mem (List.mem_of_getElem? (i := 323) (by decide +kernel)) rfl)
theorem nX9_46 : NL RX9 46 7 4 [.int 0, .int 0, .int 0, .null] := ⟨RX7, TX7, tyX7, rfl, inX7, tyX7_ok, (gT_mem (List.mem_of_getElem? (i := 323) (by decide +kernel)) rfl), (gT_mem (List.mem_of_getElem? (i := 389) (by decide +kernel)) rfl), (gT_mem (List.mem_of_getElem? (i := 135) (by decide +kernel)) rfl), by decide, fun _ => rfl⟩
theorem fX9_48 : FL RX9 48 9 9 true (.array (.object "SleepAct$Tray")) := ⟨RX9, TX9, 17, tyX9, rfl, by decide, inX9, tyX9_ok, nmX9, rfl, rfl, Or.inl (gT_mem (List.mem_of_getElem? (i := 423) (by decide +kernel)) rfl)⟩
theorem FX9_48 : FLF RX9 48 9 9 (.array (.object "SleepAct$Tray")) := ⟨RX9, TX9, 17, tyX9, rfl, by decide, inX9, tyX9_ok, nmX9, rfl, rfl, (gT_mem (List.mem_of_getElem? (i := 423) (by decide +kernel)) rfl), rfl⟩
theorem nX9_52 : NL RX9 52 2 7 [.null, .int 0, .int 0, .null, .null, .null, .null] := ⟨RX2, TX2, tyX2, rfl, inX2, tyX2_ok, (gT_mem (List.mem_of_getElem? (i := 325) (by decide +kernel)) rfl), (gT_mem (List.mem_of_getElem? (i := 326) (by decide +kernel)) rfl), (gT_mem (List.mem_of_getElem? (i := 133) (by decide +kernel)) rfl), by decide, fun _ => rfl⟩
theorem kX9_54 : MLI RX9 54 mX2_init 0 := ⟨Or.inr ⟨"SleepAct", (nT_mem (List.mem_of_getElem? (i := 327) (by decide +kernel)) rfl)⟩, (gT_mem (List.mem_of_getElem? (i := 328) (by decide +kernel)) rfl), (gT_mem (List.mem_of_getElem? (i := 133) (by decide +kernel)) rfl), (gT_mem (List.mem_of_getElem? (i := 329) (by decide +kernel)) rfl), ⟨by decide, by decide, by decide +kernel⟩, by decide, rfl, rfl⟩
theorem fX9_55 : FL RX9 55 9 10 true (.object "SleepAct$Laws") := ⟨RX9, TX9, 17, tyX9, rfl, by decide, inX9, tyX9_ok, nmX9, rfl, rfl, Or.inl (gT_mem (List.mem_of_getElem? (i := 424) (by decide +kernel)) rfl)⟩
theorem FX9_55 : FLF RX9 55 9 10 (.object "SleepAct$Laws") := ⟨RX9, TX9, 17, tyX9, rfl, by decide, inX9, tyX9_ok, nmX9, rfl, rfl, (gT_mem (List.mem_of_getElem? (i := 424) (by decide +kernel)) rfl), rfl⟩
theorem nX9_59 : NL RX9 59 4 7 [.int 0, .null, .int 0, .long 0, .long 0, .null, .null] := ⟨RX4, TX4, tyX4, rfl, inX4, tyX4_ok, (gT_mem (List.mem_of_getElem? (i := 359) (by decide +kernel)) rfl), (gT_mem (List.mem_of_getElem? (i := 360) (by decide +kernel)) rfl), (gT_mem (List.mem_of_getElem? (i := 134) (by decide +kernel)) rfl), by decide, fun _ => rfl⟩
theorem kX9_61 : MLI RX9 61 mX4_init 0 := ⟨Or.inr ⟨"SleepAct", (nT_mem (List.mem_of_getElem? (i := 361) (by decide +kernel)) rfl)⟩, (gT_mem (List.mem_of_getElem? (i := 362) (by decide +kernel)) rfl), (gT_mem (List.mem_of_getElem? (i := 134) (by decide +kernel)) rfl), (gT_mem (List.mem_of_getElem? (i := 363) (by decide +kernel)) rfl), ⟨by decide, by decide, by decide +kernel⟩, by decide, rfl, rfl⟩
theorem fX9_62 : FL RX9 62 9 11 true (.object "SleepAct$Says") := ⟨RX9, TX9, 17, tyX9, rfl, by decide, inX9, tyX9_ok, nmX9, rfl, rfl, Or.inl (gT_mem (List.mem_of_getElem? (i := 425) (by decide +kernel)) rfl)⟩
theorem FX9_62 : FLF RX9 62 9 11 (.object "SleepAct$Says") := ⟨RX9, TX9, 17, tyX9, rfl, by decide, inX9, tyX9_ok, nmX9, rfl, rfl, (gT_mem (List.mem_of_getElem? (i := 425) (by decide +kernel)) rfl), rfl⟩
theorem fX9_66 : FL RX9 66 9 12 true (.array .int) := ⟨RX9, TX9, 17, tyX9, rfl, by decide, inX9, tyX9_ok, nmX9, rfl, rfl, Or.inl (gT_mem (List.mem_of_getElem? (i := 426) (by decide +kernel)) rfl)⟩
theorem FX9_66 : FLF RX9 66 9 12 (.array .int) := ⟨RX9, TX9, 17, tyX9, rfl, by decide, inX9, tyX9_ok, nmX9, rfl, rfl, (gT_mem (List.mem_of_getElem? (i := 426) (by decide +kernel)) rfl), rfl⟩
theorem fX9_70 : FL RX9 70 9 13 false (.array .long) := ⟨RX9, TX9, 17, tyX9, rfl, by decide, inX9, tyX9_ok, nmX9, rfl, rfl, Or.inl (gT_mem (List.mem_of_getElem? (i := 427) (by decide +kernel)) rfl)⟩
theorem fX9_74 : FL RX9 74 9 14 false (.array .long) := ⟨RX9, TX9, 17, tyX9, rfl, by decide, inX9, tyX9_ok, nmX9, rfl, rfl, Or.inl (gT_mem (List.mem_of_getElem? (i := 428) (by decide +kernel)) rfl)⟩
theorem kX9_77 : MLI RX9 77 mX7_init 0 := ⟨Or.inr ⟨"SleepAct", (nT_mem (List.mem_of_getElem? (i := 390) (by decide +kernel)) rfl)⟩, (gT_mem (List.mem_of_getElem? (i := 391) (by decide +kernel)) rfl), (gT_mem (List.mem_of_getElem? (i := 135) (by decide +kernel)) rfl), (gT_mem (List.mem_of_getElem? (i := 392) (by decide +kernel)) rfl), ⟨by decide, by decide, by decide +kernel⟩, by decide, rfl, rfl⟩
theorem fX9_78 : FL RX9 78 6 10 true (.object "SleepAct$Stand") := ⟨RX6, TX6, 13, tyX6, rfl, by decide, inX6, tyX6_ok, nmX6, rfl, rfl, Or.inl (gT_mem (List.mem_of_getElem? (i := 238) (by decide +kernel)) rfl)⟩
theorem kX9_81 : MLV RX9 81 mX5_become 1 := ⟨(gT_mem (List.mem_of_getElem? (i := 410) (by decide +kernel)) rfl), (gT_mem (List.mem_of_getElem? (i := 411) (by decide +kernel)) rfl), (gT_mem (List.mem_of_getElem? (i := 412) (by decide +kernel)) rfl), (gT_mem (List.mem_of_getElem? (i := 132) (by decide +kernel)) rfl), (gT_mem (List.mem_of_getElem? (i := 413) (by decide +kernel)) rfl), ⟨by decide, by decide, by decide +kernel⟩, by decide⟩
theorem fX9_85 : FL RX9 85 3 2 false (.int) := ⟨RX3, TX3, 14, tyX3, rfl, by decide, inX3, tyX3_ok, nmX3, rfl, rfl, Or.inl (gT_mem (List.mem_of_getElem? (i := 275) (by decide +kernel)) rfl)⟩
theorem kX9_89 : MLV RX9 89 mX3_putBytes 1 := ⟨(gT_mem (List.mem_of_getElem? (i := 470) (by decide +kernel)) rfl), (gT_mem (List.mem_of_getElem? (i := 471) (by decide +kernel)) rfl), (gT_mem (List.mem_of_getElem? (i := 472) (by decide +kernel)) rfl), (gT_mem (List.mem_of_getElem? (i := 130) (by decide +kernel)) rfl), (gT_mem (List.mem_of_getElem? (i := 473) (by decide +kernel)) rfl), ⟨by decide, by decide, by decide +kernel⟩, by decide⟩
theorem fX9_92 : FL RX9 92 9 1 false (.int) := ⟨RX9, TX9, 17, tyX9, rfl, by decide, inX9, tyX9_ok, nmX9, rfl, rfl, Or.inl (gT_mem (List.mem_of_getElem? (i := 415) (by decide +kernel)) rfl)⟩
theorem kX9_95 : MLV RX9 95 mX3_read 2 := ⟨(gT_mem (List.mem_of_getElem? (i := 478) (by decide +kernel)) rfl), (gT_mem (List.mem_of_getElem? (i := 479) (by decide +kernel)) rfl), (gT_mem (List.mem_of_getElem? (i := 480) (by decide +kernel)) rfl), (gT_mem (List.mem_of_getElem? (i := 130) (by decide +kernel)) rfl), (gT_mem (List.mem_of_getElem? (i := 481) (by decide +kernel)) rfl), ⟨by decide, by decide, by decide +kernel⟩, by decide⟩
theorem fX9_99 : FL RX9 99 3 0 false (.int) := ⟨RX3, TX3, 14, tyX3, rfl, by decide, inX3, tyX3_ok, nmX3, rfl, rfl, Or.inl (gT_mem (List.mem_of_getElem? (i := 272) (by decide +kernel)) rfl)⟩
theorem fX9_102 : FL RX9 102 9 6 false (.int) := ⟨RX9, TX9, 17, tyX9, rfl, by decide, inX9, tyX9_ok, nmX9, rfl, rfl, Or.inl (gT_mem (List.mem_of_getElem? (i := 420) (by decide +kernel)) rfl)⟩
theorem fX9_105 : FL RX9 105 6 1 false (.int) := ⟨RX6, TX6, 13, tyX6, rfl, by decide, inX6, tyX6_ok, nmX6, rfl, rfl, Or.inl (gT_mem (List.mem_of_getElem? (i := 208) (by decide +kernel)) rfl)⟩
theorem fX9_108 : FL RX9 108 3 1 false (.int) := ⟨RX3, TX3, 14, tyX3, rfl, by decide, inX3, tyX3_ok, nmX3, rfl, rfl, Or.inl (gT_mem (List.mem_of_getElem? (i := 274) (by decide +kernel)) rfl)⟩
theorem fX9_111 : FL RX9 111 6 4 false (.int) := ⟨RX6, TX6, 13, tyX6, rfl, by decide, inX6, tyX6_ok, nmX6, rfl, rfl, Or.inl (gT_mem (List.mem_of_getElem? (i := 221) (by decide +kernel)) rfl)⟩
theorem fX9_114 : FL RX9 114 5 0 false (.int) := ⟨RX5, TX5, 6, tyX5, rfl, by decide, inX5, tyX5_ok, nmX5, rfl, rfl, Or.inl (gT_mem (List.mem_of_getElem? (i := 176) (by decide +kernel)) rfl)⟩
theorem kX9_117 : MLS RX9 117 mX9_cellOf 2 := ⟨(gT_mem (List.mem_of_getElem? (i := 700) (by decide +kernel)) rfl), (gT_mem (List.mem_of_getElem? (i := 701) (by decide +kernel)) rfl), (gT_mem (List.mem_of_getElem? (i := 129) (by decide +kernel)) rfl), (gT_mem (List.mem_of_getElem? (i := 702) (by decide +kernel)) rfl), ⟨by decide, by decide, by decide +kernel⟩, by decide⟩
theorem fX9_121 : FL RX9 121 6 5 true (.array .int) := ⟨RX6, TX6, 13, tyX6, rfl, by decide, inX6, tyX6_ok, nmX6, rfl, rfl, Or.inl (gT_mem (List.mem_of_getElem? (i := 225) (by decide +kernel)) rfl)⟩
theorem fX9_124 : FL RX9 124 6 6 true (.array .int) := ⟨RX6, TX6, 13, tyX6, rfl, by decide, inX6, tyX6_ok, nmX6, rfl, rfl, Or.inl (gT_mem (List.mem_of_getElem? (i := 229) (by decide +kernel)) rfl)⟩
theorem fX9_127 : FL RX9 127 5 4 false (.int) := ⟨RX5, TX5, 6, tyX5, rfl, by decide, inX5, tyX5_ok, nmX5, rfl, rfl, Or.inl (gT_mem (List.mem_of_getElem? (i := 187) (by decide +kernel)) rfl)⟩
theorem kX9_130 : MLV RX9 130 mX2_take 2 := ⟨(gT_mem (List.mem_of_getElem? (i := 703) (by decide +kernel)) rfl), (gT_mem (List.mem_of_getElem? (i := 704) (by decide +kernel)) rfl), (gT_mem (List.mem_of_getElem? (i := 705) (by decide +kernel)) rfl), (gT_mem (List.mem_of_getElem? (i := 133) (by decide +kernel)) rfl), (gT_mem (List.mem_of_getElem? (i := 706) (by decide +kernel)) rfl), ⟨by decide, by decide, by decide +kernel⟩, by decide⟩
theorem fX9_134 : FL RX9 134 6 2 false (.int) := ⟨RX6, TX6, 13, tyX6, rfl, by decide, inX6, tyX6_ok, nmX6, rfl, rfl, Or.inl (gT_mem (List.mem_of_getElem? (i := 213) (by decide +kernel)) rfl)⟩
theorem fX9_137 : FL RX9 137 5 1 false (.int) := ⟨RX5, TX5, 6, tyX5, rfl, by decide, inX5, tyX5_ok, nmX5, rfl, rfl, Or.inl (gT_mem (List.mem_of_getElem? (i := 180) (by decide +kernel)) rfl)⟩
theorem kX9_140 : MLV RX9 140 mX2_noiseOf 3 := ⟨(gT_mem (List.mem_of_getElem? (i := 707) (by decide +kernel)) rfl), (gT_mem (List.mem_of_getElem? (i := 708) (by decide +kernel)) rfl), (gT_mem (List.mem_of_getElem? (i := 709) (by decide +kernel)) rfl), (gT_mem (List.mem_of_getElem? (i := 133) (by decide +kernel)) rfl), (gT_mem (List.mem_of_getElem? (i := 710) (by decide +kernel)) rfl), ⟨by decide, by decide, by decide +kernel⟩, by decide⟩
theorem kX9_144 : MLV RX9 144 mX9_isSet 1 := ⟨(gT_mem (List.mem_of_getElem? (i := 733) (by decide +kernel)) rfl), (gT_mem (List.mem_of_getElem? (i := 735) (by decide +kernel)) rfl), (gT_mem (List.mem_of_getElem? (i := 29) (by decide +kernel)) rfl), (gT_mem (List.mem_of_getElem? (i := 129) (by decide +kernel)) rfl), (gT_mem (List.mem_of_getElem? (i := 736) (by decide +kernel)) rfl), ⟨by decide, by decide, by decide +kernel⟩, by decide⟩
theorem kX9_148 : MLV RX9 148 mX9_refusal 2 := ⟨(gT_mem (List.mem_of_getElem? (i := 737) (by decide +kernel)) rfl), (gT_mem (List.mem_of_getElem? (i := 739) (by decide +kernel)) rfl), (gT_mem (List.mem_of_getElem? (i := 30) (by decide +kernel)) rfl), (gT_mem (List.mem_of_getElem? (i := 129) (by decide +kernel)) rfl), (gT_mem (List.mem_of_getElem? (i := 740) (by decide +kernel)) rfl), ⟨by decide, by decide, by decide +kernel⟩, by decide⟩
theorem kX9_152 : MLV RX9 152 mX2_depthAfter 4 := ⟨(gT_mem (List.mem_of_getElem? (i := 745) (by decide +kernel)) rfl), (gT_mem (List.mem_of_getElem? (i := 746) (by decide +kernel)) rfl), (gT_mem (List.mem_of_getElem? (i := 747) (by decide +kernel)) rfl), (gT_mem (List.mem_of_getElem? (i := 133) (by decide +kernel)) rfl), (gT_mem (List.mem_of_getElem? (i := 748) (by decide +kernel)) rfl), ⟨by decide, by decide, by decide +kernel⟩, by decide⟩
theorem kX9_156 : MLV RX9 156 mX6_pastAt 1 := ⟨(gT_mem (List.mem_of_getElem? (i := 741) (by decide +kernel)) rfl), (gT_mem (List.mem_of_getElem? (i := 742) (by decide +kernel)) rfl), (gT_mem (List.mem_of_getElem? (i := 743) (by decide +kernel)) rfl), (gT_mem (List.mem_of_getElem? (i := 131) (by decide +kernel)) rfl), (gT_mem (List.mem_of_getElem? (i := 744) (by decide +kernel)) rfl), ⟨by decide, by decide, by decide +kernel⟩, by decide⟩
theorem kX9_160 : MLS RX9 160 mX9_shiftOf 1 := ⟨(gT_mem (List.mem_of_getElem? (i := 768) (by decide +kernel)) rfl), (gT_mem (List.mem_of_getElem? (i := 769) (by decide +kernel)) rfl), (gT_mem (List.mem_of_getElem? (i := 129) (by decide +kernel)) rfl), (gT_mem (List.mem_of_getElem? (i := 770) (by decide +kernel)) rfl), ⟨by decide, by decide, by decide +kernel⟩, by decide⟩
theorem fX9_163 : FL RX9 163 5 5 false (.int) := ⟨RX5, TX5, 6, tyX5, rfl, by decide, inX5, tyX5_ok, nmX5, rfl, rfl, Or.inl (gT_mem (List.mem_of_getElem? (i := 190) (by decide +kernel)) rfl)⟩
theorem qX9_166 : Cond.fieldLink RX9 166 "SleepAct" "WEIGHT" "[I" ∈ gT := (gT_mem (List.mem_of_getElem? (i := 771) (by decide +kernel)) rfl)
theorem kX9_169 : MLV RX9 169 mX9_isPerson 1 := ⟨(gT_mem (List.mem_of_getElem? (i := 788) (by decide +kernel)) rfl), (gT_mem (List.mem_of_getElem? (i := 790) (by decide +kernel)) rfl), (gT_mem (List.mem_of_getElem? (i := 34) (by decide +kernel)) rfl), (gT_mem (List.mem_of_getElem? (i := 129) (by decide +kernel)) rfl), (gT_mem (List.mem_of_getElem? (i := 791) (by decide +kernel)) rfl), ⟨by decide, by decide, by decide +kernel⟩, by decide⟩
theorem kX9_173 : MLV RX9 173 mX5_addHint 3 := ⟨(gT_mem (List.mem_of_getElem? (i := 792) (by decide +kernel)) rfl), (gT_mem (List.mem_of_getElem? (i := 613) (by decide +kernel)) rfl), (gT_mem (List.mem_of_getElem? (i := 614) (by decide +kernel)) rfl), (gT_mem (List.mem_of_getElem? (i := 132) (by decide +kernel)) rfl), (gT_mem (List.mem_of_getElem? (i := 615) (by decide +kernel)) rfl), ⟨by decide, by decide, by decide +kernel⟩, by decide⟩
theorem fX9_177 : FL RX9 177 6 7 false (.int) := ⟨RX6, TX6, 13, tyX6, rfl, by decide, inX6, tyX6_ok, nmX6, rfl, rfl, Or.inl (gT_mem (List.mem_of_getElem? (i := 231) (by decide +kernel)) rfl)⟩
theorem qX9_180 : Cond.constantLong RX9 180 (15) ∈ gT := (gT_mem (List.mem_of_getElem? (i := 848) (by decide +kernel)) rfl)
theorem kX9_182 : MLV RX9 182 mX9_stepHour 2 := ⟨(gT_mem (List.mem_of_getElem? (i := 764) (by decide +kernel)) rfl), (gT_mem (List.mem_of_getElem? (i := 766) (by decide +kernel)) rfl), (gT_mem (List.mem_of_getElem? (i := 31) (by decide +kernel)) rfl), (gT_mem (List.mem_of_getElem? (i := 129) (by decide +kernel)) rfl), (gT_mem (List.mem_of_getElem? (i := 767) (by decide +kernel)) rfl), ⟨by decide, by decide, by decide +kernel⟩, by decide⟩
theorem qX9_185 : Cond.constantLong RX9 185 (100) ∈ gT := (gT_mem (List.mem_of_getElem? (i := 849) (by decide +kernel)) rfl)
theorem qX9_187 : Cond.constantLong RX9 187 (109) ∈ gT := (gT_mem (List.mem_of_getElem? (i := 850) (by decide +kernel)) rfl)
theorem kX9_189 : MLV RX9 189 mX9_changeDraught 2 := ⟨(gT_mem (List.mem_of_getElem? (i := 825) (by decide +kernel)) rfl), (gT_mem (List.mem_of_getElem? (i := 827) (by decide +kernel)) rfl), (gT_mem (List.mem_of_getElem? (i := 40) (by decide +kernel)) rfl), (gT_mem (List.mem_of_getElem? (i := 129) (by decide +kernel)) rfl), (gT_mem (List.mem_of_getElem? (i := 828) (by decide +kernel)) rfl), ⟨by decide, by decide, by decide +kernel⟩, by decide⟩
theorem qX9_192 : Cond.constantLong RX9 192 (200) ∈ gT := (gT_mem (List.mem_of_getElem? (i := 851) (by decide +kernel)) rfl)
theorem qX9_194 : Cond.constantLong RX9 194 (399) ∈ gT := (gT_mem (List.mem_of_getElem? (i := 852) (by decide +kernel)) rfl)
theorem kX9_196 : MLV RX9 196 mX9_tellHint 4 := ⟨(gT_mem (List.mem_of_getElem? (i := 784) (by decide +kernel)) rfl), (gT_mem (List.mem_of_getElem? (i := 786) (by decide +kernel)) rfl), (gT_mem (List.mem_of_getElem? (i := 33) (by decide +kernel)) rfl), (gT_mem (List.mem_of_getElem? (i := 129) (by decide +kernel)) rfl), (gT_mem (List.mem_of_getElem? (i := 787) (by decide +kernel)) rfl), ⟨by decide, by decide, by decide +kernel⟩, by decide⟩
theorem kX9_200 : MLV RX9 200 mX9_keepForUndo 1 := ⟨(gT_mem (List.mem_of_getElem? (i := 772) (by decide +kernel)) rfl), (gT_mem (List.mem_of_getElem? (i := 774) (by decide +kernel)) rfl), (gT_mem (List.mem_of_getElem? (i := 32) (by decide +kernel)) rfl), (gT_mem (List.mem_of_getElem? (i := 129) (by decide +kernel)) rfl), (gT_mem (List.mem_of_getElem? (i := 775) (by decide +kernel)) rfl), ⟨by decide, by decide, by decide +kernel⟩, by decide⟩
theorem kX9_203 : MLV RX9 203 mX9_learnSays 0 := ⟨(gT_mem (List.mem_of_getElem? (i := 793) (by decide +kernel)) rfl), (gT_mem (List.mem_of_getElem? (i := 795) (by decide +kernel)) rfl), (gT_mem (List.mem_of_getElem? (i := 35) (by decide +kernel)) rfl), (gT_mem (List.mem_of_getElem? (i := 129) (by decide +kernel)) rfl), (gT_mem (List.mem_of_getElem? (i := 796) (by decide +kernel)) rfl), ⟨by decide, by decide, by decide +kernel⟩, by decide⟩
theorem fX9_207 : FL RX9 207 4 0 false (.int) := ⟨RX4, TX4, 7, tyX4, rfl, by decide, inX4, tyX4_ok, nmX4, rfl, rfl, Or.inl (gT_mem (List.mem_of_getElem? (i := 366) (by decide +kernel)) rfl)⟩
theorem kX9_210 : MLS RX9 210 mX9_isTray 1 := ⟨(gT_mem (List.mem_of_getElem? (i := 837) (by decide +kernel)) rfl), (gT_mem (List.mem_of_getElem? (i := 838) (by decide +kernel)) rfl), (gT_mem (List.mem_of_getElem? (i := 129) (by decide +kernel)) rfl), (gT_mem (List.mem_of_getElem? (i := 839) (by decide +kernel)) rfl), ⟨by decide, by decide, by decide +kernel⟩, by decide⟩
theorem fX9_213 : FL RX9 213 7 0 false (.boolean) := ⟨RX7, TX7, 4, tyX7, rfl, by decide, inX7, tyX7_ok, nmX7, rfl, rfl, Or.inl (gT_mem (List.mem_of_getElem? (i := 395) (by decide +kernel)) rfl)⟩
theorem fX9_217 : FL RX9 217 7 2 false (.int) := ⟨RX7, TX7, 4, tyX7, rfl, by decide, inX7, tyX7_ok, nmX7, rfl, rfl, Or.inl (gT_mem (List.mem_of_getElem? (i := 398) (by decide +kernel)) rfl)⟩
theorem kX9_220 : MLV RX9 220 mX7_get 1 := ⟨(gT_mem (List.mem_of_getElem? (i := 840) (by decide +kernel)) rfl), (gT_mem (List.mem_of_getElem? (i := 841) (by decide +kernel)) rfl), (gT_mem (List.mem_of_getElem? (i := 842) (by decide +kernel)) rfl), (gT_mem (List.mem_of_getElem? (i := 135) (by decide +kernel)) rfl), (gT_mem (List.mem_of_getElem? (i := 843) (by decide +kernel)) rfl), ⟨by decide, by decide, by decide +kernel⟩, by decide⟩
theorem kX9_224 : MLV RX9 224 mX9_doDeed 2 := ⟨(gT_mem (List.mem_of_getElem? (i := 844) (by decide +kernel)) rfl), (gT_mem (List.mem_of_getElem? (i := 846) (by decide +kernel)) rfl), (gT_mem (List.mem_of_getElem? (i := 41) (by decide +kernel)) rfl), (gT_mem (List.mem_of_getElem? (i := 129) (by decide +kernel)) rfl), (gT_mem (List.mem_of_getElem? (i := 847) (by decide +kernel)) rfl), ⟨by decide, by decide, by decide +kernel⟩, by decide⟩
theorem nX9_228 : NL RX9 228 1 1 [.int 0] := ⟨RX1, TX1, tyX1, rfl, inX1, tyX1_ok, (gT_mem (List.mem_of_getElem? (i := 861) (by decide +kernel)) rfl), (gT_mem (List.mem_of_getElem? (i := 862) (by decide +kernel)) rfl), (gT_mem (List.mem_of_getElem? (i := 145) (by decide +kernel)) rfl), by decide, fun _ => rfl⟩
theorem kX9_230 : MLI RX9 230 mX1_init 1 := ⟨Or.inl (gT_mem (List.mem_of_getElem? (i := 863) (by decide +kernel)) rfl), (gT_mem (List.mem_of_getElem? (i := 864) (by decide +kernel)) rfl), (gT_mem (List.mem_of_getElem? (i := 145) (by decide +kernel)) rfl), (gT_mem (List.mem_of_getElem? (i := 865) (by decide +kernel)) rfl), ⟨by decide, by decide, by decide +kernel⟩, by decide, rfl, rfl⟩
theorem kX9_231 : MLV RX9 231 mX1_nextDeed 0 := ⟨(gT_mem (List.mem_of_getElem? (i := 871) (by decide +kernel)) rfl), (gT_mem (List.mem_of_getElem? (i := 872) (by decide +kernel)) rfl), (gT_mem (List.mem_of_getElem? (i := 873) (by decide +kernel)) rfl), (gT_mem (List.mem_of_getElem? (i := 145) (by decide +kernel)) rfl), (gT_mem (List.mem_of_getElem? (i := 874) (by decide +kernel)) rfl), ⟨by decide, by decide, by decide +kernel⟩, by decide⟩
theorem fX9_235 : FL RX9 235 9 15 false (.object "SleepAct$Walks") := ⟨RX9, TX9, 17, tyX9, rfl, by decide, inX9, tyX9_ok, nmX9, rfl, rfl, Or.inl (gT_mem (List.mem_of_getElem? (i := 429) (by decide +kernel)) rfl)⟩
theorem nX9_239 : NL RX9 239 8 18 [.null, .null, .int 0, .int 0, .int 0, .null, .null, .int 0, .int 0, .int 0, .int 0, .null, .null, .null, .null, .null, .int 0, .int 0] := ⟨RX8, TX8, tyX8, rfl, inX8, tyX8_ok, (gT_mem (List.mem_of_getElem? (i := 888) (by decide +kernel)) rfl), (gT_mem (List.mem_of_getElem? (i := 889) (by decide +kernel)) rfl), (gT_mem (List.mem_of_getElem? (i := 146) (by decide +kernel)) rfl), by decide, fun _ => rfl⟩
theorem kX9_241 : MLI RX9 241 mX8_init 1 := ⟨Or.inl (gT_mem (List.mem_of_getElem? (i := 890) (by decide +kernel)) rfl), (gT_mem (List.mem_of_getElem? (i := 891) (by decide +kernel)) rfl), (gT_mem (List.mem_of_getElem? (i := 146) (by decide +kernel)) rfl), (gT_mem (List.mem_of_getElem? (i := 892) (by decide +kernel)) rfl), ⟨by decide, by decide, by decide +kernel⟩, by decide, rfl, rfl⟩
theorem kX9_244 : MLV RX9 244 mX8_beginAt 2 := ⟨(gT_mem (List.mem_of_getElem? (i := 950) (by decide +kernel)) rfl), (gT_mem (List.mem_of_getElem? (i := 951) (by decide +kernel)) rfl), (gT_mem (List.mem_of_getElem? (i := 952) (by decide +kernel)) rfl), (gT_mem (List.mem_of_getElem? (i := 146) (by decide +kernel)) rfl), (gT_mem (List.mem_of_getElem? (i := 953) (by decide +kernel)) rfl), ⟨by decide, by decide, by decide +kernel⟩, by decide⟩
theorem kX9_248 : MLV RX9 248 mX9_layWalks 0 := ⟨(gT_mem (List.mem_of_getElem? (i := 884) (by decide +kernel)) rfl), (gT_mem (List.mem_of_getElem? (i := 886) (by decide +kernel)) rfl), (gT_mem (List.mem_of_getElem? (i := 42) (by decide +kernel)) rfl), (gT_mem (List.mem_of_getElem? (i := 129) (by decide +kernel)) rfl), (gT_mem (List.mem_of_getElem? (i := 887) (by decide +kernel)) rfl), ⟨by decide, by decide, by decide +kernel⟩, by decide⟩
theorem kX9_252 : MLV RX9 252 mX8_hoursTo 1 := ⟨(gT_mem (List.mem_of_getElem? (i := 958) (by decide +kernel)) rfl), (gT_mem (List.mem_of_getElem? (i := 959) (by decide +kernel)) rfl), (gT_mem (List.mem_of_getElem? (i := 960) (by decide +kernel)) rfl), (gT_mem (List.mem_of_getElem? (i := 146) (by decide +kernel)) rfl), (gT_mem (List.mem_of_getElem? (i := 961) (by decide +kernel)) rfl), ⟨by decide, by decide, by decide +kernel⟩, by decide⟩
theorem kX9_255 : MLV RX9 255 mX8_stepsAt 1 := ⟨(gT_mem (List.mem_of_getElem? (i := 992) (by decide +kernel)) rfl), (gT_mem (List.mem_of_getElem? (i := 993) (by decide +kernel)) rfl), (gT_mem (List.mem_of_getElem? (i := 994) (by decide +kernel)) rfl), (gT_mem (List.mem_of_getElem? (i := 146) (by decide +kernel)) rfl), (gT_mem (List.mem_of_getElem? (i := 995) (by decide +kernel)) rfl), ⟨by decide, by decide, by decide +kernel⟩, by decide⟩
theorem qX9_258 : Cond.constantLong RX9 258 (-3) ∈ gT := (gT_mem (List.mem_of_getElem? (i := 1000) (by decide +kernel)) rfl)
theorem kX9_260 : MLV RX9 260 mX8_countRows 2 := ⟨(gT_mem (List.mem_of_getElem? (i := 1001) (by decide +kernel)) rfl), (gT_mem (List.mem_of_getElem? (i := 1002) (by decide +kernel)) rfl), (gT_mem (List.mem_of_getElem? (i := 1003) (by decide +kernel)) rfl), (gT_mem (List.mem_of_getElem? (i := 146) (by decide +kernel)) rfl), (gT_mem (List.mem_of_getElem? (i := 1004) (by decide +kernel)) rfl), ⟨by decide, by decide, by decide +kernel⟩, by decide⟩
theorem kX9_264 : MLV RX9 264 mX8_lookAtAll 0 := ⟨(gT_mem (List.mem_of_getElem? (i := 1017) (by decide +kernel)) rfl), (gT_mem (List.mem_of_getElem? (i := 1018) (by decide +kernel)) rfl), (gT_mem (List.mem_of_getElem? (i := 1019) (by decide +kernel)) rfl), (gT_mem (List.mem_of_getElem? (i := 146) (by decide +kernel)) rfl), (gT_mem (List.mem_of_getElem? (i := 1020) (by decide +kernel)) rfl), ⟨by decide, by decide, by decide +kernel⟩, by decide⟩
theorem kX9_267 : MLV RX9 267 mX8_everPast 0 := ⟨(gT_mem (List.mem_of_getElem? (i := 1021) (by decide +kernel)) rfl), (gT_mem (List.mem_of_getElem? (i := 1022) (by decide +kernel)) rfl), (gT_mem (List.mem_of_getElem? (i := 1023) (by decide +kernel)) rfl), (gT_mem (List.mem_of_getElem? (i := 146) (by decide +kernel)) rfl), (gT_mem (List.mem_of_getElem? (i := 1024) (by decide +kernel)) rfl), ⟨by decide, by decide, by decide +kernel⟩, by decide⟩
theorem kX9_270 : MLV RX9 270 mX8_greatestPast 0 := ⟨(gT_mem (List.mem_of_getElem? (i := 1029) (by decide +kernel)) rfl), (gT_mem (List.mem_of_getElem? (i := 1030) (by decide +kernel)) rfl), (gT_mem (List.mem_of_getElem? (i := 1031) (by decide +kernel)) rfl), (gT_mem (List.mem_of_getElem? (i := 146) (by decide +kernel)) rfl), (gT_mem (List.mem_of_getElem? (i := 1032) (by decide +kernel)) rfl), ⟨by decide, by decide, by decide +kernel⟩, by decide⟩
theorem kX9_273 : MLS RX9 273 mJ6_bitCount_0f7a4 1 := ⟨(gT_mem (List.mem_of_getElem? (i := 1033) (by decide +kernel)) rfl), (gT_mem (List.mem_of_getElem? (i := 751) (by decide +kernel)) rfl), (gT_mem (List.mem_of_getElem? (i := 144) (by decide +kernel)) rfl), (gT_mem (List.mem_of_getElem? (i := 752) (by decide +kernel)) rfl), ⟨by decide, by decide, by decide +kernel⟩, by decide⟩
theorem kX9_278 : MLV RX9 278 mX8_greatestDepth 0 := ⟨(gT_mem (List.mem_of_getElem? (i := 1038) (by decide +kernel)) rfl), (gT_mem (List.mem_of_getElem? (i := 1039) (by decide +kernel)) rfl), (gT_mem (List.mem_of_getElem? (i := 1040) (by decide +kernel)) rfl), (gT_mem (List.mem_of_getElem? (i := 146) (by decide +kernel)) rfl), (gT_mem (List.mem_of_getElem? (i := 1041) (by decide +kernel)) rfl), ⟨by decide, by decide, by decide +kernel⟩, by decide⟩
theorem fX9_281 : FL RX9 281 8 8 false (.int) := ⟨RX8, TX8, 18, tyX8, rfl, by decide, inX8, tyX8_ok, nmX8, rfl, rfl, Or.inl (gT_mem (List.mem_of_getElem? (i := 903) (by decide +kernel)) rfl)⟩
theorem fX9_284 : FL RX9 284 5 2 false (.long) := ⟨RX5, TX5, 6, tyX5, rfl, by decide, inX5, tyX5_ok, nmX5, rfl, rfl, Or.inl (gT_mem (List.mem_of_getElem? (i := 183) (by decide +kernel)) rfl)⟩
theorem fX9_288 : FL RX9 288 5 3 false (.long) := ⟨RX5, TX5, 6, tyX5, rfl, by decide, inX5, tyX5_ok, nmX5, rfl, rfl, Or.inl (gT_mem (List.mem_of_getElem? (i := 185) (by decide +kernel)) rfl)⟩
theorem kX9_291 : MLV RX9 291 mX4_learn 3 := ⟨(gT_mem (List.mem_of_getElem? (i := 797) (by decide +kernel)) rfl), (gT_mem (List.mem_of_getElem? (i := 798) (by decide +kernel)) rfl), (gT_mem (List.mem_of_getElem? (i := 799) (by decide +kernel)) rfl), (gT_mem (List.mem_of_getElem? (i := 134) (by decide +kernel)) rfl), (gT_mem (List.mem_of_getElem? (i := 800) (by decide +kernel)) rfl), ⟨by decide, by decide, by decide +kernel⟩, by decide⟩
theorem fX9_295 : FL RX9 295 4 1 true (.array .int) := ⟨RX4, TX4, 7, tyX4, rfl, by decide, inX4, tyX4_ok, nmX4, rfl, rfl, Or.inl (gT_mem (List.mem_of_getElem? (i := 368) (by decide +kernel)) rfl)⟩
theorem kX9_298 : MLV RX9 298 mX4_waysWith 2 := ⟨(gT_mem (List.mem_of_getElem? (i := 1063) (by decide +kernel)) rfl), (gT_mem (List.mem_of_getElem? (i := 1064) (by decide +kernel)) rfl), (gT_mem (List.mem_of_getElem? (i := 1065) (by decide +kernel)) rfl), (gT_mem (List.mem_of_getElem? (i := 134) (by decide +kernel)) rfl), (gT_mem (List.mem_of_getElem? (i := 1066) (by decide +kernel)) rfl), ⟨by decide, by decide, by decide +kernel⟩, by decide⟩
theorem kX9_301 : MLS RX9 301 mX9_partOf 3 := ⟨(gT_mem (List.mem_of_getElem? (i := 1071) (by decide +kernel)) rfl), (gT_mem (List.mem_of_getElem? (i := 1072) (by decide +kernel)) rfl), (gT_mem (List.mem_of_getElem? (i := 129) (by decide +kernel)) rfl), (gT_mem (List.mem_of_getElem? (i := 1073) (by decide +kernel)) rfl), ⟨by decide, by decide, by decide +kernel⟩, by decide⟩
theorem kX9_305 : MLS RX9 305 mJ9_max_7cf53 2 := ⟨(gT_mem (List.mem_of_getElem? (i := 1078) (by decide +kernel)) rfl), (gT_mem (List.mem_of_getElem? (i := 715) (by decide +kernel)) rfl), (gT_mem (List.mem_of_getElem? (i := 137) (by decide +kernel)) rfl), (gT_mem (List.mem_of_getElem? (i := 716) (by decide +kernel)) rfl), ⟨by decide, by decide, by decide +kernel⟩, by decide⟩
theorem kX9_310 : MLS RX9 310 mJ13_bitCount_95d88 1 := ⟨(gT_mem (List.mem_of_getElem? (i := 1083) (by decide +kernel)) rfl), (gT_mem (List.mem_of_getElem? (i := 1084) (by decide +kernel)) rfl), (gT_mem (List.mem_of_getElem? (i := 147) (by decide +kernel)) rfl), (gT_mem (List.mem_of_getElem? (i := 1085) (by decide +kernel)) rfl), ⟨by decide, by decide, by decide +kernel⟩, by decide⟩
theorem kX9_315 : MLV RX9 315 mX9_refuseSlept 1 := ⟨(gT_mem (List.mem_of_getElem? (i := 1093) (by decide +kernel)) rfl), (gT_mem (List.mem_of_getElem? (i := 1095) (by decide +kernel)) rfl), (gT_mem (List.mem_of_getElem? (i := 51) (by decide +kernel)) rfl), (gT_mem (List.mem_of_getElem? (i := 129) (by decide +kernel)) rfl), (gT_mem (List.mem_of_getElem? (i := 1096) (by decide +kernel)) rfl), ⟨by decide, by decide, by decide +kernel⟩, by decide⟩
theorem kX9_318 : MLV RX9 318 mX9_draughtsOf 1 := ⟨(gT_mem (List.mem_of_getElem? (i := 1098) (by decide +kernel)) rfl), (gT_mem (List.mem_of_getElem? (i := 1100) (by decide +kernel)) rfl), (gT_mem (List.mem_of_getElem? (i := 52) (by decide +kernel)) rfl), (gT_mem (List.mem_of_getElem? (i := 129) (by decide +kernel)) rfl), (gT_mem (List.mem_of_getElem? (i := 1101) (by decide +kernel)) rfl), ⟨by decide, by decide, by decide +kernel⟩, by decide⟩
theorem qX9_322 : Cond.constantLong RX9 322 (9) ∈ gT := (gT_mem (List.mem_of_getElem? (i := 1097) (by decide +kernel)) rfl)
theorem kX9_324 : MLV RX9 324 mX9_sleptBy 2 := ⟨(gT_mem (List.mem_of_getElem? (i := 1102) (by decide +kernel)) rfl), (gT_mem (List.mem_of_getElem? (i := 1104) (by decide +kernel)) rfl), (gT_mem (List.mem_of_getElem? (i := 53) (by decide +kernel)) rfl), (gT_mem (List.mem_of_getElem? (i := 129) (by decide +kernel)) rfl), (gT_mem (List.mem_of_getElem? (i := 1105) (by decide +kernel)) rfl), ⟨by decide, by decide, by decide +kernel⟩, by decide⟩
theorem kX9_328 : MLV RX9 328 mX9_mostAlike 2 := ⟨(gT_mem (List.mem_of_getElem? (i := 1110) (by decide +kernel)) rfl), (gT_mem (List.mem_of_getElem? (i := 1112) (by decide +kernel)) rfl), (gT_mem (List.mem_of_getElem? (i := 54) (by decide +kernel)) rfl), (gT_mem (List.mem_of_getElem? (i := 129) (by decide +kernel)) rfl), (gT_mem (List.mem_of_getElem? (i := 1113) (by decide +kernel)) rfl), ⟨by decide, by decide, by decide +kernel⟩, by decide⟩
theorem kX9_331 : MLS RX9 331 mJ7_fill_53178 2 := ⟨(gT_mem (List.mem_of_getElem? (i := 1114) (by decide +kernel)) rfl), (gT_mem (List.mem_of_getElem? (i := 803) (by decide +kernel)) rfl), (gT_mem (List.mem_of_getElem? (i := 142) (by decide +kernel)) rfl), (gT_mem (List.mem_of_getElem? (i := 804) (by decide +kernel)) rfl), ⟨by decide, by decide, by decide +kernel⟩, by decide⟩
theorem fX9_337 : FL RX9 337 9 16 false (.object "SleepAct$Dares") := ⟨RX9, TX9, 17, tyX9, rfl, by decide, inX9, tyX9_ok, nmX9, rfl, rfl, Or.inl (gT_mem (List.mem_of_getElem? (i := 430) (by decide +kernel)) rfl)⟩
theorem nX9_341 : NL RX9 341 0 6 [.null, .null, .int 0, .null, .int 0, .null] := ⟨RX0, TX0, tyX0, rfl, inX0, tyX0_ok, (gT_mem (List.mem_of_getElem? (i := 1123) (by decide +kernel)) rfl), (gT_mem (List.mem_of_getElem? (i := 1124) (by decide +kernel)) rfl), (gT_mem (List.mem_of_getElem? (i := 148) (by decide +kernel)) rfl), by decide, fun _ => rfl⟩
theorem kX9_343 : MLI RX9 343 mX0_init 1 := ⟨Or.inl (gT_mem (List.mem_of_getElem? (i := 1125) (by decide +kernel)) rfl), (gT_mem (List.mem_of_getElem? (i := 1126) (by decide +kernel)) rfl), (gT_mem (List.mem_of_getElem? (i := 148) (by decide +kernel)) rfl), (gT_mem (List.mem_of_getElem? (i := 1127) (by decide +kernel)) rfl), ⟨by decide, by decide, by decide +kernel⟩, by decide, rfl, rfl⟩
theorem kX9_344 : MLV RX9 344 mX0_side 1 := ⟨(gT_mem (List.mem_of_getElem? (i := 1149) (by decide +kernel)) rfl), (gT_mem (List.mem_of_getElem? (i := 1150) (by decide +kernel)) rfl), (gT_mem (List.mem_of_getElem? (i := 1151) (by decide +kernel)) rfl), (gT_mem (List.mem_of_getElem? (i := 148) (by decide +kernel)) rfl), (gT_mem (List.mem_of_getElem? (i := 1152) (by decide +kernel)) rfl), ⟨by decide, by decide, by decide +kernel⟩, by decide⟩
theorem kX9_347 : MLV RX9 347 mX9_layDares 1 := ⟨(gT_mem (List.mem_of_getElem? (i := 1119) (by decide +kernel)) rfl), (gT_mem (List.mem_of_getElem? (i := 1121) (by decide +kernel)) rfl), (gT_mem (List.mem_of_getElem? (i := 55) (by decide +kernel)) rfl), (gT_mem (List.mem_of_getElem? (i := 129) (by decide +kernel)) rfl), (gT_mem (List.mem_of_getElem? (i := 1122) (by decide +kernel)) rfl), ⟨by decide, by decide, by decide +kernel⟩, by decide⟩
theorem kX9_351 : MLV RX9 351 mX0_outcome 4 := ⟨(gT_mem (List.mem_of_getElem? (i := 1153) (by decide +kernel)) rfl), (gT_mem (List.mem_of_getElem? (i := 1154) (by decide +kernel)) rfl), (gT_mem (List.mem_of_getElem? (i := 1155) (by decide +kernel)) rfl), (gT_mem (List.mem_of_getElem? (i := 148) (by decide +kernel)) rfl), (gT_mem (List.mem_of_getElem? (i := 1156) (by decide +kernel)) rfl), ⟨by decide, by decide, by decide +kernel⟩, by decide⟩
theorem kX9_354 : MLV RX9 354 mX0_bestGoer 2 := ⟨(gT_mem (List.mem_of_getElem? (i := 1174) (by decide +kernel)) rfl), (gT_mem (List.mem_of_getElem? (i := 1175) (by decide +kernel)) rfl), (gT_mem (List.mem_of_getElem? (i := 1176) (by decide +kernel)) rfl), (gT_mem (List.mem_of_getElem? (i := 148) (by decide +kernel)) rfl), (gT_mem (List.mem_of_getElem? (i := 1177) (by decide +kernel)) rfl), ⟨by decide, by decide, by decide +kernel⟩, by decide⟩
theorem kX9_357 : MLV RX9 357 mX9_refuseChance 2 := ⟨(gT_mem (List.mem_of_getElem? (i := 1182) (by decide +kernel)) rfl), (gT_mem (List.mem_of_getElem? (i := 1184) (by decide +kernel)) rfl), (gT_mem (List.mem_of_getElem? (i := 58) (by decide +kernel)) rfl), (gT_mem (List.mem_of_getElem? (i := 129) (by decide +kernel)) rfl), (gT_mem (List.mem_of_getElem? (i := 1185) (by decide +kernel)) rfl), ⟨by decide, by decide, by decide +kernel⟩, by decide⟩
theorem kX9_360 : MLV RX9 360 mX9_weighHours 1 := ⟨(gT_mem (List.mem_of_getElem? (i := 1186) (by decide +kernel)) rfl), (gT_mem (List.mem_of_getElem? (i := 1188) (by decide +kernel)) rfl), (gT_mem (List.mem_of_getElem? (i := 59) (by decide +kernel)) rfl), (gT_mem (List.mem_of_getElem? (i := 129) (by decide +kernel)) rfl), (gT_mem (List.mem_of_getElem? (i := 1189) (by decide +kernel)) rfl), ⟨by decide, by decide, by decide +kernel⟩, by decide⟩
theorem kX9_364 : MLS RX9 364 mJ7_fill_d0a16 2 := ⟨(gT_mem (List.mem_of_getElem? (i := 1190) (by decide +kernel)) rfl), (gT_mem (List.mem_of_getElem? (i := 1191) (by decide +kernel)) rfl), (gT_mem (List.mem_of_getElem? (i := 142) (by decide +kernel)) rfl), (gT_mem (List.mem_of_getElem? (i := 1192) (by decide +kernel)) rfl), ⟨by decide, by decide, by decide +kernel⟩, by decide⟩
theorem kX9_367 : MLV RX9 367 mX9_weighHour 2 := ⟨(gT_mem (List.mem_of_getElem? (i := 1193) (by decide +kernel)) rfl), (gT_mem (List.mem_of_getElem? (i := 1195) (by decide +kernel)) rfl), (gT_mem (List.mem_of_getElem? (i := 60) (by decide +kernel)) rfl), (gT_mem (List.mem_of_getElem? (i := 129) (by decide +kernel)) rfl), (gT_mem (List.mem_of_getElem? (i := 1196) (by decide +kernel)) rfl), ⟨by decide, by decide, by decide +kernel⟩, by decide⟩
theorem qX9_370 : Cond.constantLong RX9 370 (10) ∈ gT := (gT_mem (List.mem_of_getElem? (i := 1197) (by decide +kernel)) rfl)
theorem fX9_372 : FL RX9 372 6 9 false (.int) := ⟨RX6, TX6, 13, tyX6, rfl, by decide, inX6, tyX6_ok, nmX6, rfl, rfl, Or.inl (gT_mem (List.mem_of_getElem? (i := 236) (by decide +kernel)) rfl)⟩
theorem fX9_375 : FL RX9 375 6 8 false (.int) := ⟨RX6, TX6, 13, tyX6, rfl, by decide, inX6, tyX6_ok, nmX6, rfl, rfl, Or.inl (gT_mem (List.mem_of_getElem? (i := 234) (by decide +kernel)) rfl)⟩
theorem kX9_378 : MLV RX9 378 mX7_lay 2 := ⟨(gT_mem (List.mem_of_getElem? (i := 1206) (by decide +kernel)) rfl), (gT_mem (List.mem_of_getElem? (i := 1207) (by decide +kernel)) rfl), (gT_mem (List.mem_of_getElem? (i := 1208) (by decide +kernel)) rfl), (gT_mem (List.mem_of_getElem? (i := 135) (by decide +kernel)) rfl), (gT_mem (List.mem_of_getElem? (i := 1209) (by decide +kernel)) rfl), ⟨by decide, by decide, by decide +kernel⟩, by decide⟩
theorem qX9_381 : Cond.constantLong RX9 381 (-2) ∈ gT := (gT_mem (List.mem_of_getElem? (i := 1215) (by decide +kernel)) rfl)
theorem qX9_383 : Cond.constantLong RX9 383 (-6) ∈ gT := (gT_mem (List.mem_of_getElem? (i := 1216) (by decide +kernel)) rfl)
theorem qX9_385 : Cond.constantLong RX9 385 (-7) ∈ gT := (gT_mem (List.mem_of_getElem? (i := 1217) (by decide +kernel)) rfl)
theorem kX9_387 : MLV RX9 387 mX7_put 2 := ⟨(gT_mem (List.mem_of_getElem? (i := 1218) (by decide +kernel)) rfl), (gT_mem (List.mem_of_getElem? (i := 1219) (by decide +kernel)) rfl), (gT_mem (List.mem_of_getElem? (i := 1220) (by decide +kernel)) rfl), (gT_mem (List.mem_of_getElem? (i := 135) (by decide +kernel)) rfl), (gT_mem (List.mem_of_getElem? (i := 1221) (by decide +kernel)) rfl), ⟨by decide, by decide, by decide +kernel⟩, by decide⟩
theorem kX9_391 : MLS RX9 391 mJ9_min_7cf53 2 := ⟨(gT_mem (List.mem_of_getElem? (i := 1230) (by decide +kernel)) rfl), (gT_mem (List.mem_of_getElem? (i := 483) (by decide +kernel)) rfl), (gT_mem (List.mem_of_getElem? (i := 137) (by decide +kernel)) rfl), (gT_mem (List.mem_of_getElem? (i := 484) (by decide +kernel)) rfl), ⟨by decide, by decide, by decide +kernel⟩, by decide⟩
theorem kX9_394 : MLS RX9 394 mX9_isImage 1 := ⟨(gT_mem (List.mem_of_getElem? (i := 1235) (by decide +kernel)) rfl), (gT_mem (List.mem_of_getElem? (i := 1236) (by decide +kernel)) rfl), (gT_mem (List.mem_of_getElem? (i := 129) (by decide +kernel)) rfl), (gT_mem (List.mem_of_getElem? (i := 1237) (by decide +kernel)) rfl), ⟨by decide, by decide, by decide +kernel⟩, by decide⟩
theorem fX0_9 : FL RX0 9 0 3 true (.array .int) := ⟨RX0, TX0, 6, tyX0, rfl, by decide, inX0, tyX0_ok, nmX0, rfl, rfl, Or.inl (gT_mem (List.mem_of_getElem? (i := 1133) (by decide +kernel)) rfl)⟩
theorem FX0_9 : FLF RX0 9 0 3 (.array .int) := ⟨RX0, TX0, 6, tyX0, rfl, by decide, inX0, tyX0_ok, nmX0, rfl, rfl, (gT_mem (List.mem_of_getElem? (i := 1133) (by decide +kernel)) rfl), rfl⟩
theorem qX0_15 : Cond.constant RX0 15 (48020) ∈ gT := (gT_mem (List.mem_of_getElem? (i := 1129) (by decide +kernel)) rfl)
theorem fX0_16 : FL RX0 16 0 5 true (.array .int) := ⟨RX0, TX0, 6, tyX0, rfl, by decide, inX0, tyX0_ok, nmX0, rfl, rfl, Or.inl (gT_mem (List.mem_of_getElem? (i := 1135) (by decide +kernel)) rfl)⟩
theorem FX0_16 : FLF RX0 16 0 5 (.array .int) := ⟨RX0, TX0, 6, tyX0, rfl, by decide, inX0, tyX0_ok, nmX0, rfl, rfl, (gT_mem (List.mem_of_getElem? (i := 1135) (by decide +kernel)) rfl), rfl⟩
theorem fX0_19 : FL RX0 19 0 0 true (.object "SleepAct$Laws") := ⟨RX0, TX0, 6, tyX0, rfl, by decide, inX0, tyX0_ok, nmX0, rfl, rfl, Or.inl (gT_mem (List.mem_of_getElem? (i := 1130) (by decide +kernel)) rfl)⟩
theorem FX0_19 : FLF RX0 19 0 0 (.object "SleepAct$Laws") := ⟨RX0, TX0, 6, tyX0, rfl, by decide, inX0, tyX0_ok, nmX0, rfl, rfl, (gT_mem (List.mem_of_getElem? (i := 1130) (by decide +kernel)) rfl), rfl⟩
theorem fX0_23 : FL RX0 23 2 0 false (.object "SleepAct$Street") := ⟨RX2, TX2, 7, tyX2, rfl, by decide, inX2, tyX2_ok, nmX2, rfl, rfl, Or.inl (gT_mem (List.mem_of_getElem? (i := 334) (by decide +kernel)) rfl)⟩
theorem fX0_29 : FL RX0 29 0 1 false (.object "SleepAct$Street") := ⟨RX0, TX0, 6, tyX0, rfl, by decide, inX0, tyX0_ok, nmX0, rfl, rfl, Or.inl (gT_mem (List.mem_of_getElem? (i := 1131) (by decide +kernel)) rfl)⟩
theorem fX0_30 : FL RX0 30 0 2 false (.int) := ⟨RX0, TX0, 6, tyX0, rfl, by decide, inX0, tyX0_ok, nmX0, rfl, rfl, Or.inl (gT_mem (List.mem_of_getElem? (i := 1132) (by decide +kernel)) rfl)⟩
theorem fX0_34 : FL RX0 34 2 1 false (.int) := ⟨RX2, TX2, 7, tyX2, rfl, by decide, inX2, tyX2_ok, nmX2, rfl, rfl, Or.inl (gT_mem (List.mem_of_getElem? (i := 338) (by decide +kernel)) rfl)⟩
theorem fX0_35 : FL RX0 35 6 4 false (.int) := ⟨RX6, TX6, 13, tyX6, rfl, by decide, inX6, tyX6_ok, nmX6, rfl, rfl, Or.inl (gT_mem (List.mem_of_getElem? (i := 218) (by decide +kernel)) rfl)⟩
theorem fX0_40 : FL RX0 40 0 4 false (.int) := ⟨RX0, TX0, 6, tyX0, rfl, by decide, inX0, tyX0_ok, nmX0, rfl, rfl, Or.inl (gT_mem (List.mem_of_getElem? (i := 1134) (by decide +kernel)) rfl)⟩
theorem kX0_43 : MLV RX0 43 mX6_pastAt 1 := ⟨(gT_mem (List.mem_of_getElem? (i := 1157) (by decide +kernel)) rfl), (gT_mem (List.mem_of_getElem? (i := 742) (by decide +kernel)) rfl), (gT_mem (List.mem_of_getElem? (i := 743) (by decide +kernel)) rfl), (gT_mem (List.mem_of_getElem? (i := 131) (by decide +kernel)) rfl), (gT_mem (List.mem_of_getElem? (i := 744) (by decide +kernel)) rfl), ⟨by decide, by decide, by decide +kernel⟩, by decide⟩
theorem kX0_47 : MLV RX0 47 mX0_bestOf 4 := ⟨(gT_mem (List.mem_of_getElem? (i := 1158) (by decide +kernel)) rfl), (gT_mem (List.mem_of_getElem? (i := 1160) (by decide +kernel)) rfl), (gT_mem (List.mem_of_getElem? (i := 56) (by decide +kernel)) rfl), (gT_mem (List.mem_of_getElem? (i := 148) (by decide +kernel)) rfl), (gT_mem (List.mem_of_getElem? (i := 1161) (by decide +kernel)) rfl), ⟨by decide, by decide, by decide +kernel⟩, by decide⟩
theorem kX0_51 : MLV RX0 51 mX2_depthAfter 4 := ⟨(gT_mem (List.mem_of_getElem? (i := 1166) (by decide +kernel)) rfl), (gT_mem (List.mem_of_getElem? (i := 746) (by decide +kernel)) rfl), (gT_mem (List.mem_of_getElem? (i := 747) (by decide +kernel)) rfl), (gT_mem (List.mem_of_getElem? (i := 133) (by decide +kernel)) rfl), (gT_mem (List.mem_of_getElem? (i := 748) (by decide +kernel)) rfl), ⟨by decide, by decide, by decide +kernel⟩, by decide⟩
theorem kX0_54 : MLV RX0 54 mX0_byStep 5 := ⟨(gT_mem (List.mem_of_getElem? (i := 1162) (by decide +kernel)) rfl), (gT_mem (List.mem_of_getElem? (i := 1164) (by decide +kernel)) rfl), (gT_mem (List.mem_of_getElem? (i := 57) (by decide +kernel)) rfl), (gT_mem (List.mem_of_getElem? (i := 148) (by decide +kernel)) rfl), (gT_mem (List.mem_of_getElem? (i := 1165) (by decide +kernel)) rfl), ⟨by decide, by decide, by decide +kernel⟩, by decide⟩
theorem kX0_58 : MLS RX0 58 mJ9_max_7cf53 2 := ⟨(gT_mem (List.mem_of_getElem? (i := 1169) (by decide +kernel)) rfl), (gT_mem (List.mem_of_getElem? (i := 715) (by decide +kernel)) rfl), (gT_mem (List.mem_of_getElem? (i := 137) (by decide +kernel)) rfl), (gT_mem (List.mem_of_getElem? (i := 716) (by decide +kernel)) rfl), ⟨by decide, by decide, by decide +kernel⟩, by decide⟩
theorem qX0_64 : Cond.fieldLinkNest RX0 64 "SleepAct" "WEIGHT" "[I" "SleepAct" ∈ nT := (nT_mem (List.mem_of_getElem? (i := 1167) (by decide +kernel)) rfl)
theorem kX0_67 : MLV RX0 67 mX0_outcome 4 := ⟨(gT_mem (List.mem_of_getElem? (i := 1168) (by decide +kernel)) rfl), (gT_mem (List.mem_of_getElem? (i := 1154) (by decide +kernel)) rfl), (gT_mem (List.mem_of_getElem? (i := 1155) (by decide +kernel)) rfl), (gT_mem (List.mem_of_getElem? (i := 148) (by decide +kernel)) rfl), (gT_mem (List.mem_of_getElem? (i := 1156) (by decide +kernel)) rfl), ⟨by decide, by decide, by decide +kernel⟩, by decide⟩
theorem fX1_7 : FL RX1 7 1 0 false (.int) := ⟨RX1, TX1, 1, tyX1, rfl, by decide, inX1, tyX1_ok, nmX1, rfl, rfl, Or.inl (gT_mem (List.mem_of_getElem? (i := 867) (by decide +kernel)) rfl)⟩
theorem qX1_13 : Cond.constant RX1 13 (1103515245) ∈ gT := (gT_mem (List.mem_of_getElem? (i := 879) (by decide +kernel)) rfl)
theorem kX1_14 : MLV RX1 14 mX1_draw 1 := ⟨(gT_mem (List.mem_of_getElem? (i := 875) (by decide +kernel)) rfl), (gT_mem (List.mem_of_getElem? (i := 876) (by decide +kernel)) rfl), (gT_mem (List.mem_of_getElem? (i := 877) (by decide +kernel)) rfl), (gT_mem (List.mem_of_getElem? (i := 145) (by decide +kernel)) rfl), (gT_mem (List.mem_of_getElem? (i := 878) (by decide +kernel)) rfl), ⟨by decide, by decide, by decide +kernel⟩, by decide⟩
theorem nX2_9 : NL RX2 9 6 13 [.int 0, .int 0, .int 0, .int 0, .int 0, .null, .null, .int 0, .int 0, .int 0, .null, .null, .null] := ⟨RX6, TX6, tyX6, rfl, inX6, tyX6_ok, (gT_mem (List.mem_of_getElem? (i := 331) (by decide +kernel)) rfl), (gT_mem (List.mem_of_getElem? (i := 164) (by decide +kernel)) rfl), (gT_mem (List.mem_of_getElem? (i := 131) (by decide +kernel)) rfl), by decide, fun _ => rfl⟩

abbrev Y_L_about : xY := (yL_about, cL_about, 3, some .long, { frames := 9, cells := 1, slots := 6, locals := 270 }, [(0, 6, 7, 15)])
abbrev Y_L_act : xY := (yL_act, cL_act, 3, some .long, { frames := 10, cells := 4, slots := 24, locals := 300 }, [])
abbrev Y_L_alike : xY := (yL_alike, cL_alike, 3, some .boolean, { frames := 11, cells := 450, slots := 2700, locals := 330 }, [])
abbrev Y_L_append : xY := (yL_append, cL_append, 3, some .long, { frames := 9, cells := 1, slots := 6, locals := 270 }, [(0, 6, 7, 15), (0, 6, 12, 19)])
abbrev Y_L_bestWindow : xY := (yL_bestWindow, cL_bestWindow, 3, some .long, { frames := 9, cells := 1, slots := 6, locals := 270 }, [(0, 6, 7, 15)])
abbrev Y_L_bin : xY := (yL_bin, cL_bin, 4, some .long, { frames := 9, cells := 1, slots := 6, locals := 270 }, [(0, 7, 8, 37), (0, 7, 13, 15)])
abbrev Y_L_draw : xY := (yL_draw, cL_draw, 2, some .int, { frames := 1, cells := 0, slots := 0, locals := 30 }, [])
abbrev Y_L_drop : xY := (yL_drop, cL_drop, 4, some .long, { frames := 9, cells := 1, slots := 6, locals := 270 }, [(0, 7, 8, 15)])
abbrev Y_L_errors : xY := (yL_errors, cL_errors, 4, some .boolean, { frames := 11, cells := 460, slots := 2760, locals := 330 }, [])
abbrev Y_L_fate : xY := (yL_fate, cL_fate, 3, some .long, { frames := 9, cells := 1, slots := 6, locals := 270 }, [(0, 6, 7, 15)])
abbrev Y_L_follows : xY := (yL_follows, cL_follows, 24, some .boolean, { frames := 11, cells := 2400, slots := 14400, locals := 330 }, [])
abbrev Y_L_in : xY := (yL_in, cL_in, 6, some .boolean, { frames := 1, cells := 0, slots := 0, locals := 30 }, [])
abbrev Y_L_kept : xY := (yL_kept, cL_kept, 17, some .boolean, { frames := 10, cells := 900, slots := 5400, locals := 300 }, [])
abbrev Y_L_leastSize : xY := (yL_leastSize, cL_leastSize, 3, some .long, { frames := 9, cells := 1, slots := 6, locals := 270 }, [(0, 6, 7, 15)])
abbrev Y_L_load : xY := (yL_load, cL_load, 2, some .long, { frames := 9, cells := 1, slots := 6, locals := 270 }, [(0, 5, 6, 19)])
abbrev Y_L_longest : xY := (yL_longest, cL_longest, 3, some .long, { frames := 9, cells := 1, slots := 6, locals := 270 }, [(0, 6, 7, 15)])
abbrev Y_L_now : xY := (yL_now, cL_now, 4, some .long, { frames := 10, cells := 200, slots := 1200, locals := 300 }, [])
abbrev Y_L_pass : xY := (yL_pass, cL_pass, 3, some .long, { frames := 9, cells := 1, slots := 6, locals := 270 }, [(0, 6, 7, 15)])
abbrev Y_L_pattern : xY := (yL_pattern, cL_pattern, 4, some .long, { frames := 9, cells := 1, slots := 6, locals := 270 }, [(0, 7, 8, 15)])
abbrev Y_L_pulse : xY := (yL_pulse, cL_pulse, 3, some .long, { frames := 9, cells := 1, slots := 6, locals := 270 }, [(0, 6, 7, 15)])
abbrev Y_L_quietIn : xY := (yL_quietIn, cL_quietIn, 3, some .long, { frames := 9, cells := 1, slots := 6, locals := 270 }, [(0, 6, 7, 15)])
abbrev Y_L_rain : xY := (yL_rain, cL_rain, 3, some .long, { frames := 9, cells := 1, slots := 6, locals := 270 }, [(0, 5, 6, 15)])
abbrev Y_L_replay : xY := (yL_replay, cL_replay, 5, some .long, { frames := 9, cells := 1, slots := 6, locals := 270 }, [(0, 8, 9, 15)])
abbrev Y_L_restore : xY := (yL_restore, cL_restore, 3, some .long, { frames := 9, cells := 1, slots := 6, locals := 270 }, [(0, 6, 7, 37), (0, 6, 12, 19)])
abbrev Y_L_save : xY := (yL_save, cL_save, 3, some .long, { frames := 9, cells := 1, slots := 6, locals := 270 }, [(0, 6, 7, 37)])
abbrev Y_L_script : xY := (yL_script, cL_script, 5, some .long, { frames := 9, cells := 1, slots := 6, locals := 270 }, [(0, 7, 8, 15)])
abbrev Y_L_set : xY := (yL_set, cL_set, 4, some .long, { frames := 9, cells := 1, slots := 6, locals := 270 }, [(0, 7, 8, 15)])
abbrev Y_L_setBorder : xY := (yL_setBorder, cL_setBorder, 4, some .long, { frames := 9, cells := 1, slots := 6, locals := 270 }, [(0, 7, 8, 37), (0, 7, 13, 15), (0, 7, 18, 19)])
abbrev Y_L_setting : xY := (yL_setting, cL_setting, 3, some .long, { frames := 9, cells := 1, slots := 6, locals := 270 }, [(0, 6, 7, 15)])
abbrev Y_L_simulate : xY := (yL_simulate, cL_simulate, 5, some .long, { frames := 9, cells := 1, slots := 6, locals := 270 }, [(0, 7, 8, 15)])
abbrev Y_L_tells : xY := (yL_tells, cL_tells, 6, some .boolean, { frames := 11, cells := 120, slots := 720, locals := 330 }, [])
abbrev Y_L_types : xY := (yL_types, cL_types, 2, some .boolean, { frames := 10, cells := 2, slots := 12, locals := 300 }, [])
abbrev Y_L_undo : xY := (yL_undo, cL_undo, 2, some .long, { frames := 9, cells := 1, slots := 6, locals := 270 }, [(0, 5, 6, 19)])
abbrev Y_L_wouldBe : xY := (yL_wouldBe, cL_wouldBe, 4, some .long, { frames := 9, cells := 1, slots := 6, locals := 270 }, [(0, 7, 8, 15)])
abbrev Y_X0_copyFrom : xY := (yX0_copyFrom, cX0_copyFrom, 2, none, { frames := 3, cells := 0, slots := 0, locals := 90 }, [])
abbrev Y_X0_countOf : xY := (yX0_countOf, cX0_countOf, 2, some .int, { frames := 1, cells := 0, slots := 0, locals := 30 }, [])
abbrev Y_X0_dropCount : xY := (yX0_dropCount, cX0_dropCount, 1, some .int, { frames := 2, cells := 0, slots := 0, locals := 60 }, [])
abbrev Y_X0_enter : xY := (yX0_enter, cX0_enter, 4, none, { frames := 2, cells := 0, slots := 0, locals := 60 }, [])
abbrev Y_X0_init : xY := (yX0_init, cX0_init, 1, none, { frames := 2, cells := 7, slots := 193, locals := 60 }, [])
abbrev Y_X0_rainOfRecord : xY := (yX0_rainOfRecord, cX0_rainOfRecord, 4, some .long, { frames := 2, cells := 0, slots := 0, locals := 60 }, [])
abbrev Y_X1_back : xY := (yX1_back, cX1_back, 3, some .int, { frames := 1, cells := 0, slots := 0, locals := 30 }, [])
abbrev Y_X1_copyFrom : xY := (yX1_copyFrom, cX1_copyFrom, 2, none, { frames := 2, cells := 0, slots := 0, locals := 60 }, [])
abbrev Y_X1_init : xY := (yX1_init, cX1_init, 2, none, { frames := 1, cells := 1, slots := 60, locals := 30 }, [])
abbrev Y_X1_longestRunOf : xY := (yX1_longestRunOf, cX1_longestRunOf, 5, some .int, { frames := 2, cells := 0, slots := 0, locals := 60 }, [])
abbrev Y_X1_placesOf : xY := (yX1_placesOf, cX1_placesOf, 5, some .int, { frames := 3, cells := 0, slots := 0, locals := 90 }, [])
abbrev Y_X1_push : xY := (yX1_push, cX1_push, 2, none, { frames := 1, cells := 0, slots := 0, locals := 30 }, [])
abbrev Y_X1_standsAt : xY := (yX1_standsAt, cX1_standsAt, 6, some .boolean, { frames := 2, cells := 0, slots := 0, locals := 60 }, [])
abbrev Y_X2_binOf : xY := (yX2_binOf, cX2_binOf, 3, some .int, { frames := 1, cells := 0, slots := 0, locals := 30 }, [])
abbrev Y_X2_closePulse : xY := (yX2_closePulse, cX2_closePulse, 2, none, { frames := 2, cells := 0, slots := 0, locals := 60 }, [])
abbrev Y_X2_copyFrom : xY := (yX2_copyFrom, cX2_copyFrom, 2, none, { frames := 3, cells := 0, slots := 0, locals := 90 }, [])
abbrev Y_X2_copySetupFrom : xY := (yX2_copySetupFrom, cX2_copySetupFrom, 2, none, { frames := 2, cells := 0, slots := 0, locals := 60 }, [])
abbrev Y_X2_emptyBins : xY := (yX2_emptyBins, cX2_emptyBins, 1, none, { frames := 2, cells := 0, slots := 0, locals := 60 }, [])
abbrev Y_X2_endByLaw : xY := (yX2_endByLaw, cX2_endByLaw, 3, some .int, { frames := 2, cells := 0, slots := 0, locals := 60 }, [])
abbrev Y_X2_fateOf : xY := (yX2_fateOf, cX2_fateOf, 3, some .int, { frames := 3, cells := 0, slots := 0, locals := 90 }, [])
abbrev Y_X2_init : xY := (yX2_init, cX2_init, 1, none, { frames := 1, cells := 5, slots := 37, locals := 30 }, [])
abbrev Y_X2_letPass : xY := (yX2_letPass, cX2_letPass, 2, none, { frames := 3, cells := 0, slots := 0, locals := 90 }, [])
abbrev Y_X2_levelAt : xY := (yX2_levelAt, cX2_levelAt, 4, some .int, { frames := 2, cells := 0, slots := 0, locals := 60 }, [])
abbrev Y_X2_lowerEnd : xY := (yX2_lowerEnd, cX2_lowerEnd, 2, some .int, { frames := 1, cells := 0, slots := 0, locals := 30 }, [])
abbrev Y_X2_openPulse : xY := (yX2_openPulse, cX2_openPulse, 2, none, { frames := 2, cells := 0, slots := 0, locals := 60 }, [])
abbrev Y_X2_receive : xY := (yX2_receive, cX2_receive, 5, some .int, { frames := 4, cells := 0, slots := 0, locals := 120 }, [])
abbrev Y_X2_reckonedRain : xY := (yX2_reckonedRain, cX2_reckonedRain, 5, some .long, { frames := 3, cells := 0, slots := 0, locals := 90 }, [])
abbrev Y_X2_strengthOf : xY := (yX2_strengthOf, cX2_strengthOf, 2, some .int, { frames := 1, cells := 0, slots := 0, locals := 30 }, [])
abbrev Y_X2_strike : xY := (yX2_strike, cX2_strike, 2, none, { frames := 1, cells := 0, slots := 0, locals := 30 }, [])
abbrev Y_X2_upperEnd : xY := (yX2_upperEnd, cX2_upperEnd, 2, some .int, { frames := 1, cells := 0, slots := 0, locals := 30 }, [])
abbrev Y_X2_wouldAscend : xY := (yX2_wouldAscend, cX2_wouldAscend, 3, some .boolean, { frames := 1, cells := 0, slots := 0, locals := 30 }, [])
abbrev Y_X3_copyFrom : xY := (yX3_copyFrom, cX3_copyFrom, 2, none, { frames := 4, cells := 0, slots := 0, locals := 120 }, [])
abbrev Y_X3_init : xY := (yX3_init, cX3_init, 1, none, { frames := 3, cells := 14, slots := 248, locals := 90 }, [])
abbrev Y_X3_letFall : xY := (yX3_letFall, cX3_letFall, 4, some .int, { frames := 5, cells := 0, slots := 0, locals := 150 }, [])
abbrev Y_X4_add : xY := (yX4_add, cX4_add, 2, some .int, { frames := 2, cells := 0, slots := 0, locals := 60 }, [])
abbrev Y_X4_digitAt : xY := (yX4_digitAt, cX4_digitAt, 2, some .int, { frames := 2, cells := 0, slots := 0, locals := 60 }, [])
abbrev Y_X4_errorInDrop : xY := (yX4_errorInDrop, cX4_errorInDrop, 3, some .int, { frames := 4, cells := 0, slots := 0, locals := 120 }, [])
abbrev Y_X4_errorInNumber : xY := (yX4_errorInNumber, cX4_errorInNumber, 9, some .int, { frames := 3, cells := 0, slots := 0, locals := 90 }, [])
abbrev Y_X4_errorInPart : xY := (yX4_errorInPart, cX4_errorInPart, 2, some .int, { frames := 5, cells := 0, slots := 0, locals := 150 }, [])
abbrev Y_X4_errorInSetting : xY := (yX4_errorInSetting, cX4_errorInSetting, 4, some .int, { frames := 4, cells := 0, slots := 0, locals := 120 }, [])
abbrev Y_X4_firstError : xY := (yX4_firstError, cX4_firstError, 4, some .int, { frames := 6, cells := 0, slots := 0, locals := 180 }, [])
abbrev Y_X4_init : xY := (yX4_init, cX4_init, 1, none, { frames := 1, cells := 1, slots := 100, locals := 30 }, [])
abbrev Y_X4_isFull : xY := (yX4_isFull, cX4_isFull, 1, some .boolean, { frames := 1, cells := 0, slots := 0, locals := 30 }, [])
abbrev Y_X4_numberAt : xY := (yX4_numberAt, cX4_numberAt, 2, some .int, { frames := 3, cells := 0, slots := 0, locals := 90 }, [])
abbrev Y_X4_partLength : xY := (yX4_partLength, cX4_partLength, 2, some .int, { frames := 2, cells := 0, slots := 0, locals := 60 }, [])
abbrev Y_X4_signAt : xY := (yX4_signAt, cX4_signAt, 2, some .int, { frames := 1, cells := 0, slots := 0, locals := 30 }, [])
abbrev Y_X4_wipe : xY := (yX4_wipe, cX4_wipe, 2, some .int, { frames := 1, cells := 0, slots := 0, locals := 30 }, [])
abbrev Y_X5_about : xY := (yX5_about, cX5_about, 4, some .int, { frames := 8, cells := 1, slots := 6, locals := 240 }, [])
abbrev Y_X5_append : xY := (yX5_append, cX5_append, 2, some .int, { frames := 8, cells := 1, slots := 6, locals := 240 }, [])
abbrev Y_X5_areFates : xY := (yX5_areFates, cX5_areFates, 4, some .boolean, { frames := 2, cells := 0, slots := 0, locals := 60 }, [])
abbrev Y_X5_bestWindow : xY := (yX5_bestWindow, cX5_bestWindow, 10, some .int, { frames := 8, cells := 1, slots := 6, locals := 240 }, [])
abbrev Y_X5_bin : xY := (yX5_bin, cX5_bin, 4, some .int, { frames := 8, cells := 1, slots := 6, locals := 240 }, [])
abbrev Y_X5_clearRow : xY := (yX5_clearRow, cX5_clearRow, 2, none, { frames := 1, cells := 0, slots := 0, locals := 30 }, [])
abbrev Y_X5_clearText : xY := (yX5_clearText, cX5_clearText, 1, some .int, { frames := 2, cells := 0, slots := 0, locals := 60 }, [])
abbrev Y_X5_copyRow : xY := (yX5_copyRow, cX5_copyRow, 3, none, { frames := 1, cells := 0, slots := 0, locals := 30 }, [])
abbrev Y_X5_cube : xY := (yX5_cube, cX5_cube, 1, some .long, { frames := 1, cells := 0, slots := 0, locals := 30 }, [])
abbrev Y_X5_drop : xY := (yX5_drop, cX5_drop, 3, some .int, { frames := 8, cells := 1, slots := 6, locals := 240 }, [])
abbrev Y_X5_empty : xY := (yX5_empty, cX5_empty, 2, some .int, { frames := 6, cells := 0, slots := 0, locals := 180 }, [])
abbrev Y_X5_errorPosition : xY := (yX5_errorPosition, cX5_errorPosition, 1, some .int, { frames := 7, cells := 0, slots := 0, locals := 210 }, [])
abbrev Y_X5_fate : xY := (yX5_fate, cX5_fate, 2, some .int, { frames := 8, cells := 1, slots := 6, locals := 240 }, [])
abbrev Y_X5_init : xY := (yX5_init, cX5_init, 2, none, { frames := 4, cells := 288, slots := 4866, locals := 120 }, [])
abbrev Y_X5_isFall : xY := (yX5_isFall, cX5_isFall, 2, some .boolean, { frames := 2, cells := 0, slots := 0, locals := 60 }, [])
abbrev Y_X5_isOutside : xY := (yX5_isOutside, cX5_isOutside, 3, some .boolean, { frames := 1, cells := 0, slots := 0, locals := 30 }, [])
abbrev Y_X5_isSetting : xY := (yX5_isSetting, cX5_isSetting, 2, some .boolean, { frames := 2, cells := 0, slots := 0, locals := 60 }, [])
abbrev Y_X5_leastSize : xY := (yX5_leastSize, cX5_leastSize, 4, some .int, { frames := 8, cells := 1, slots := 6, locals := 240 }, [])
abbrev Y_X5_load : xY := (yX5_load, cX5_load, 3, some .int, { frames := 8, cells := 1, slots := 6, locals := 240 }, [])
abbrev Y_X5_longest : xY := (yX5_longest, cX5_longest, 2, some .int, { frames := 8, cells := 1, slots := 6, locals := 240 }, [])
abbrev Y_X5_pass : xY := (yX5_pass, cX5_pass, 2, some .int, { frames := 8, cells := 1, slots := 6, locals := 240 }, [])
abbrev Y_X5_pattern : xY := (yX5_pattern, cX5_pattern, 3, some .int, { frames := 8, cells := 1, slots := 6, locals := 240 }, [])
abbrev Y_X5_pulse : xY := (yX5_pulse, cX5_pulse, 3, some .int, { frames := 8, cells := 1, slots := 6, locals := 240 }, [])
abbrev Y_X5_quietIn : xY := (yX5_quietIn, cX5_quietIn, 4, some .int, { frames := 8, cells := 1, slots := 6, locals := 240 }, [])
abbrev Y_X5_rain : xY := (yX5_rain, cX5_rain, 2, some .long, { frames := 8, cells := 1, slots := 6, locals := 240 }, [])
abbrev Y_X5_remember : xY := (yX5_remember, cX5_remember, 1, none, { frames := 5, cells := 0, slots := 0, locals := 150 }, [])
abbrev Y_X5_replay : xY := (yX5_replay, cX5_replay, 4, some .int, { frames := 8, cells := 1, slots := 6, locals := 240 }, [])
abbrev Y_X5_replayRecord : xY := (yX5_replayRecord, cX5_replayRecord, 8, some .int, { frames := 5, cells := 0, slots := 0, locals := 150 }, [])
abbrev Y_X5_restore : xY := (yX5_restore, cX5_restore, 3, some .int, { frames := 8, cells := 1, slots := 6, locals := 240 }, [])
abbrev Y_X5_runCommand : xY := (yX5_runCommand, cX5_runCommand, 8, some .boolean, { frames := 7, cells := 0, slots := 0, locals := 210 }, [])
abbrev Y_X5_runPart : xY := (yX5_runPart, cX5_runPart, 3, none, { frames := 6, cells := 0, slots := 0, locals := 180 }, [])
abbrev Y_X5_runScript : xY := (yX5_runScript, cX5_runScript, 6, some .int, { frames := 8, cells := 1, slots := 6, locals := 240 }, [])
abbrev Y_X5_save : xY := (yX5_save, cX5_save, 2, some .int, { frames := 8, cells := 1, slots := 6, locals := 240 }, [])
abbrev Y_X5_scriptedFall : xY := (yX5_scriptedFall, cX5_scriptedFall, 3, some .boolean, { frames := 6, cells := 0, slots := 0, locals := 180 }, [])
abbrev Y_X5_scriptedPass : xY := (yX5_scriptedPass, cX5_scriptedPass, 2, some .boolean, { frames := 4, cells := 0, slots := 0, locals := 120 }, [])
abbrev Y_X5_scriptedSetting : xY := (yX5_scriptedSetting, cX5_scriptedSetting, 3, some .boolean, { frames := 3, cells := 0, slots := 0, locals := 90 }, [])
abbrev Y_X5_set : xY := (yX5_set, cX5_set, 4, some .int, { frames := 8, cells := 1, slots := 6, locals := 240 }, [])
abbrev Y_X5_setBorder : xY := (yX5_setBorder, cX5_setBorder, 4, some .int, { frames := 8, cells := 1, slots := 6, locals := 240 }, [])
abbrev Y_X5_setting : xY := (yX5_setting, cX5_setting, 2, some .int, { frames := 8, cells := 1, slots := 6, locals := 240 }, [])
abbrev Y_X5_simulate : xY := (yX5_simulate, cX5_simulate, 9, some .int, { frames := 8, cells := 1, slots := 6, locals := 240 }, [])
abbrev Y_X5_sumOf : xY := (yX5_sumOf, cX5_sumOf, 6, some .int, { frames := 1, cells := 0, slots := 0, locals := 30 }, [])
abbrev Y_X5_trueRain : xY := (yX5_trueRain, cX5_trueRain, 1, some .long, { frames := 1, cells := 0, slots := 0, locals := 30 }, [])
abbrev Y_X5_undo : xY := (yX5_undo, cX5_undo, 1, some .int, { frames := 8, cells := 1, slots := 6, locals := 240 }, [])
abbrev Y_X5_weightOf : xY := (yX5_weightOf, cX5_weightOf, 1, some .int, { frames := 1, cells := 0, slots := 0, locals := 30 }, [])
abbrev Y_X5_wholeRoot : xY := (yX5_wholeRoot, cX5_wholeRoot, 3, some .int, { frames := 1, cells := 0, slots := 0, locals := 30 }, [])
abbrev Y_X5_withoutLastGroups : xY := (yX5_withoutLastGroups, cX5_withoutLastGroups, 6, some .long, { frames := 1, cells := 0, slots := 0, locals := 30 }, [])
abbrev Y_X5_wouldBe : xY := (yX5_wouldBe, cX5_wouldBe, 3, some .int, { frames := 8, cells := 1, slots := 6, locals := 240 }, [])
theorem mi_X5 : Cond.initialized RX5 ∈ xTT := xTT_of (List.mem_of_getElem? (i := 18) (by decide +kernel)) (by decide +kernel)
theorem mi_X0 : Cond.initialized RX0 ∈ xTT := xTT_of (List.mem_of_getElem? (i := 22) (by decide +kernel)) (by decide +kernel)
theorem mi_X1 : Cond.initialized RX1 ∈ xTT := xTT_of (List.mem_of_getElem? (i := 23) (by decide +kernel)) (by decide +kernel)
theorem mi_X2 : Cond.initialized RX2 ∈ xTT := xTT_of (List.mem_of_getElem? (i := 21) (by decide +kernel)) (by decide +kernel)
theorem mi_X3 : Cond.initialized RX3 ∈ xTT := xTT_of (List.mem_of_getElem? (i := 20) (by decide +kernel)) (by decide +kernel)
theorem mi_X4 : Cond.initialized RX4 ∈ xTT := xTT_of (List.mem_of_getElem? (i := 19) (by decide +kernel)) (by decide +kernel)
theorem mi_L : Cond.initialized RL ∈ xTT := xTT_of (List.mem_of_getElem? (i := 17) (by decide +kernel)) (by decide +kernel)
theorem mc_L_about : Cond.codeWith yL_about cL_about 3 (some .long) [(0, 6, 7, 15)] ∈ xTT := xTT_of (List.mem_of_getElem? (i := 471) (by decide +kernel)) (by decide +kernel)
theorem mt_L_about : Cond.static yL_about ∈ xTT := xTT_of (List.mem_of_getElem? (i := 470) (by decide +kernel)) (by decide +kernel)
theorem mp_L_about : plainName (Y_L_about).1.cls = true := by decide +kernel
theorem mc_L_act : Cond.code yL_act cL_act 3 (some .long) ∈ xTT := xTT_of (List.mem_of_getElem? (i := 837) (by decide +kernel)) (by decide +kernel)
theorem ok_L_act : xYok Y_L_act 3 := ⟨rfl, mc_L_act, mi_L, by decide +kernel⟩
theorem mt_L_act : Cond.static yL_act ∈ xTT := xTT_of (List.mem_of_getElem? (i := 836) (by decide +kernel)) (by decide +kernel)
theorem mp_L_act : plainName (Y_L_act).1.cls = true := by decide +kernel
theorem mc_L_alike : Cond.code yL_alike cL_alike 3 (some .boolean) ∈ xTT := xTT_of (List.mem_of_getElem? (i := 815) (by decide +kernel)) (by decide +kernel)
theorem ok_L_alike : xYok Y_L_alike 3 := ⟨rfl, mc_L_alike, mi_L, by decide +kernel⟩
theorem mt_L_alike : Cond.static yL_alike ∈ xTT := xTT_of (List.mem_of_getElem? (i := 814) (by decide +kernel)) (by decide +kernel)
theorem mp_L_alike : plainName (Y_L_alike).1.cls = true := by decide +kernel
theorem mc_L_append : Cond.codeWith yL_append cL_append 3 (some .long) [(0, 6, 7, 15), (0, 6, 12, 19)] ∈ xTT := xTT_of (List.mem_of_getElem? (i := 757) (by decide +kernel)) (by decide +kernel)
theorem mt_L_append : Cond.static yL_append ∈ xTT := xTT_of (List.mem_of_getElem? (i := 756) (by decide +kernel)) (by decide +kernel)
theorem mp_L_append : plainName (Y_L_append).1.cls = true := by decide +kernel
theorem mc_L_bestWindow : Cond.codeWith yL_bestWindow cL_bestWindow 3 (some .long) [(0, 6, 7, 15)] ∈ xTT := xTT_of (List.mem_of_getElem? (i := 697) (by decide +kernel)) (by decide +kernel)
theorem mt_L_bestWindow : Cond.static yL_bestWindow ∈ xTT := xTT_of (List.mem_of_getElem? (i := 696) (by decide +kernel)) (by decide +kernel)
theorem mp_L_bestWindow : plainName (Y_L_bestWindow).1.cls = true := by decide +kernel
theorem mc_L_bin : Cond.codeWith yL_bin cL_bin 4 (some .long) [(0, 7, 8, 37), (0, 7, 13, 15)] ∈ xTT := xTT_of (List.mem_of_getElem? (i := 510) (by decide +kernel)) (by decide +kernel)
theorem mt_L_bin : Cond.static yL_bin ∈ xTT := xTT_of (List.mem_of_getElem? (i := 509) (by decide +kernel)) (by decide +kernel)
theorem mp_L_bin : plainName (Y_L_bin).1.cls = true := by decide +kernel
theorem mc_L_draw : Cond.code yL_draw cL_draw 2 (some .int) ∈ xTT := xTT_of (List.mem_of_getElem? (i := 211) (by decide +kernel)) (by decide +kernel)
theorem ok_L_draw : xYok Y_L_draw 2 := ⟨rfl, mc_L_draw, mi_L, by decide +kernel⟩
theorem mt_L_draw : Cond.static yL_draw ∈ xTT := xTT_of (List.mem_of_getElem? (i := 210) (by decide +kernel)) (by decide +kernel)
theorem mp_L_draw : plainName (Y_L_draw).1.cls = true := by decide +kernel
theorem mc_L_drop : Cond.codeWith yL_drop cL_drop 4 (some .long) [(0, 7, 8, 15)] ∈ xTT := xTT_of (List.mem_of_getElem? (i := 606) (by decide +kernel)) (by decide +kernel)
theorem mt_L_drop : Cond.static yL_drop ∈ xTT := xTT_of (List.mem_of_getElem? (i := 605) (by decide +kernel)) (by decide +kernel)
theorem mp_L_drop : plainName (Y_L_drop).1.cls = true := by decide +kernel
theorem mc_L_errors : Cond.code yL_errors cL_errors 4 (some .boolean) ∈ xTT := xTT_of (List.mem_of_getElem? (i := 464) (by decide +kernel)) (by decide +kernel)
theorem ok_L_errors : xYok Y_L_errors 1 := ⟨rfl, mc_L_errors, mi_L, by decide +kernel⟩
theorem mt_L_errors : Cond.static yL_errors ∈ xTT := xTT_of (List.mem_of_getElem? (i := 463) (by decide +kernel)) (by decide +kernel)
theorem mp_L_errors : plainName (Y_L_errors).1.cls = true := by decide +kernel
theorem mc_L_fate : Cond.codeWith yL_fate cL_fate 3 (some .long) [(0, 6, 7, 15)] ∈ xTT := xTT_of (List.mem_of_getElem? (i := 535) (by decide +kernel)) (by decide +kernel)
theorem mt_L_fate : Cond.static yL_fate ∈ xTT := xTT_of (List.mem_of_getElem? (i := 534) (by decide +kernel)) (by decide +kernel)
theorem mp_L_fate : plainName (Y_L_fate).1.cls = true := by decide +kernel
theorem ok_L_follows : xYok Y_L_follows 2 := ⟨rfl, mc_L_follows, mi_L, by decide +kernel⟩
theorem mt_L_follows : Cond.static yL_follows ∈ xTT := xTT_of (List.mem_of_getElem? (i := 784) (by decide +kernel)) (by decide +kernel)
theorem mp_L_follows : plainName (Y_L_follows).1.cls = true := by decide +kernel
theorem mc_L_in : Cond.code yL_in cL_in 6 (some .boolean) ∈ xTT := xTT_of (List.mem_of_getElem? (i := 781) (by decide +kernel)) (by decide +kernel)
theorem ok_L_in : xYok Y_L_in 3 := ⟨rfl, mc_L_in, mi_L, by decide +kernel⟩
theorem mt_L_in : Cond.static yL_in ∈ xTT := xTT_of (List.mem_of_getElem? (i := 780) (by decide +kernel)) (by decide +kernel)
theorem mp_L_in : plainName (Y_L_in).1.cls = true := by decide +kernel
theorem ok_L_kept : xYok Y_L_kept 1 := ⟨rfl, mc_L_kept, mi_L, by decide +kernel⟩
theorem mt_L_kept : Cond.static yL_kept ∈ xTT := xTT_of (List.mem_of_getElem? (i := 774) (by decide +kernel)) (by decide +kernel)
theorem mp_L_kept : plainName (Y_L_kept).1.cls = true := by decide +kernel
theorem mc_L_leastSize : Cond.codeWith yL_leastSize cL_leastSize 3 (some .long) [(0, 6, 7, 15)] ∈ xTT := xTT_of (List.mem_of_getElem? (i := 666) (by decide +kernel)) (by decide +kernel)
theorem mt_L_leastSize : Cond.static yL_leastSize ∈ xTT := xTT_of (List.mem_of_getElem? (i := 665) (by decide +kernel)) (by decide +kernel)
theorem mp_L_leastSize : plainName (Y_L_leastSize).1.cls = true := by decide +kernel
theorem mc_L_load : Cond.codeWith yL_load cL_load 2 (some .long) [(0, 5, 6, 19)] ∈ xTT := xTT_of (List.mem_of_getElem? (i := 216) (by decide +kernel)) (by decide +kernel)
theorem mt_L_load : Cond.static yL_load ∈ xTT := xTT_of (List.mem_of_getElem? (i := 215) (by decide +kernel)) (by decide +kernel)
theorem mp_L_load : plainName (Y_L_load).1.cls = true := by decide +kernel
theorem mc_L_longest : Cond.codeWith yL_longest cL_longest 3 (some .long) [(0, 6, 7, 15)] ∈ xTT := xTT_of (List.mem_of_getElem? (i := 551) (by decide +kernel)) (by decide +kernel)
theorem mt_L_longest : Cond.static yL_longest ∈ xTT := xTT_of (List.mem_of_getElem? (i := 550) (by decide +kernel)) (by decide +kernel)
theorem mp_L_longest : plainName (Y_L_longest).1.cls = true := by decide +kernel
theorem mc_L_now : Cond.code yL_now cL_now 4 (some .long) ∈ xTT := xTT_of (List.mem_of_getElem? (i := 467) (by decide +kernel)) (by decide +kernel)
theorem ok_L_now : xYok Y_L_now 1 := ⟨rfl, mc_L_now, mi_L, by decide +kernel⟩
theorem mt_L_now : Cond.static yL_now ∈ xTT := xTT_of (List.mem_of_getElem? (i := 466) (by decide +kernel)) (by decide +kernel)
theorem mp_L_now : plainName (Y_L_now).1.cls = true := by decide +kernel
theorem mc_L_pass : Cond.codeWith yL_pass cL_pass 3 (some .long) [(0, 6, 7, 15)] ∈ xTT := xTT_of (List.mem_of_getElem? (i := 622) (by decide +kernel)) (by decide +kernel)
theorem mt_L_pass : Cond.static yL_pass ∈ xTT := xTT_of (List.mem_of_getElem? (i := 621) (by decide +kernel)) (by decide +kernel)
theorem mp_L_pass : plainName (Y_L_pass).1.cls = true := by decide +kernel
theorem mc_L_pattern : Cond.codeWith yL_pattern cL_pattern 4 (some .long) [(0, 7, 8, 15)] ∈ xTT := xTT_of (List.mem_of_getElem? (i := 564) (by decide +kernel)) (by decide +kernel)
theorem mt_L_pattern : Cond.static yL_pattern ∈ xTT := xTT_of (List.mem_of_getElem? (i := 563) (by decide +kernel)) (by decide +kernel)
theorem mp_L_pattern : plainName (Y_L_pattern).1.cls = true := by decide +kernel
theorem mc_L_pulse : Cond.codeWith yL_pulse cL_pulse 3 (some .long) [(0, 6, 7, 15)] ∈ xTT := xTT_of (List.mem_of_getElem? (i := 527) (by decide +kernel)) (by decide +kernel)
theorem mt_L_pulse : Cond.static yL_pulse ∈ xTT := xTT_of (List.mem_of_getElem? (i := 526) (by decide +kernel)) (by decide +kernel)
theorem mp_L_pulse : plainName (Y_L_pulse).1.cls = true := by decide +kernel
theorem mc_L_quietIn : Cond.codeWith yL_quietIn cL_quietIn 3 (some .long) [(0, 6, 7, 15)] ∈ xTT := xTT_of (List.mem_of_getElem? (i := 674) (by decide +kernel)) (by decide +kernel)
theorem mt_L_quietIn : Cond.static yL_quietIn ∈ xTT := xTT_of (List.mem_of_getElem? (i := 673) (by decide +kernel)) (by decide +kernel)
theorem mp_L_quietIn : plainName (Y_L_quietIn).1.cls = true := by decide +kernel
theorem mc_L_rain : Cond.codeWith yL_rain cL_rain 3 (some .long) [(0, 5, 6, 15)] ∈ xTT := xTT_of (List.mem_of_getElem? (i := 584) (by decide +kernel)) (by decide +kernel)
theorem mt_L_rain : Cond.static yL_rain ∈ xTT := xTT_of (List.mem_of_getElem? (i := 583) (by decide +kernel)) (by decide +kernel)
theorem mp_L_rain : plainName (Y_L_rain).1.cls = true := by decide +kernel
theorem mc_L_replay : Cond.codeWith yL_replay cL_replay 5 (some .long) [(0, 8, 9, 15)] ∈ xTT := xTT_of (List.mem_of_getElem? (i := 682) (by decide +kernel)) (by decide +kernel)
theorem mt_L_replay : Cond.static yL_replay ∈ xTT := xTT_of (List.mem_of_getElem? (i := 681) (by decide +kernel)) (by decide +kernel)
theorem mp_L_replay : plainName (Y_L_replay).1.cls = true := by decide +kernel
theorem mc_L_restore : Cond.codeWith yL_restore cL_restore 3 (some .long) [(0, 6, 7, 37), (0, 6, 12, 19)] ∈ xTT := xTT_of (List.mem_of_getElem? (i := 456) (by decide +kernel)) (by decide +kernel)
theorem mt_L_restore : Cond.static yL_restore ∈ xTT := xTT_of (List.mem_of_getElem? (i := 455) (by decide +kernel)) (by decide +kernel)
theorem mp_L_restore : plainName (Y_L_restore).1.cls = true := by decide +kernel
theorem mc_L_save : Cond.codeWith yL_save cL_save 3 (some .long) [(0, 6, 7, 37)] ∈ xTT := xTT_of (List.mem_of_getElem? (i := 430) (by decide +kernel)) (by decide +kernel)
theorem mt_L_save : Cond.static yL_save ∈ xTT := xTT_of (List.mem_of_getElem? (i := 429) (by decide +kernel)) (by decide +kernel)
theorem mp_L_save : plainName (Y_L_save).1.cls = true := by decide +kernel
theorem mc_L_script : Cond.codeWith yL_script cL_script 5 (some .long) [(0, 7, 8, 15)] ∈ xTT := xTT_of (List.mem_of_getElem? (i := 713) (by decide +kernel)) (by decide +kernel)
theorem mt_L_script : Cond.static yL_script ∈ xTT := xTT_of (List.mem_of_getElem? (i := 712) (by decide +kernel)) (by decide +kernel)
theorem mp_L_script : plainName (Y_L_script).1.cls = true := by decide +kernel
theorem mc_L_set : Cond.codeWith yL_set cL_set 4 (some .long) [(0, 7, 8, 15)] ∈ xTT := xTT_of (List.mem_of_getElem? (i := 630) (by decide +kernel)) (by decide +kernel)
theorem mt_L_set : Cond.static yL_set ∈ xTT := xTT_of (List.mem_of_getElem? (i := 629) (by decide +kernel)) (by decide +kernel)
theorem mp_L_set : plainName (Y_L_set).1.cls = true := by decide +kernel
theorem mc_L_setBorder : Cond.codeWith yL_setBorder cL_setBorder 4 (some .long) [(0, 7, 8, 37), (0, 7, 13, 15), (0, 7, 18, 19)] ∈ xTT := xTT_of (List.mem_of_getElem? (i := 643) (by decide +kernel)) (by decide +kernel)
theorem mt_L_setBorder : Cond.static yL_setBorder ∈ xTT := xTT_of (List.mem_of_getElem? (i := 642) (by decide +kernel)) (by decide +kernel)
theorem mp_L_setBorder : plainName (Y_L_setBorder).1.cls = true := by decide +kernel
theorem mc_L_setting : Cond.codeWith yL_setting cL_setting 3 (some .long) [(0, 6, 7, 15)] ∈ xTT := xTT_of (List.mem_of_getElem? (i := 502) (by decide +kernel)) (by decide +kernel)
theorem mt_L_setting : Cond.static yL_setting ∈ xTT := xTT_of (List.mem_of_getElem? (i := 501) (by decide +kernel)) (by decide +kernel)
theorem mp_L_setting : plainName (Y_L_setting).1.cls = true := by decide +kernel
theorem mc_L_simulate : Cond.codeWith yL_simulate cL_simulate 5 (some .long) [(0, 7, 8, 15)] ∈ xTT := xTT_of (List.mem_of_getElem? (i := 743) (by decide +kernel)) (by decide +kernel)
theorem mt_L_simulate : Cond.static yL_simulate ∈ xTT := xTT_of (List.mem_of_getElem? (i := 742) (by decide +kernel)) (by decide +kernel)
theorem mp_L_simulate : plainName (Y_L_simulate).1.cls = true := by decide +kernel
theorem mc_L_tells : Cond.code yL_tells cL_tells 6 (some .boolean) ∈ xTT := xTT_of (List.mem_of_getElem? (i := 823) (by decide +kernel)) (by decide +kernel)
theorem ok_L_tells : xYok Y_L_tells 3 := ⟨rfl, mc_L_tells, mi_L, by decide +kernel⟩
theorem mt_L_tells : Cond.static yL_tells ∈ xTT := xTT_of (List.mem_of_getElem? (i := 822) (by decide +kernel)) (by decide +kernel)
theorem mp_L_tells : plainName (Y_L_tells).1.cls = true := by decide +kernel
theorem mc_L_types : Cond.code yL_types cL_types 2 (some .boolean) ∈ xTT := xTT_of (List.mem_of_getElem? (i := 834) (by decide +kernel)) (by decide +kernel)
theorem ok_L_types : xYok Y_L_types 2 := ⟨rfl, mc_L_types, mi_L, by decide +kernel⟩
theorem mt_L_types : Cond.static yL_types ∈ xTT := xTT_of (List.mem_of_getElem? (i := 833) (by decide +kernel)) (by decide +kernel)
theorem mp_L_types : plainName (Y_L_types).1.cls = true := by decide +kernel
theorem mc_L_undo : Cond.codeWith yL_undo cL_undo 2 (some .long) [(0, 5, 6, 19)] ∈ xTT := xTT_of (List.mem_of_getElem? (i := 794) (by decide +kernel)) (by decide +kernel)
theorem mt_L_undo : Cond.static yL_undo ∈ xTT := xTT_of (List.mem_of_getElem? (i := 793) (by decide +kernel)) (by decide +kernel)
theorem mp_L_undo : plainName (Y_L_undo).1.cls = true := by decide +kernel
theorem mc_L_wouldBe : Cond.codeWith yL_wouldBe cL_wouldBe 4 (some .long) [(0, 7, 8, 15)] ∈ xTT := xTT_of (List.mem_of_getElem? (i := 657) (by decide +kernel)) (by decide +kernel)
theorem mt_L_wouldBe : Cond.static yL_wouldBe ∈ xTT := xTT_of (List.mem_of_getElem? (i := 656) (by decide +kernel)) (by decide +kernel)
theorem mp_L_wouldBe : plainName (Y_L_wouldBe).1.cls = true := by decide +kernel
theorem mc_X0_copyFrom : Cond.code yX0_copyFrom cX0_copyFrom 2 none ∈ xTT := xTT_of (List.mem_of_getElem? (i := 347) (by decide +kernel)) (by decide +kernel)
theorem ok_X0_copyFrom : xYok Y_X0_copyFrom 1 := ⟨rfl, mc_X0_copyFrom, mi_X0, by decide +kernel⟩
theorem mm_X0_copyFrom : Cond.instanceMethod yX0_copyFrom ∈ xTT := xTT_of (List.mem_of_getElem? (i := 345) (by decide +kernel)) (by decide +kernel)
theorem mv_X0_copyFrom : Cond.selects RX0 yX0_copyFrom yX0_copyFrom ∈ xTT := xTT_of (List.mem_of_getElem? (i := 346) (by decide +kernel)) (by decide +kernel)
theorem mp_X0_copyFrom : plainName (Y_X0_copyFrom).1.cls = true := by decide +kernel
theorem mc_X0_countOf : Cond.code yX0_countOf cX0_countOf 2 (some .int) ∈ xTT := xTT_of (List.mem_of_getElem? (i := 480) (by decide +kernel)) (by decide +kernel)
theorem ok_X0_countOf : xYok Y_X0_countOf 1 := ⟨rfl, mc_X0_countOf, mi_X0, by decide +kernel⟩
theorem mm_X0_countOf : Cond.instanceMethod yX0_countOf ∈ xTT := xTT_of (List.mem_of_getElem? (i := 478) (by decide +kernel)) (by decide +kernel)
theorem mv_X0_countOf : Cond.selects RX0 yX0_countOf yX0_countOf ∈ xTT := xTT_of (List.mem_of_getElem? (i := 479) (by decide +kernel)) (by decide +kernel)
theorem mp_X0_countOf : plainName (Y_X0_countOf).1.cls = true := by decide +kernel
theorem mc_X0_dropCount : Cond.code yX0_dropCount cX0_dropCount 1 (some .int) ∈ xTT := xTT_of (List.mem_of_getElem? (i := 423) (by decide +kernel)) (by decide +kernel)
theorem ok_X0_dropCount : xYok Y_X0_dropCount 0 := ⟨rfl, mc_X0_dropCount, mi_X0, by decide +kernel⟩
theorem mm_X0_dropCount : Cond.instanceMethod yX0_dropCount ∈ xTT := xTT_of (List.mem_of_getElem? (i := 421) (by decide +kernel)) (by decide +kernel)
theorem mv_X0_dropCount : Cond.selects RX0 yX0_dropCount yX0_dropCount ∈ xTT := xTT_of (List.mem_of_getElem? (i := 422) (by decide +kernel)) (by decide +kernel)
theorem mp_X0_dropCount : plainName (Y_X0_dropCount).1.cls = true := by decide +kernel
theorem mc_X0_enter : Cond.code yX0_enter cX0_enter 4 none ∈ xTT := xTT_of (List.mem_of_getElem? (i := 403) (by decide +kernel)) (by decide +kernel)
theorem ok_X0_enter : xYok Y_X0_enter 3 := ⟨rfl, mc_X0_enter, mi_X0, by decide +kernel⟩
theorem mm_X0_enter : Cond.instanceMethod yX0_enter ∈ xTT := xTT_of (List.mem_of_getElem? (i := 401) (by decide +kernel)) (by decide +kernel)
theorem mv_X0_enter : Cond.selects RX0 yX0_enter yX0_enter ∈ xTT := xTT_of (List.mem_of_getElem? (i := 402) (by decide +kernel)) (by decide +kernel)
theorem mp_X0_enter : plainName (Y_X0_enter).1.cls = true := by decide +kernel
theorem mc_X0_init : Cond.code yX0_init cX0_init 1 none ∈ xTT := xTT_of (List.mem_of_getElem? (i := 119) (by decide +kernel)) (by decide +kernel)
theorem ok_X0_init : xYok Y_X0_init 0 := ⟨rfl, mc_X0_init, mi_X0, by decide +kernel⟩
theorem mm_X0_init : Cond.instanceMethod yX0_init ∈ xTT := xTT_of (List.mem_of_getElem? (i := 118) (by decide +kernel)) (by decide +kernel)
theorem mp_X0_init : plainName (Y_X0_init).1.cls = true := by decide +kernel
theorem mc_X0_rainOfRecord : Cond.code yX0_rainOfRecord cX0_rainOfRecord 4 (some .long) ∈ xTT := xTT_of (List.mem_of_getElem? (i := 705) (by decide +kernel)) (by decide +kernel)
theorem ok_X0_rainOfRecord : xYok Y_X0_rainOfRecord 0 := ⟨rfl, mc_X0_rainOfRecord, mi_X0, by decide +kernel⟩
theorem mm_X0_rainOfRecord : Cond.instanceMethod yX0_rainOfRecord ∈ xTT := xTT_of (List.mem_of_getElem? (i := 703) (by decide +kernel)) (by decide +kernel)
theorem mv_X0_rainOfRecord : Cond.selects RX0 yX0_rainOfRecord yX0_rainOfRecord ∈ xTT := xTT_of (List.mem_of_getElem? (i := 704) (by decide +kernel)) (by decide +kernel)
theorem mp_X0_rainOfRecord : plainName (Y_X0_rainOfRecord).1.cls = true := by decide +kernel
theorem mc_X1_back : Cond.code yX1_back cX1_back 3 (some .int) ∈ xTT := xTT_of (List.mem_of_getElem? (i := 544) (by decide +kernel)) (by decide +kernel)
theorem ok_X1_back : xYok Y_X1_back 1 := ⟨rfl, mc_X1_back, mi_X1, by decide +kernel⟩
theorem mm_X1_back : Cond.instanceMethod yX1_back ∈ xTT := xTT_of (List.mem_of_getElem? (i := 542) (by decide +kernel)) (by decide +kernel)
theorem mv_X1_back : Cond.selects RX1 yX1_back yX1_back ∈ xTT := xTT_of (List.mem_of_getElem? (i := 543) (by decide +kernel)) (by decide +kernel)
theorem mp_X1_back : plainName (Y_X1_back).1.cls = true := by decide +kernel
theorem mc_X1_copyFrom : Cond.code yX1_copyFrom cX1_copyFrom 2 none ∈ xTT := xTT_of (List.mem_of_getElem? (i := 352) (by decide +kernel)) (by decide +kernel)
theorem ok_X1_copyFrom : xYok Y_X1_copyFrom 1 := ⟨rfl, mc_X1_copyFrom, mi_X1, by decide +kernel⟩
theorem mm_X1_copyFrom : Cond.instanceMethod yX1_copyFrom ∈ xTT := xTT_of (List.mem_of_getElem? (i := 350) (by decide +kernel)) (by decide +kernel)
theorem mv_X1_copyFrom : Cond.selects RX1 yX1_copyFrom yX1_copyFrom ∈ xTT := xTT_of (List.mem_of_getElem? (i := 351) (by decide +kernel)) (by decide +kernel)
theorem mp_X1_copyFrom : plainName (Y_X1_copyFrom).1.cls = true := by decide +kernel
theorem mc_X1_init : Cond.code yX1_init cX1_init 2 none ∈ xTT := xTT_of (List.mem_of_getElem? (i := 125) (by decide +kernel)) (by decide +kernel)
theorem ok_X1_init : xYok Y_X1_init 1 := ⟨rfl, mc_X1_init, mi_X1, by decide +kernel⟩
theorem mm_X1_init : Cond.instanceMethod yX1_init ∈ xTT := xTT_of (List.mem_of_getElem? (i := 124) (by decide +kernel)) (by decide +kernel)
theorem mp_X1_init : plainName (Y_X1_init).1.cls = true := by decide +kernel
theorem mc_X1_longestRunOf : Cond.code yX1_longestRunOf cX1_longestRunOf 5 (some .int) ∈ xTT := xTT_of (List.mem_of_getElem? (i := 560) (by decide +kernel)) (by decide +kernel)
theorem ok_X1_longestRunOf : xYok Y_X1_longestRunOf 1 := ⟨rfl, mc_X1_longestRunOf, mi_X1, by decide +kernel⟩
theorem mm_X1_longestRunOf : Cond.instanceMethod yX1_longestRunOf ∈ xTT := xTT_of (List.mem_of_getElem? (i := 558) (by decide +kernel)) (by decide +kernel)
theorem mv_X1_longestRunOf : Cond.selects RX1 yX1_longestRunOf yX1_longestRunOf ∈ xTT := xTT_of (List.mem_of_getElem? (i := 559) (by decide +kernel)) (by decide +kernel)
theorem mp_X1_longestRunOf : plainName (Y_X1_longestRunOf).1.cls = true := by decide +kernel
theorem mc_X1_placesOf : Cond.code yX1_placesOf cX1_placesOf 5 (some .int) ∈ xTT := xTT_of (List.mem_of_getElem? (i := 577) (by decide +kernel)) (by decide +kernel)
theorem ok_X1_placesOf : xYok Y_X1_placesOf 2 := ⟨rfl, mc_X1_placesOf, mi_X1, by decide +kernel⟩
theorem mm_X1_placesOf : Cond.instanceMethod yX1_placesOf ∈ xTT := xTT_of (List.mem_of_getElem? (i := 575) (by decide +kernel)) (by decide +kernel)
theorem mv_X1_placesOf : Cond.selects RX1 yX1_placesOf yX1_placesOf ∈ xTT := xTT_of (List.mem_of_getElem? (i := 576) (by decide +kernel)) (by decide +kernel)
theorem mp_X1_placesOf : plainName (Y_X1_placesOf).1.cls = true := by decide +kernel
theorem mc_X1_push : Cond.code yX1_push cX1_push 2 none ∈ xTT := xTT_of (List.mem_of_getElem? (i := 410) (by decide +kernel)) (by decide +kernel)
theorem ok_X1_push : xYok Y_X1_push 1 := ⟨rfl, mc_X1_push, mi_X1, by decide +kernel⟩
theorem mm_X1_push : Cond.instanceMethod yX1_push ∈ xTT := xTT_of (List.mem_of_getElem? (i := 408) (by decide +kernel)) (by decide +kernel)
theorem mv_X1_push : Cond.selects RX1 yX1_push yX1_push ∈ xTT := xTT_of (List.mem_of_getElem? (i := 409) (by decide +kernel)) (by decide +kernel)
theorem mp_X1_push : plainName (Y_X1_push).1.cls = true := by decide +kernel
theorem mc_X1_standsAt : Cond.code yX1_standsAt cX1_standsAt 6 (some .boolean) ∈ xTT := xTT_of (List.mem_of_getElem? (i := 581) (by decide +kernel)) (by decide +kernel)
theorem ok_X1_standsAt : xYok Y_X1_standsAt 3 := ⟨rfl, mc_X1_standsAt, mi_X1, by decide +kernel⟩
theorem mm_X1_standsAt : Cond.instanceMethod yX1_standsAt ∈ xTT := xTT_of (List.mem_of_getElem? (i := 580) (by decide +kernel)) (by decide +kernel)
theorem mv_X1_standsAt : Cond.selects RX1 yX1_standsAt yX1_standsAt ∈ xTT := xTT_of (List.mem_of_getElem? (i := 9) (by decide +kernel)) (by decide +kernel)
theorem mp_X1_standsAt : plainName (Y_X1_standsAt).1.cls = true := by decide +kernel
theorem mc_X2_binOf : Cond.code yX2_binOf cX2_binOf 3 (some .int) ∈ xTT := xTT_of (List.mem_of_getElem? (i := 395) (by decide +kernel)) (by decide +kernel)
theorem ok_X2_binOf : xYok Y_X2_binOf 1 := ⟨rfl, mc_X2_binOf, mi_X2, by decide +kernel⟩
theorem mm_X2_binOf : Cond.instanceMethod yX2_binOf ∈ xTT := xTT_of (List.mem_of_getElem? (i := 394) (by decide +kernel)) (by decide +kernel)
theorem mv_X2_binOf : Cond.selects RX2 yX2_binOf yX2_binOf ∈ xTT := xTT_of (List.mem_of_getElem? (i := 7) (by decide +kernel)) (by decide +kernel)
theorem mp_X2_binOf : plainName (Y_X2_binOf).1.cls = true := by decide +kernel
theorem mc_X2_closePulse : Cond.code yX2_closePulse cX2_closePulse 2 none ∈ xTT := xTT_of (List.mem_of_getElem? (i := 391) (by decide +kernel)) (by decide +kernel)
theorem ok_X2_closePulse : xYok Y_X2_closePulse 0 := ⟨rfl, mc_X2_closePulse, mi_X2, by decide +kernel⟩
theorem mm_X2_closePulse : Cond.instanceMethod yX2_closePulse ∈ xTT := xTT_of (List.mem_of_getElem? (i := 389) (by decide +kernel)) (by decide +kernel)
theorem mv_X2_closePulse : Cond.selects RX2 yX2_closePulse yX2_closePulse ∈ xTT := xTT_of (List.mem_of_getElem? (i := 390) (by decide +kernel)) (by decide +kernel)
theorem mp_X2_closePulse : plainName (Y_X2_closePulse).1.cls = true := by decide +kernel
theorem mc_X2_copyFrom : Cond.code yX2_copyFrom cX2_copyFrom 2 none ∈ xTT := xTT_of (List.mem_of_getElem? (i := 336) (by decide +kernel)) (by decide +kernel)
theorem ok_X2_copyFrom : xYok Y_X2_copyFrom 1 := ⟨rfl, mc_X2_copyFrom, mi_X2, by decide +kernel⟩
theorem mm_X2_copyFrom : Cond.instanceMethod yX2_copyFrom ∈ xTT := xTT_of (List.mem_of_getElem? (i := 334) (by decide +kernel)) (by decide +kernel)
theorem mv_X2_copyFrom : Cond.selects RX2 yX2_copyFrom yX2_copyFrom ∈ xTT := xTT_of (List.mem_of_getElem? (i := 335) (by decide +kernel)) (by decide +kernel)
theorem mp_X2_copyFrom : plainName (Y_X2_copyFrom).1.cls = true := by decide +kernel
theorem mc_X2_copySetupFrom : Cond.code yX2_copySetupFrom cX2_copySetupFrom 2 none ∈ xTT := xTT_of (List.mem_of_getElem? (i := 340) (by decide +kernel)) (by decide +kernel)
theorem ok_X2_copySetupFrom : xYok Y_X2_copySetupFrom 1 := ⟨rfl, mc_X2_copySetupFrom, mi_X2, by decide +kernel⟩
theorem mm_X2_copySetupFrom : Cond.instanceMethod yX2_copySetupFrom ∈ xTT := xTT_of (List.mem_of_getElem? (i := 338) (by decide +kernel)) (by decide +kernel)
theorem mv_X2_copySetupFrom : Cond.selects RX2 yX2_copySetupFrom yX2_copySetupFrom ∈ xTT := xTT_of (List.mem_of_getElem? (i := 339) (by decide +kernel)) (by decide +kernel)
theorem mp_X2_copySetupFrom : plainName (Y_X2_copySetupFrom).1.cls = true := by decide +kernel
theorem mc_X2_emptyBins : Cond.code yX2_emptyBins cX2_emptyBins 1 none ∈ xTT := xTT_of (List.mem_of_getElem? (i := 809) (by decide +kernel)) (by decide +kernel)
theorem ok_X2_emptyBins : xYok Y_X2_emptyBins 0 := ⟨rfl, mc_X2_emptyBins, mi_X2, by decide +kernel⟩
theorem mm_X2_emptyBins : Cond.instanceMethod yX2_emptyBins ∈ xTT := xTT_of (List.mem_of_getElem? (i := 807) (by decide +kernel)) (by decide +kernel)
theorem mv_X2_emptyBins : Cond.selects RX2 yX2_emptyBins yX2_emptyBins ∈ xTT := xTT_of (List.mem_of_getElem? (i := 808) (by decide +kernel)) (by decide +kernel)
theorem mp_X2_emptyBins : plainName (Y_X2_emptyBins).1.cls = true := by decide +kernel
theorem mc_X2_endByLaw : Cond.code yX2_endByLaw cX2_endByLaw 3 (some .int) ∈ xTT := xTT_of (List.mem_of_getElem? (i := 597) (by decide +kernel)) (by decide +kernel)
theorem ok_X2_endByLaw : xYok Y_X2_endByLaw 2 := ⟨rfl, mc_X2_endByLaw, mi_X2, by decide +kernel⟩
theorem mm_X2_endByLaw : Cond.instanceMethod yX2_endByLaw ∈ xTT := xTT_of (List.mem_of_getElem? (i := 596) (by decide +kernel)) (by decide +kernel)
theorem mv_X2_endByLaw : Cond.selects RX2 yX2_endByLaw yX2_endByLaw ∈ xTT := xTT_of (List.mem_of_getElem? (i := 10) (by decide +kernel)) (by decide +kernel)
theorem mp_X2_endByLaw : plainName (Y_X2_endByLaw).1.cls = true := by decide +kernel
theorem mc_X2_fateOf : Cond.code yX2_fateOf cX2_fateOf 3 (some .int) ∈ xTT := xTT_of (List.mem_of_getElem? (i := 378) (by decide +kernel)) (by decide +kernel)
theorem ok_X2_fateOf : xYok Y_X2_fateOf 2 := ⟨rfl, mc_X2_fateOf, mi_X2, by decide +kernel⟩
theorem mm_X2_fateOf : Cond.instanceMethod yX2_fateOf ∈ xTT := xTT_of (List.mem_of_getElem? (i := 376) (by decide +kernel)) (by decide +kernel)
theorem mv_X2_fateOf : Cond.selects RX2 yX2_fateOf yX2_fateOf ∈ xTT := xTT_of (List.mem_of_getElem? (i := 377) (by decide +kernel)) (by decide +kernel)
theorem mp_X2_fateOf : plainName (Y_X2_fateOf).1.cls = true := by decide +kernel
theorem mc_X2_init : Cond.code yX2_init cX2_init 1 none ∈ xTT := xTT_of (List.mem_of_getElem? (i := 64) (by decide +kernel)) (by decide +kernel)
theorem ok_X2_init : xYok Y_X2_init 0 := ⟨rfl, mc_X2_init, mi_X2, by decide +kernel⟩
theorem mm_X2_init : Cond.instanceMethod yX2_init ∈ xTT := xTT_of (List.mem_of_getElem? (i := 63) (by decide +kernel)) (by decide +kernel)
theorem mp_X2_init : plainName (Y_X2_init).1.cls = true := by decide +kernel
theorem mc_X2_letPass : Cond.code yX2_letPass cX2_letPass 2 none ∈ xTT := xTT_of (List.mem_of_getElem? (i := 417) (by decide +kernel)) (by decide +kernel)
theorem ok_X2_letPass : xYok Y_X2_letPass 1 := ⟨rfl, mc_X2_letPass, mi_X2, by decide +kernel⟩
theorem mm_X2_letPass : Cond.instanceMethod yX2_letPass ∈ xTT := xTT_of (List.mem_of_getElem? (i := 415) (by decide +kernel)) (by decide +kernel)
theorem mv_X2_letPass : Cond.selects RX2 yX2_letPass yX2_letPass ∈ xTT := xTT_of (List.mem_of_getElem? (i := 416) (by decide +kernel)) (by decide +kernel)
theorem mp_X2_letPass : plainName (Y_X2_letPass).1.cls = true := by decide +kernel
theorem mc_X2_levelAt : Cond.code yX2_levelAt cX2_levelAt 4 (some .int) ∈ xTT := xTT_of (List.mem_of_getElem? (i := 382) (by decide +kernel)) (by decide +kernel)
theorem ok_X2_levelAt : xYok Y_X2_levelAt 1 := ⟨rfl, mc_X2_levelAt, mi_X2, by decide +kernel⟩
theorem mm_X2_levelAt : Cond.instanceMethod yX2_levelAt ∈ xTT := xTT_of (List.mem_of_getElem? (i := 380) (by decide +kernel)) (by decide +kernel)
theorem mv_X2_levelAt : Cond.selects RX2 yX2_levelAt yX2_levelAt ∈ xTT := xTT_of (List.mem_of_getElem? (i := 381) (by decide +kernel)) (by decide +kernel)
theorem mp_X2_levelAt : plainName (Y_X2_levelAt).1.cls = true := by decide +kernel
theorem mc_X2_lowerEnd : Cond.code yX2_lowerEnd cX2_lowerEnd 2 (some .int) ∈ xTT := xTT_of (List.mem_of_getElem? (i := 519) (by decide +kernel)) (by decide +kernel)
theorem ok_X2_lowerEnd : xYok Y_X2_lowerEnd 1 := ⟨rfl, mc_X2_lowerEnd, mi_X2, by decide +kernel⟩
theorem mm_X2_lowerEnd : Cond.instanceMethod yX2_lowerEnd ∈ xTT := xTT_of (List.mem_of_getElem? (i := 517) (by decide +kernel)) (by decide +kernel)
theorem mv_X2_lowerEnd : Cond.selects RX2 yX2_lowerEnd yX2_lowerEnd ∈ xTT := xTT_of (List.mem_of_getElem? (i := 518) (by decide +kernel)) (by decide +kernel)
theorem mp_X2_lowerEnd : plainName (Y_X2_lowerEnd).1.cls = true := by decide +kernel
theorem mc_X2_openPulse : Cond.code yX2_openPulse cX2_openPulse 2 none ∈ xTT := xTT_of (List.mem_of_getElem? (i := 399) (by decide +kernel)) (by decide +kernel)
theorem ok_X2_openPulse : xYok Y_X2_openPulse 1 := ⟨rfl, mc_X2_openPulse, mi_X2, by decide +kernel⟩
theorem mm_X2_openPulse : Cond.instanceMethod yX2_openPulse ∈ xTT := xTT_of (List.mem_of_getElem? (i := 398) (by decide +kernel)) (by decide +kernel)
theorem mv_X2_openPulse : Cond.selects RX2 yX2_openPulse yX2_openPulse ∈ xTT := xTT_of (List.mem_of_getElem? (i := 8) (by decide +kernel)) (by decide +kernel)
theorem mp_X2_openPulse : plainName (Y_X2_openPulse).1.cls = true := by decide +kernel
theorem mc_X2_receive : Cond.code yX2_receive cX2_receive 5 (some .int) ∈ xTT := xTT_of (List.mem_of_getElem? (i := 370) (by decide +kernel)) (by decide +kernel)
theorem ok_X2_receive : xYok Y_X2_receive 2 := ⟨rfl, mc_X2_receive, mi_X2, by decide +kernel⟩
theorem mm_X2_receive : Cond.instanceMethod yX2_receive ∈ xTT := xTT_of (List.mem_of_getElem? (i := 368) (by decide +kernel)) (by decide +kernel)
theorem mv_X2_receive : Cond.selects RX2 yX2_receive yX2_receive ∈ xTT := xTT_of (List.mem_of_getElem? (i := 369) (by decide +kernel)) (by decide +kernel)
theorem mp_X2_receive : plainName (Y_X2_receive).1.cls = true := by decide +kernel
theorem mc_X2_reckonedRain : Cond.code yX2_reckonedRain cX2_reckonedRain 5 (some .long) ∈ xTT := xTT_of (List.mem_of_getElem? (i := 593) (by decide +kernel)) (by decide +kernel)
theorem ok_X2_reckonedRain : xYok Y_X2_reckonedRain 1 := ⟨rfl, mc_X2_reckonedRain, mi_X2, by decide +kernel⟩
theorem mm_X2_reckonedRain : Cond.instanceMethod yX2_reckonedRain ∈ xTT := xTT_of (List.mem_of_getElem? (i := 591) (by decide +kernel)) (by decide +kernel)
theorem mv_X2_reckonedRain : Cond.selects RX2 yX2_reckonedRain yX2_reckonedRain ∈ xTT := xTT_of (List.mem_of_getElem? (i := 592) (by decide +kernel)) (by decide +kernel)
theorem mp_X2_reckonedRain : plainName (Y_X2_reckonedRain).1.cls = true := by decide +kernel
theorem mc_X2_strengthOf : Cond.code yX2_strengthOf cX2_strengthOf 2 (some .int) ∈ xTT := xTT_of (List.mem_of_getElem? (i := 374) (by decide +kernel)) (by decide +kernel)
theorem ok_X2_strengthOf : xYok Y_X2_strengthOf 1 := ⟨rfl, mc_X2_strengthOf, mi_X2, by decide +kernel⟩
theorem mm_X2_strengthOf : Cond.instanceMethod yX2_strengthOf ∈ xTT := xTT_of (List.mem_of_getElem? (i := 372) (by decide +kernel)) (by decide +kernel)
theorem mv_X2_strengthOf : Cond.selects RX2 yX2_strengthOf yX2_strengthOf ∈ xTT := xTT_of (List.mem_of_getElem? (i := 373) (by decide +kernel)) (by decide +kernel)
theorem mp_X2_strengthOf : plainName (Y_X2_strengthOf).1.cls = true := by decide +kernel
theorem mc_X2_strike : Cond.code yX2_strike cX2_strike 2 none ∈ xTT := xTT_of (List.mem_of_getElem? (i := 387) (by decide +kernel)) (by decide +kernel)
theorem ok_X2_strike : xYok Y_X2_strike 1 := ⟨rfl, mc_X2_strike, mi_X2, by decide +kernel⟩
theorem mm_X2_strike : Cond.instanceMethod yX2_strike ∈ xTT := xTT_of (List.mem_of_getElem? (i := 386) (by decide +kernel)) (by decide +kernel)
theorem mv_X2_strike : Cond.selects RX2 yX2_strike yX2_strike ∈ xTT := xTT_of (List.mem_of_getElem? (i := 6) (by decide +kernel)) (by decide +kernel)
theorem mp_X2_strike : plainName (Y_X2_strike).1.cls = true := by decide +kernel
theorem mc_X2_upperEnd : Cond.code yX2_upperEnd cX2_upperEnd 2 (some .int) ∈ xTT := xTT_of (List.mem_of_getElem? (i := 523) (by decide +kernel)) (by decide +kernel)
theorem ok_X2_upperEnd : xYok Y_X2_upperEnd 1 := ⟨rfl, mc_X2_upperEnd, mi_X2, by decide +kernel⟩
theorem mm_X2_upperEnd : Cond.instanceMethod yX2_upperEnd ∈ xTT := xTT_of (List.mem_of_getElem? (i := 521) (by decide +kernel)) (by decide +kernel)
theorem mv_X2_upperEnd : Cond.selects RX2 yX2_upperEnd yX2_upperEnd ∈ xTT := xTT_of (List.mem_of_getElem? (i := 522) (by decide +kernel)) (by decide +kernel)
theorem mp_X2_upperEnd : plainName (Y_X2_upperEnd).1.cls = true := by decide +kernel
theorem mc_X2_wouldAscend : Cond.code yX2_wouldAscend cX2_wouldAscend 3 (some .boolean) ∈ xTT := xTT_of (List.mem_of_getElem? (i := 653) (by decide +kernel)) (by decide +kernel)
theorem ok_X2_wouldAscend : xYok Y_X2_wouldAscend 2 := ⟨rfl, mc_X2_wouldAscend, mi_X2, by decide +kernel⟩
theorem mm_X2_wouldAscend : Cond.instanceMethod yX2_wouldAscend ∈ xTT := xTT_of (List.mem_of_getElem? (i := 651) (by decide +kernel)) (by decide +kernel)
theorem mv_X2_wouldAscend : Cond.selects RX2 yX2_wouldAscend yX2_wouldAscend ∈ xTT := xTT_of (List.mem_of_getElem? (i := 652) (by decide +kernel)) (by decide +kernel)
theorem mp_X2_wouldAscend : plainName (Y_X2_wouldAscend).1.cls = true := by decide +kernel
theorem mc_X3_copyFrom : Cond.code yX3_copyFrom cX3_copyFrom 2 none ∈ xTT := xTT_of (List.mem_of_getElem? (i := 332) (by decide +kernel)) (by decide +kernel)
theorem ok_X3_copyFrom : xYok Y_X3_copyFrom 1 := ⟨rfl, mc_X3_copyFrom, mi_X3, by decide +kernel⟩
theorem mm_X3_copyFrom : Cond.instanceMethod yX3_copyFrom ∈ xTT := xTT_of (List.mem_of_getElem? (i := 330) (by decide +kernel)) (by decide +kernel)
theorem mv_X3_copyFrom : Cond.selects RX3 yX3_copyFrom yX3_copyFrom ∈ xTT := xTT_of (List.mem_of_getElem? (i := 331) (by decide +kernel)) (by decide +kernel)
theorem mp_X3_copyFrom : plainName (Y_X3_copyFrom).1.cls = true := by decide +kernel
theorem mc_X3_init : Cond.code yX3_init cX3_init 1 none ∈ xTT := xTT_of (List.mem_of_getElem? (i := 58) (by decide +kernel)) (by decide +kernel)
theorem ok_X3_init : xYok Y_X3_init 0 := ⟨rfl, mc_X3_init, mi_X3, by decide +kernel⟩
theorem mm_X3_init : Cond.instanceMethod yX3_init ∈ xTT := xTT_of (List.mem_of_getElem? (i := 57) (by decide +kernel)) (by decide +kernel)
theorem mp_X3_init : plainName (Y_X3_init).1.cls = true := by decide +kernel
theorem mc_X3_letFall : Cond.code yX3_letFall cX3_letFall 4 (some .int) ∈ xTT := xTT_of (List.mem_of_getElem? (i := 366) (by decide +kernel)) (by decide +kernel)
theorem ok_X3_letFall : xYok Y_X3_letFall 2 := ⟨rfl, mc_X3_letFall, mi_X3, by decide +kernel⟩
theorem mm_X3_letFall : Cond.instanceMethod yX3_letFall ∈ xTT := xTT_of (List.mem_of_getElem? (i := 364) (by decide +kernel)) (by decide +kernel)
theorem mv_X3_letFall : Cond.selects RX3 yX3_letFall yX3_letFall ∈ xTT := xTT_of (List.mem_of_getElem? (i := 365) (by decide +kernel)) (by decide +kernel)
theorem mp_X3_letFall : plainName (Y_X3_letFall).1.cls = true := by decide +kernel
theorem mc_X4_add : Cond.code yX4_add cX4_add 2 (some .int) ∈ xTT := xTT_of (List.mem_of_getElem? (i := 771) (by decide +kernel)) (by decide +kernel)
theorem ok_X4_add : xYok Y_X4_add 1 := ⟨rfl, mc_X4_add, mi_X4, by decide +kernel⟩
theorem mm_X4_add : Cond.instanceMethod yX4_add ∈ xTT := xTT_of (List.mem_of_getElem? (i := 769) (by decide +kernel)) (by decide +kernel)
theorem mv_X4_add : Cond.selects RX4 yX4_add yX4_add ∈ xTT := xTT_of (List.mem_of_getElem? (i := 770) (by decide +kernel)) (by decide +kernel)
theorem mp_X4_add : plainName (Y_X4_add).1.cls = true := by decide +kernel
theorem mc_X4_digitAt : Cond.code yX4_digitAt cX4_digitAt 2 (some .int) ∈ xTT := xTT_of (List.mem_of_getElem? (i := 245) (by decide +kernel)) (by decide +kernel)
theorem ok_X4_digitAt : xYok Y_X4_digitAt 1 := ⟨rfl, mc_X4_digitAt, mi_X4, by decide +kernel⟩
theorem mm_X4_digitAt : Cond.instanceMethod yX4_digitAt ∈ xTT := xTT_of (List.mem_of_getElem? (i := 243) (by decide +kernel)) (by decide +kernel)
theorem mv_X4_digitAt : Cond.selects RX4 yX4_digitAt yX4_digitAt ∈ xTT := xTT_of (List.mem_of_getElem? (i := 244) (by decide +kernel)) (by decide +kernel)
theorem mp_X4_digitAt : plainName (Y_X4_digitAt).1.cls = true := by decide +kernel
theorem mc_X4_errorInDrop : Cond.code yX4_errorInDrop cX4_errorInDrop 3 (some .int) ∈ xTT := xTT_of (List.mem_of_getElem? (i := 237) (by decide +kernel)) (by decide +kernel)
theorem ok_X4_errorInDrop : xYok Y_X4_errorInDrop 1 := ⟨rfl, mc_X4_errorInDrop, mi_X4, by decide +kernel⟩
theorem mm_X4_errorInDrop : Cond.instanceMethod yX4_errorInDrop ∈ xTT := xTT_of (List.mem_of_getElem? (i := 236) (by decide +kernel)) (by decide +kernel)
theorem mv_X4_errorInDrop : Cond.selects RX4 yX4_errorInDrop yX4_errorInDrop ∈ xTT := xTT_of (List.mem_of_getElem? (i := 1) (by decide +kernel)) (by decide +kernel)
theorem mp_X4_errorInDrop : plainName (Y_X4_errorInDrop).1.cls = true := by decide +kernel
theorem mc_X4_errorInNumber : Cond.code yX4_errorInNumber cX4_errorInNumber 9 (some .int) ∈ xTT := xTT_of (List.mem_of_getElem? (i := 241) (by decide +kernel)) (by decide +kernel)
theorem ok_X4_errorInNumber : xYok Y_X4_errorInNumber 4 := ⟨rfl, mc_X4_errorInNumber, mi_X4, by decide +kernel⟩
theorem mm_X4_errorInNumber : Cond.instanceMethod yX4_errorInNumber ∈ xTT := xTT_of (List.mem_of_getElem? (i := 240) (by decide +kernel)) (by decide +kernel)
theorem mv_X4_errorInNumber : Cond.selects RX4 yX4_errorInNumber yX4_errorInNumber ∈ xTT := xTT_of (List.mem_of_getElem? (i := 2) (by decide +kernel)) (by decide +kernel)
theorem mp_X4_errorInNumber : plainName (Y_X4_errorInNumber).1.cls = true := by decide +kernel
theorem mc_X4_errorInPart : Cond.code yX4_errorInPart cX4_errorInPart 2 (some .int) ∈ xTT := xTT_of (List.mem_of_getElem? (i := 233) (by decide +kernel)) (by decide +kernel)
theorem ok_X4_errorInPart : xYok Y_X4_errorInPart 1 := ⟨rfl, mc_X4_errorInPart, mi_X4, by decide +kernel⟩
theorem mm_X4_errorInPart : Cond.instanceMethod yX4_errorInPart ∈ xTT := xTT_of (List.mem_of_getElem? (i := 232) (by decide +kernel)) (by decide +kernel)
theorem mv_X4_errorInPart : Cond.selects RX4 yX4_errorInPart yX4_errorInPart ∈ xTT := xTT_of (List.mem_of_getElem? (i := 0) (by decide +kernel)) (by decide +kernel)
theorem mp_X4_errorInPart : plainName (Y_X4_errorInPart).1.cls = true := by decide +kernel
theorem mc_X4_errorInSetting : Cond.code yX4_errorInSetting cX4_errorInSetting 4 (some .int) ∈ xTT := xTT_of (List.mem_of_getElem? (i := 252) (by decide +kernel)) (by decide +kernel)
theorem ok_X4_errorInSetting : xYok Y_X4_errorInSetting 3 := ⟨rfl, mc_X4_errorInSetting, mi_X4, by decide +kernel⟩
theorem mm_X4_errorInSetting : Cond.instanceMethod yX4_errorInSetting ∈ xTT := xTT_of (List.mem_of_getElem? (i := 251) (by decide +kernel)) (by decide +kernel)
theorem mv_X4_errorInSetting : Cond.selects RX4 yX4_errorInSetting yX4_errorInSetting ∈ xTT := xTT_of (List.mem_of_getElem? (i := 3) (by decide +kernel)) (by decide +kernel)
theorem mp_X4_errorInSetting : plainName (Y_X4_errorInSetting).1.cls = true := by decide +kernel
theorem mc_X4_firstError : Cond.code yX4_firstError cX4_firstError 4 (some .int) ∈ xTT := xTT_of (List.mem_of_getElem? (i := 225) (by decide +kernel)) (by decide +kernel)
theorem ok_X4_firstError : xYok Y_X4_firstError 0 := ⟨rfl, mc_X4_firstError, mi_X4, by decide +kernel⟩
theorem mm_X4_firstError : Cond.instanceMethod yX4_firstError ∈ xTT := xTT_of (List.mem_of_getElem? (i := 223) (by decide +kernel)) (by decide +kernel)
theorem mv_X4_firstError : Cond.selects RX4 yX4_firstError yX4_firstError ∈ xTT := xTT_of (List.mem_of_getElem? (i := 224) (by decide +kernel)) (by decide +kernel)
theorem mp_X4_firstError : plainName (Y_X4_firstError).1.cls = true := by decide +kernel
theorem mc_X4_init : Cond.code yX4_init cX4_init 1 none ∈ xTT := xTT_of (List.mem_of_getElem? (i := 43) (by decide +kernel)) (by decide +kernel)
theorem ok_X4_init : xYok Y_X4_init 0 := ⟨rfl, mc_X4_init, mi_X4, by decide +kernel⟩
theorem mm_X4_init : Cond.instanceMethod yX4_init ∈ xTT := xTT_of (List.mem_of_getElem? (i := 42) (by decide +kernel)) (by decide +kernel)
theorem mp_X4_init : plainName (Y_X4_init).1.cls = true := by decide +kernel
theorem mc_X4_isFull : Cond.code yX4_isFull cX4_isFull 1 (some .boolean) ∈ xTT := xTT_of (List.mem_of_getElem? (i := 766) (by decide +kernel)) (by decide +kernel)
theorem ok_X4_isFull : xYok Y_X4_isFull 0 := ⟨rfl, mc_X4_isFull, mi_X4, by decide +kernel⟩
theorem mm_X4_isFull : Cond.instanceMethod yX4_isFull ∈ xTT := xTT_of (List.mem_of_getElem? (i := 764) (by decide +kernel)) (by decide +kernel)
theorem mv_X4_isFull : Cond.selects RX4 yX4_isFull yX4_isFull ∈ xTT := xTT_of (List.mem_of_getElem? (i := 765) (by decide +kernel)) (by decide +kernel)
theorem mp_X4_isFull : plainName (Y_X4_isFull).1.cls = true := by decide +kernel
theorem mc_X4_numberAt : Cond.code yX4_numberAt cX4_numberAt 2 (some .int) ∈ xTT := xTT_of (List.mem_of_getElem? (i := 361) (by decide +kernel)) (by decide +kernel)
theorem ok_X4_numberAt : xYok Y_X4_numberAt 1 := ⟨rfl, mc_X4_numberAt, mi_X4, by decide +kernel⟩
theorem mm_X4_numberAt : Cond.instanceMethod yX4_numberAt ∈ xTT := xTT_of (List.mem_of_getElem? (i := 359) (by decide +kernel)) (by decide +kernel)
theorem mv_X4_numberAt : Cond.selects RX4 yX4_numberAt yX4_numberAt ∈ xTT := xTT_of (List.mem_of_getElem? (i := 360) (by decide +kernel)) (by decide +kernel)
theorem mp_X4_numberAt : plainName (Y_X4_numberAt).1.cls = true := by decide +kernel
theorem mc_X4_partLength : Cond.code yX4_partLength cX4_partLength 2 (some .int) ∈ xTT := xTT_of (List.mem_of_getElem? (i := 260) (by decide +kernel)) (by decide +kernel)
theorem ok_X4_partLength : xYok Y_X4_partLength 1 := ⟨rfl, mc_X4_partLength, mi_X4, by decide +kernel⟩
theorem mm_X4_partLength : Cond.instanceMethod yX4_partLength ∈ xTT := xTT_of (List.mem_of_getElem? (i := 258) (by decide +kernel)) (by decide +kernel)
theorem mv_X4_partLength : Cond.selects RX4 yX4_partLength yX4_partLength ∈ xTT := xTT_of (List.mem_of_getElem? (i := 259) (by decide +kernel)) (by decide +kernel)
theorem mp_X4_partLength : plainName (Y_X4_partLength).1.cls = true := by decide +kernel
theorem mc_X4_signAt : Cond.code yX4_signAt cX4_signAt 2 (some .int) ∈ xTT := xTT_of (List.mem_of_getElem? (i := 229) (by decide +kernel)) (by decide +kernel)
theorem ok_X4_signAt : xYok Y_X4_signAt 1 := ⟨rfl, mc_X4_signAt, mi_X4, by decide +kernel⟩
theorem mm_X4_signAt : Cond.instanceMethod yX4_signAt ∈ xTT := xTT_of (List.mem_of_getElem? (i := 227) (by decide +kernel)) (by decide +kernel)
theorem mv_X4_signAt : Cond.selects RX4 yX4_signAt yX4_signAt ∈ xTT := xTT_of (List.mem_of_getElem? (i := 228) (by decide +kernel)) (by decide +kernel)
theorem mp_X4_signAt : plainName (Y_X4_signAt).1.cls = true := by decide +kernel
theorem mc_X4_wipe : Cond.code yX4_wipe cX4_wipe 2 (some .int) ∈ xTT := xTT_of (List.mem_of_getElem? (i := 831) (by decide +kernel)) (by decide +kernel)
theorem ok_X4_wipe : xYok Y_X4_wipe 0 := ⟨rfl, mc_X4_wipe, mi_X4, by decide +kernel⟩
theorem mm_X4_wipe : Cond.instanceMethod yX4_wipe ∈ xTT := xTT_of (List.mem_of_getElem? (i := 829) (by decide +kernel)) (by decide +kernel)
theorem mv_X4_wipe : Cond.selects RX4 yX4_wipe yX4_wipe ∈ xTT := xTT_of (List.mem_of_getElem? (i := 830) (by decide +kernel)) (by decide +kernel)
theorem mp_X4_wipe : plainName (Y_X4_wipe).1.cls = true := by decide +kernel
theorem mc_X5_about : Cond.code yX5_about cX5_about 4 (some .int) ∈ xTT := xTT_of (List.mem_of_getElem? (i := 476) (by decide +kernel)) (by decide +kernel)
theorem ok_X5_about : xYok Y_X5_about 1 := ⟨rfl, mc_X5_about, mi_X5, by decide +kernel⟩
theorem mm_X5_about : Cond.instanceMethod yX5_about ∈ xTT := xTT_of (List.mem_of_getElem? (i := 474) (by decide +kernel)) (by decide +kernel)
theorem mv_X5_about : Cond.selects RX5 yX5_about yX5_about ∈ xTT := xTT_of (List.mem_of_getElem? (i := 475) (by decide +kernel)) (by decide +kernel)
theorem mp_X5_about : plainName (Y_X5_about).1.cls = true := by decide +kernel
theorem mc_X5_append : Cond.code yX5_append cX5_append 2 (some .int) ∈ xTT := xTT_of (List.mem_of_getElem? (i := 761) (by decide +kernel)) (by decide +kernel)
theorem ok_X5_append : xYok Y_X5_append 1 := ⟨rfl, mc_X5_append, mi_X5, by decide +kernel⟩
theorem mm_X5_append : Cond.instanceMethod yX5_append ∈ xTT := xTT_of (List.mem_of_getElem? (i := 759) (by decide +kernel)) (by decide +kernel)
theorem mv_X5_append : Cond.selects RX5 yX5_append yX5_append ∈ xTT := xTT_of (List.mem_of_getElem? (i := 760) (by decide +kernel)) (by decide +kernel)
theorem mp_X5_append : plainName (Y_X5_append).1.cls = true := by decide +kernel
theorem mc_X5_areFates : Cond.code yX5_areFates cX5_areFates 4 (some .boolean) ∈ xTT := xTT_of (List.mem_of_getElem? (i := 572) (by decide +kernel)) (by decide +kernel)
theorem ok_X5_areFates : xYok Y_X5_areFates 2 := ⟨rfl, mc_X5_areFates, mi_X5, by decide +kernel⟩
theorem mt_X5_areFates : Cond.static yX5_areFates ∈ xTT := xTT_of (List.mem_of_getElem? (i := 571) (by decide +kernel)) (by decide +kernel)
theorem mp_X5_areFates : plainName (Y_X5_areFates).1.cls = true := by decide +kernel
theorem mc_X5_bestWindow : Cond.code yX5_bestWindow cX5_bestWindow 10 (some .int) ∈ xTT := xTT_of (List.mem_of_getElem? (i := 701) (by decide +kernel)) (by decide +kernel)
theorem ok_X5_bestWindow : xYok Y_X5_bestWindow 1 := ⟨rfl, mc_X5_bestWindow, mi_X5, by decide +kernel⟩
theorem mm_X5_bestWindow : Cond.instanceMethod yX5_bestWindow ∈ xTT := xTT_of (List.mem_of_getElem? (i := 699) (by decide +kernel)) (by decide +kernel)
theorem mv_X5_bestWindow : Cond.selects RX5 yX5_bestWindow yX5_bestWindow ∈ xTT := xTT_of (List.mem_of_getElem? (i := 700) (by decide +kernel)) (by decide +kernel)
theorem mp_X5_bestWindow : plainName (Y_X5_bestWindow).1.cls = true := by decide +kernel
theorem mc_X5_bin : Cond.code yX5_bin cX5_bin 4 (some .int) ∈ xTT := xTT_of (List.mem_of_getElem? (i := 514) (by decide +kernel)) (by decide +kernel)
theorem ok_X5_bin : xYok Y_X5_bin 2 := ⟨rfl, mc_X5_bin, mi_X5, by decide +kernel⟩
theorem mm_X5_bin : Cond.instanceMethod yX5_bin ∈ xTT := xTT_of (List.mem_of_getElem? (i := 512) (by decide +kernel)) (by decide +kernel)
theorem mv_X5_bin : Cond.selects RX5 yX5_bin yX5_bin ∈ xTT := xTT_of (List.mem_of_getElem? (i := 513) (by decide +kernel)) (by decide +kernel)
theorem mp_X5_bin : plainName (Y_X5_bin).1.cls = true := by decide +kernel
theorem mc_X5_clearRow : Cond.code yX5_clearRow cX5_clearRow 2 none ∈ xTT := xTT_of (List.mem_of_getElem? (i := 812) (by decide +kernel)) (by decide +kernel)
theorem ok_X5_clearRow : xYok Y_X5_clearRow 1 := ⟨rfl, mc_X5_clearRow, mi_X5, by decide +kernel⟩
theorem mt_X5_clearRow : Cond.static yX5_clearRow ∈ xTT := xTT_of (List.mem_of_getElem? (i := 811) (by decide +kernel)) (by decide +kernel)
theorem mp_X5_clearRow : plainName (Y_X5_clearRow).1.cls = true := by decide +kernel
theorem mc_X5_clearText : Cond.code yX5_clearText cX5_clearText 1 (some .int) ∈ xTT := xTT_of (List.mem_of_getElem? (i := 827) (by decide +kernel)) (by decide +kernel)
theorem ok_X5_clearText : xYok Y_X5_clearText 0 := ⟨rfl, mc_X5_clearText, mi_X5, by decide +kernel⟩
theorem mm_X5_clearText : Cond.instanceMethod yX5_clearText ∈ xTT := xTT_of (List.mem_of_getElem? (i := 825) (by decide +kernel)) (by decide +kernel)
theorem mv_X5_clearText : Cond.selects RX5 yX5_clearText yX5_clearText ∈ xTT := xTT_of (List.mem_of_getElem? (i := 826) (by decide +kernel)) (by decide +kernel)
theorem mp_X5_clearText : plainName (Y_X5_clearText).1.cls = true := by decide +kernel
theorem mc_X5_copyRow : Cond.code yX5_copyRow cX5_copyRow 3 none ∈ xTT := xTT_of (List.mem_of_getElem? (i := 343) (by decide +kernel)) (by decide +kernel)
theorem ok_X5_copyRow : xYok Y_X5_copyRow 2 := ⟨rfl, mc_X5_copyRow, mi_X5, by decide +kernel⟩
theorem mt_X5_copyRow : Cond.static yX5_copyRow ∈ xTT := xTT_of (List.mem_of_getElem? (i := 342) (by decide +kernel)) (by decide +kernel)
theorem mp_X5_copyRow : plainName (Y_X5_copyRow).1.cls = true := by decide +kernel
theorem mc_X5_cube : Cond.code yX5_cube cX5_cube 1 (some .long) ∈ xTT := xTT_of (List.mem_of_getElem? (i := 406) (by decide +kernel)) (by decide +kernel)
theorem ok_X5_cube : xYok Y_X5_cube 1 := ⟨rfl, mc_X5_cube, mi_X5, by decide +kernel⟩
theorem mt_X5_cube : Cond.static yX5_cube ∈ xTT := xTT_of (List.mem_of_getElem? (i := 405) (by decide +kernel)) (by decide +kernel)
theorem mp_X5_cube : plainName (Y_X5_cube).1.cls = true := by decide +kernel
theorem mc_X5_drop : Cond.code yX5_drop cX5_drop 3 (some .int) ∈ xTT := xTT_of (List.mem_of_getElem? (i := 610) (by decide +kernel)) (by decide +kernel)
theorem ok_X5_drop : xYok Y_X5_drop 2 := ⟨rfl, mc_X5_drop, mi_X5, by decide +kernel⟩
theorem mm_X5_drop : Cond.instanceMethod yX5_drop ∈ xTT := xTT_of (List.mem_of_getElem? (i := 608) (by decide +kernel)) (by decide +kernel)
theorem mv_X5_drop : Cond.selects RX5 yX5_drop yX5_drop ∈ xTT := xTT_of (List.mem_of_getElem? (i := 609) (by decide +kernel)) (by decide +kernel)
theorem mp_X5_drop : plainName (Y_X5_drop).1.cls = true := by decide +kernel
theorem mc_X5_empty : Cond.code yX5_empty cX5_empty 2 (some .int) ∈ xTT := xTT_of (List.mem_of_getElem? (i := 805) (by decide +kernel)) (by decide +kernel)
theorem ok_X5_empty : xYok Y_X5_empty 0 := ⟨rfl, mc_X5_empty, mi_X5, by decide +kernel⟩
theorem mm_X5_empty : Cond.instanceMethod yX5_empty ∈ xTT := xTT_of (List.mem_of_getElem? (i := 803) (by decide +kernel)) (by decide +kernel)
theorem mv_X5_empty : Cond.selects RX5 yX5_empty yX5_empty ∈ xTT := xTT_of (List.mem_of_getElem? (i := 804) (by decide +kernel)) (by decide +kernel)
theorem mp_X5_empty : plainName (Y_X5_empty).1.cls = true := by decide +kernel
theorem mc_X5_errorPosition : Cond.code yX5_errorPosition cX5_errorPosition 1 (some .int) ∈ xTT := xTT_of (List.mem_of_getElem? (i := 819) (by decide +kernel)) (by decide +kernel)
theorem ok_X5_errorPosition : xYok Y_X5_errorPosition 0 := ⟨rfl, mc_X5_errorPosition, mi_X5, by decide +kernel⟩
theorem mm_X5_errorPosition : Cond.instanceMethod yX5_errorPosition ∈ xTT := xTT_of (List.mem_of_getElem? (i := 817) (by decide +kernel)) (by decide +kernel)
theorem mv_X5_errorPosition : Cond.selects RX5 yX5_errorPosition yX5_errorPosition ∈ xTT := xTT_of (List.mem_of_getElem? (i := 818) (by decide +kernel)) (by decide +kernel)
theorem mp_X5_errorPosition : plainName (Y_X5_errorPosition).1.cls = true := by decide +kernel
theorem mc_X5_fate : Cond.code yX5_fate cX5_fate 2 (some .int) ∈ xTT := xTT_of (List.mem_of_getElem? (i := 539) (by decide +kernel)) (by decide +kernel)
theorem ok_X5_fate : xYok Y_X5_fate 1 := ⟨rfl, mc_X5_fate, mi_X5, by decide +kernel⟩
theorem mm_X5_fate : Cond.instanceMethod yX5_fate ∈ xTT := xTT_of (List.mem_of_getElem? (i := 537) (by decide +kernel)) (by decide +kernel)
theorem mv_X5_fate : Cond.selects RX5 yX5_fate yX5_fate ∈ xTT := xTT_of (List.mem_of_getElem? (i := 538) (by decide +kernel)) (by decide +kernel)
theorem mp_X5_fate : plainName (Y_X5_fate).1.cls = true := by decide +kernel
theorem mc_X5_init : Cond.code yX5_init cX5_init 2 none ∈ xTT := xTT_of (List.mem_of_getElem? (i := 35) (by decide +kernel)) (by decide +kernel)
theorem ok_X5_init : xYok Y_X5_init 0 := ⟨rfl, mc_X5_init, mi_X5, by decide +kernel⟩
theorem mm_X5_init : Cond.instanceMethod yX5_init ∈ xTT := xTT_of (List.mem_of_getElem? (i := 34) (by decide +kernel)) (by decide +kernel)
theorem mp_X5_init : plainName (Y_X5_init).1.cls = true := by decide +kernel
theorem mc_X5_isFall : Cond.code yX5_isFall cX5_isFall 2 (some .boolean) ∈ xTT := xTT_of (List.mem_of_getElem? (i := 613) (by decide +kernel)) (by decide +kernel)
theorem ok_X5_isFall : xYok Y_X5_isFall 2 := ⟨rfl, mc_X5_isFall, mi_X5, by decide +kernel⟩
theorem mt_X5_isFall : Cond.static yX5_isFall ∈ xTT := xTT_of (List.mem_of_getElem? (i := 612) (by decide +kernel)) (by decide +kernel)
theorem mp_X5_isFall : plainName (Y_X5_isFall).1.cls = true := by decide +kernel
theorem mc_X5_isOutside : Cond.code yX5_isOutside cX5_isOutside 3 (some .boolean) ∈ xTT := xTT_of (List.mem_of_getElem? (i := 248) (by decide +kernel)) (by decide +kernel)
theorem ok_X5_isOutside : xYok Y_X5_isOutside 3 := ⟨rfl, mc_X5_isOutside, mi_X5, by decide +kernel⟩
theorem mt_X5_isOutside : Cond.static yX5_isOutside ∈ xTT := xTT_of (List.mem_of_getElem? (i := 247) (by decide +kernel)) (by decide +kernel)
theorem mp_X5_isOutside : plainName (Y_X5_isOutside).1.cls = true := by decide +kernel
theorem mc_X5_isSetting : Cond.code yX5_isSetting cX5_isSetting 2 (some .boolean) ∈ xTT := xTT_of (List.mem_of_getElem? (i := 637) (by decide +kernel)) (by decide +kernel)
theorem ok_X5_isSetting : xYok Y_X5_isSetting 2 := ⟨rfl, mc_X5_isSetting, mi_X5, by decide +kernel⟩
theorem mt_X5_isSetting : Cond.static yX5_isSetting ∈ xTT := xTT_of (List.mem_of_getElem? (i := 636) (by decide +kernel)) (by decide +kernel)
theorem mp_X5_isSetting : plainName (Y_X5_isSetting).1.cls = true := by decide +kernel
theorem mc_X5_leastSize : Cond.code yX5_leastSize cX5_leastSize 4 (some .int) ∈ xTT := xTT_of (List.mem_of_getElem? (i := 670) (by decide +kernel)) (by decide +kernel)
theorem ok_X5_leastSize : xYok Y_X5_leastSize 1 := ⟨rfl, mc_X5_leastSize, mi_X5, by decide +kernel⟩
theorem mm_X5_leastSize : Cond.instanceMethod yX5_leastSize ∈ xTT := xTT_of (List.mem_of_getElem? (i := 668) (by decide +kernel)) (by decide +kernel)
theorem mv_X5_leastSize : Cond.selects RX5 yX5_leastSize yX5_leastSize ∈ xTT := xTT_of (List.mem_of_getElem? (i := 669) (by decide +kernel)) (by decide +kernel)
theorem mp_X5_leastSize : plainName (Y_X5_leastSize).1.cls = true := by decide +kernel
theorem mc_X5_load : Cond.code yX5_load cX5_load 3 (some .int) ∈ xTT := xTT_of (List.mem_of_getElem? (i := 221) (by decide +kernel)) (by decide +kernel)
theorem ok_X5_load : xYok Y_X5_load 0 := ⟨rfl, mc_X5_load, mi_X5, by decide +kernel⟩
theorem mm_X5_load : Cond.instanceMethod yX5_load ∈ xTT := xTT_of (List.mem_of_getElem? (i := 219) (by decide +kernel)) (by decide +kernel)
theorem mv_X5_load : Cond.selects RX5 yX5_load yX5_load ∈ xTT := xTT_of (List.mem_of_getElem? (i := 220) (by decide +kernel)) (by decide +kernel)
theorem mp_X5_load : plainName (Y_X5_load).1.cls = true := by decide +kernel
theorem mc_X5_longest : Cond.code yX5_longest cX5_longest 2 (some .int) ∈ xTT := xTT_of (List.mem_of_getElem? (i := 555) (by decide +kernel)) (by decide +kernel)
theorem ok_X5_longest : xYok Y_X5_longest 1 := ⟨rfl, mc_X5_longest, mi_X5, by decide +kernel⟩
theorem mm_X5_longest : Cond.instanceMethod yX5_longest ∈ xTT := xTT_of (List.mem_of_getElem? (i := 553) (by decide +kernel)) (by decide +kernel)
theorem mv_X5_longest : Cond.selects RX5 yX5_longest yX5_longest ∈ xTT := xTT_of (List.mem_of_getElem? (i := 554) (by decide +kernel)) (by decide +kernel)
theorem mp_X5_longest : plainName (Y_X5_longest).1.cls = true := by decide +kernel
theorem mc_X5_pass : Cond.code yX5_pass cX5_pass 2 (some .int) ∈ xTT := xTT_of (List.mem_of_getElem? (i := 626) (by decide +kernel)) (by decide +kernel)
theorem ok_X5_pass : xYok Y_X5_pass 1 := ⟨rfl, mc_X5_pass, mi_X5, by decide +kernel⟩
theorem mm_X5_pass : Cond.instanceMethod yX5_pass ∈ xTT := xTT_of (List.mem_of_getElem? (i := 624) (by decide +kernel)) (by decide +kernel)
theorem mv_X5_pass : Cond.selects RX5 yX5_pass yX5_pass ∈ xTT := xTT_of (List.mem_of_getElem? (i := 625) (by decide +kernel)) (by decide +kernel)
theorem mp_X5_pass : plainName (Y_X5_pass).1.cls = true := by decide +kernel
theorem mc_X5_pattern : Cond.code yX5_pattern cX5_pattern 3 (some .int) ∈ xTT := xTT_of (List.mem_of_getElem? (i := 568) (by decide +kernel)) (by decide +kernel)
theorem ok_X5_pattern : xYok Y_X5_pattern 2 := ⟨rfl, mc_X5_pattern, mi_X5, by decide +kernel⟩
theorem mm_X5_pattern : Cond.instanceMethod yX5_pattern ∈ xTT := xTT_of (List.mem_of_getElem? (i := 566) (by decide +kernel)) (by decide +kernel)
theorem mv_X5_pattern : Cond.selects RX5 yX5_pattern yX5_pattern ∈ xTT := xTT_of (List.mem_of_getElem? (i := 567) (by decide +kernel)) (by decide +kernel)
theorem mp_X5_pattern : plainName (Y_X5_pattern).1.cls = true := by decide +kernel
theorem mc_X5_pulse : Cond.code yX5_pulse cX5_pulse 3 (some .int) ∈ xTT := xTT_of (List.mem_of_getElem? (i := 531) (by decide +kernel)) (by decide +kernel)
theorem ok_X5_pulse : xYok Y_X5_pulse 1 := ⟨rfl, mc_X5_pulse, mi_X5, by decide +kernel⟩
theorem mm_X5_pulse : Cond.instanceMethod yX5_pulse ∈ xTT := xTT_of (List.mem_of_getElem? (i := 529) (by decide +kernel)) (by decide +kernel)
theorem mv_X5_pulse : Cond.selects RX5 yX5_pulse yX5_pulse ∈ xTT := xTT_of (List.mem_of_getElem? (i := 530) (by decide +kernel)) (by decide +kernel)
theorem mp_X5_pulse : plainName (Y_X5_pulse).1.cls = true := by decide +kernel
theorem mc_X5_quietIn : Cond.code yX5_quietIn cX5_quietIn 4 (some .int) ∈ xTT := xTT_of (List.mem_of_getElem? (i := 678) (by decide +kernel)) (by decide +kernel)
theorem ok_X5_quietIn : xYok Y_X5_quietIn 1 := ⟨rfl, mc_X5_quietIn, mi_X5, by decide +kernel⟩
theorem mm_X5_quietIn : Cond.instanceMethod yX5_quietIn ∈ xTT := xTT_of (List.mem_of_getElem? (i := 676) (by decide +kernel)) (by decide +kernel)
theorem mv_X5_quietIn : Cond.selects RX5 yX5_quietIn yX5_quietIn ∈ xTT := xTT_of (List.mem_of_getElem? (i := 677) (by decide +kernel)) (by decide +kernel)
theorem mp_X5_quietIn : plainName (Y_X5_quietIn).1.cls = true := by decide +kernel
theorem mc_X5_rain : Cond.code yX5_rain cX5_rain 2 (some .long) ∈ xTT := xTT_of (List.mem_of_getElem? (i := 588) (by decide +kernel)) (by decide +kernel)
theorem ok_X5_rain : xYok Y_X5_rain 1 := ⟨rfl, mc_X5_rain, mi_X5, by decide +kernel⟩
theorem mm_X5_rain : Cond.instanceMethod yX5_rain ∈ xTT := xTT_of (List.mem_of_getElem? (i := 586) (by decide +kernel)) (by decide +kernel)
theorem mv_X5_rain : Cond.selects RX5 yX5_rain yX5_rain ∈ xTT := xTT_of (List.mem_of_getElem? (i := 587) (by decide +kernel)) (by decide +kernel)
theorem mp_X5_rain : plainName (Y_X5_rain).1.cls = true := by decide +kernel
theorem mc_X5_remember : Cond.code yX5_remember cX5_remember 1 none ∈ xTT := xTT_of (List.mem_of_getElem? (i := 618) (by decide +kernel)) (by decide +kernel)
theorem ok_X5_remember : xYok Y_X5_remember 0 := ⟨rfl, mc_X5_remember, mi_X5, by decide +kernel⟩
theorem mm_X5_remember : Cond.instanceMethod yX5_remember ∈ xTT := xTT_of (List.mem_of_getElem? (i := 617) (by decide +kernel)) (by decide +kernel)
theorem mv_X5_remember : Cond.selects RX5 yX5_remember yX5_remember ∈ xTT := xTT_of (List.mem_of_getElem? (i := 11) (by decide +kernel)) (by decide +kernel)
theorem mp_X5_remember : plainName (Y_X5_remember).1.cls = true := by decide +kernel
theorem mc_X5_replay : Cond.code yX5_replay cX5_replay 4 (some .int) ∈ xTT := xTT_of (List.mem_of_getElem? (i := 686) (by decide +kernel)) (by decide +kernel)
theorem ok_X5_replay : xYok Y_X5_replay 3 := ⟨rfl, mc_X5_replay, mi_X5, by decide +kernel⟩
theorem mm_X5_replay : Cond.instanceMethod yX5_replay ∈ xTT := xTT_of (List.mem_of_getElem? (i := 684) (by decide +kernel)) (by decide +kernel)
theorem mv_X5_replay : Cond.selects RX5 yX5_replay yX5_replay ∈ xTT := xTT_of (List.mem_of_getElem? (i := 685) (by decide +kernel)) (by decide +kernel)
theorem mp_X5_replay : plainName (Y_X5_replay).1.cls = true := by decide +kernel
theorem mc_X5_replayRecord : Cond.code yX5_replayRecord cX5_replayRecord 8 (some .int) ∈ xTT := xTT_of (List.mem_of_getElem? (i := 691) (by decide +kernel)) (by decide +kernel)
theorem ok_X5_replayRecord : xYok Y_X5_replayRecord 3 := ⟨rfl, mc_X5_replayRecord, mi_X5, by decide +kernel⟩
theorem mm_X5_replayRecord : Cond.instanceMethod yX5_replayRecord ∈ xTT := xTT_of (List.mem_of_getElem? (i := 690) (by decide +kernel)) (by decide +kernel)
theorem mv_X5_replayRecord : Cond.selects RX5 yX5_replayRecord yX5_replayRecord ∈ xTT := xTT_of (List.mem_of_getElem? (i := 12) (by decide +kernel)) (by decide +kernel)
theorem mp_X5_replayRecord : plainName (Y_X5_replayRecord).1.cls = true := by decide +kernel
theorem mc_X5_restore : Cond.code yX5_restore cX5_restore 3 (some .int) ∈ xTT := xTT_of (List.mem_of_getElem? (i := 460) (by decide +kernel)) (by decide +kernel)
theorem ok_X5_restore : xYok Y_X5_restore 1 := ⟨rfl, mc_X5_restore, mi_X5, by decide +kernel⟩
theorem mm_X5_restore : Cond.instanceMethod yX5_restore ∈ xTT := xTT_of (List.mem_of_getElem? (i := 458) (by decide +kernel)) (by decide +kernel)
theorem mv_X5_restore : Cond.selects RX5 yX5_restore yX5_restore ∈ xTT := xTT_of (List.mem_of_getElem? (i := 459) (by decide +kernel)) (by decide +kernel)
theorem mp_X5_restore : plainName (Y_X5_restore).1.cls = true := by decide +kernel
theorem mc_X5_runCommand : Cond.code yX5_runCommand cX5_runCommand 8 (some .boolean) ∈ xTT := xTT_of (List.mem_of_getElem? (i := 727) (by decide +kernel)) (by decide +kernel)
theorem ok_X5_runCommand : xYok Y_X5_runCommand 1 := ⟨rfl, mc_X5_runCommand, mi_X5, by decide +kernel⟩
theorem mm_X5_runCommand : Cond.instanceMethod yX5_runCommand ∈ xTT := xTT_of (List.mem_of_getElem? (i := 726) (by decide +kernel)) (by decide +kernel)
theorem mv_X5_runCommand : Cond.selects RX5 yX5_runCommand yX5_runCommand ∈ xTT := xTT_of (List.mem_of_getElem? (i := 13) (by decide +kernel)) (by decide +kernel)
theorem mp_X5_runCommand : plainName (Y_X5_runCommand).1.cls = true := by decide +kernel
theorem mc_X5_runPart : Cond.code yX5_runPart cX5_runPart 3 none ∈ xTT := xTT_of (List.mem_of_getElem? (i := 357) (by decide +kernel)) (by decide +kernel)
theorem ok_X5_runPart : xYok Y_X5_runPart 1 := ⟨rfl, mc_X5_runPart, mi_X5, by decide +kernel⟩
theorem mm_X5_runPart : Cond.instanceMethod yX5_runPart ∈ xTT := xTT_of (List.mem_of_getElem? (i := 356) (by decide +kernel)) (by decide +kernel)
theorem mv_X5_runPart : Cond.selects RX5 yX5_runPart yX5_runPart ∈ xTT := xTT_of (List.mem_of_getElem? (i := 5) (by decide +kernel)) (by decide +kernel)
theorem mp_X5_runPart : plainName (Y_X5_runPart).1.cls = true := by decide +kernel
theorem mc_X5_runScript : Cond.code yX5_runScript cX5_runScript 6 (some .int) ∈ xTT := xTT_of (List.mem_of_getElem? (i := 717) (by decide +kernel)) (by decide +kernel)
theorem ok_X5_runScript : xYok Y_X5_runScript 2 := ⟨rfl, mc_X5_runScript, mi_X5, by decide +kernel⟩
theorem mm_X5_runScript : Cond.instanceMethod yX5_runScript ∈ xTT := xTT_of (List.mem_of_getElem? (i := 715) (by decide +kernel)) (by decide +kernel)
theorem mv_X5_runScript : Cond.selects RX5 yX5_runScript yX5_runScript ∈ xTT := xTT_of (List.mem_of_getElem? (i := 716) (by decide +kernel)) (by decide +kernel)
theorem mp_X5_runScript : plainName (Y_X5_runScript).1.cls = true := by decide +kernel
theorem mc_X5_save : Cond.code yX5_save cX5_save 2 (some .int) ∈ xTT := xTT_of (List.mem_of_getElem? (i := 435) (by decide +kernel)) (by decide +kernel)
theorem ok_X5_save : xYok Y_X5_save 1 := ⟨rfl, mc_X5_save, mi_X5, by decide +kernel⟩
theorem mm_X5_save : Cond.instanceMethod yX5_save ∈ xTT := xTT_of (List.mem_of_getElem? (i := 433) (by decide +kernel)) (by decide +kernel)
theorem mv_X5_save : Cond.selects RX5 yX5_save yX5_save ∈ xTT := xTT_of (List.mem_of_getElem? (i := 434) (by decide +kernel)) (by decide +kernel)
theorem mp_X5_save : plainName (Y_X5_save).1.cls = true := by decide +kernel
theorem mc_X5_scriptedFall : Cond.code yX5_scriptedFall cX5_scriptedFall 3 (some .boolean) ∈ xTT := xTT_of (List.mem_of_getElem? (i := 731) (by decide +kernel)) (by decide +kernel)
theorem ok_X5_scriptedFall : xYok Y_X5_scriptedFall 2 := ⟨rfl, mc_X5_scriptedFall, mi_X5, by decide +kernel⟩
theorem mm_X5_scriptedFall : Cond.instanceMethod yX5_scriptedFall ∈ xTT := xTT_of (List.mem_of_getElem? (i := 730) (by decide +kernel)) (by decide +kernel)
theorem mv_X5_scriptedFall : Cond.selects RX5 yX5_scriptedFall yX5_scriptedFall ∈ xTT := xTT_of (List.mem_of_getElem? (i := 14) (by decide +kernel)) (by decide +kernel)
theorem mp_X5_scriptedFall : plainName (Y_X5_scriptedFall).1.cls = true := by decide +kernel
theorem mc_X5_scriptedPass : Cond.code yX5_scriptedPass cX5_scriptedPass 2 (some .boolean) ∈ xTT := xTT_of (List.mem_of_getElem? (i := 735) (by decide +kernel)) (by decide +kernel)
theorem ok_X5_scriptedPass : xYok Y_X5_scriptedPass 1 := ⟨rfl, mc_X5_scriptedPass, mi_X5, by decide +kernel⟩
theorem mm_X5_scriptedPass : Cond.instanceMethod yX5_scriptedPass ∈ xTT := xTT_of (List.mem_of_getElem? (i := 734) (by decide +kernel)) (by decide +kernel)
theorem mv_X5_scriptedPass : Cond.selects RX5 yX5_scriptedPass yX5_scriptedPass ∈ xTT := xTT_of (List.mem_of_getElem? (i := 15) (by decide +kernel)) (by decide +kernel)
theorem mp_X5_scriptedPass : plainName (Y_X5_scriptedPass).1.cls = true := by decide +kernel
theorem mc_X5_scriptedSetting : Cond.code yX5_scriptedSetting cX5_scriptedSetting 3 (some .boolean) ∈ xTT := xTT_of (List.mem_of_getElem? (i := 739) (by decide +kernel)) (by decide +kernel)
theorem ok_X5_scriptedSetting : xYok Y_X5_scriptedSetting 2 := ⟨rfl, mc_X5_scriptedSetting, mi_X5, by decide +kernel⟩
theorem mm_X5_scriptedSetting : Cond.instanceMethod yX5_scriptedSetting ∈ xTT := xTT_of (List.mem_of_getElem? (i := 738) (by decide +kernel)) (by decide +kernel)
theorem mv_X5_scriptedSetting : Cond.selects RX5 yX5_scriptedSetting yX5_scriptedSetting ∈ xTT := xTT_of (List.mem_of_getElem? (i := 16) (by decide +kernel)) (by decide +kernel)
theorem mp_X5_scriptedSetting : plainName (Y_X5_scriptedSetting).1.cls = true := by decide +kernel
theorem mc_X5_set : Cond.code yX5_set cX5_set 4 (some .int) ∈ xTT := xTT_of (List.mem_of_getElem? (i := 634) (by decide +kernel)) (by decide +kernel)
theorem ok_X5_set : xYok Y_X5_set 2 := ⟨rfl, mc_X5_set, mi_X5, by decide +kernel⟩
theorem mm_X5_set : Cond.instanceMethod yX5_set ∈ xTT := xTT_of (List.mem_of_getElem? (i := 632) (by decide +kernel)) (by decide +kernel)
theorem mv_X5_set : Cond.selects RX5 yX5_set yX5_set ∈ xTT := xTT_of (List.mem_of_getElem? (i := 633) (by decide +kernel)) (by decide +kernel)
theorem mp_X5_set : plainName (Y_X5_set).1.cls = true := by decide +kernel
theorem mc_X5_setBorder : Cond.code yX5_setBorder cX5_setBorder 4 (some .int) ∈ xTT := xTT_of (List.mem_of_getElem? (i := 647) (by decide +kernel)) (by decide +kernel)
theorem ok_X5_setBorder : xYok Y_X5_setBorder 2 := ⟨rfl, mc_X5_setBorder, mi_X5, by decide +kernel⟩
theorem mm_X5_setBorder : Cond.instanceMethod yX5_setBorder ∈ xTT := xTT_of (List.mem_of_getElem? (i := 645) (by decide +kernel)) (by decide +kernel)
theorem mv_X5_setBorder : Cond.selects RX5 yX5_setBorder yX5_setBorder ∈ xTT := xTT_of (List.mem_of_getElem? (i := 646) (by decide +kernel)) (by decide +kernel)
theorem mp_X5_setBorder : plainName (Y_X5_setBorder).1.cls = true := by decide +kernel
theorem mc_X5_setting : Cond.code yX5_setting cX5_setting 2 (some .int) ∈ xTT := xTT_of (List.mem_of_getElem? (i := 506) (by decide +kernel)) (by decide +kernel)
theorem ok_X5_setting : xYok Y_X5_setting 1 := ⟨rfl, mc_X5_setting, mi_X5, by decide +kernel⟩
theorem mm_X5_setting : Cond.instanceMethod yX5_setting ∈ xTT := xTT_of (List.mem_of_getElem? (i := 504) (by decide +kernel)) (by decide +kernel)
theorem mv_X5_setting : Cond.selects RX5 yX5_setting yX5_setting ∈ xTT := xTT_of (List.mem_of_getElem? (i := 505) (by decide +kernel)) (by decide +kernel)
theorem mp_X5_setting : plainName (Y_X5_setting).1.cls = true := by decide +kernel
theorem mc_X5_simulate : Cond.code yX5_simulate cX5_simulate 9 (some .int) ∈ xTT := xTT_of (List.mem_of_getElem? (i := 747) (by decide +kernel)) (by decide +kernel)
theorem ok_X5_simulate : xYok Y_X5_simulate 2 := ⟨rfl, mc_X5_simulate, mi_X5, by decide +kernel⟩
theorem mm_X5_simulate : Cond.instanceMethod yX5_simulate ∈ xTT := xTT_of (List.mem_of_getElem? (i := 745) (by decide +kernel)) (by decide +kernel)
theorem mv_X5_simulate : Cond.selects RX5 yX5_simulate yX5_simulate ∈ xTT := xTT_of (List.mem_of_getElem? (i := 746) (by decide +kernel)) (by decide +kernel)
theorem mp_X5_simulate : plainName (Y_X5_simulate).1.cls = true := by decide +kernel
theorem mc_X5_sumOf : Cond.code yX5_sumOf cX5_sumOf 6 (some .int) ∈ xTT := xTT_of (List.mem_of_getElem? (i := 426) (by decide +kernel)) (by decide +kernel)
theorem ok_X5_sumOf : xYok Y_X5_sumOf 1 := ⟨rfl, mc_X5_sumOf, mi_X5, by decide +kernel⟩
theorem mt_X5_sumOf : Cond.static yX5_sumOf ∈ xTT := xTT_of (List.mem_of_getElem? (i := 425) (by decide +kernel)) (by decide +kernel)
theorem mp_X5_sumOf : plainName (Y_X5_sumOf).1.cls = true := by decide +kernel
theorem mc_X5_trueRain : Cond.code yX5_trueRain cX5_trueRain 1 (some .long) ∈ xTT := xTT_of (List.mem_of_getElem? (i := 548) (by decide +kernel)) (by decide +kernel)
theorem ok_X5_trueRain : xYok Y_X5_trueRain 0 := ⟨rfl, mc_X5_trueRain, mi_X5, by decide +kernel⟩
theorem mm_X5_trueRain : Cond.instanceMethod yX5_trueRain ∈ xTT := xTT_of (List.mem_of_getElem? (i := 546) (by decide +kernel)) (by decide +kernel)
theorem mv_X5_trueRain : Cond.selects RX5 yX5_trueRain yX5_trueRain ∈ xTT := xTT_of (List.mem_of_getElem? (i := 547) (by decide +kernel)) (by decide +kernel)
theorem mp_X5_trueRain : plainName (Y_X5_trueRain).1.cls = true := by decide +kernel
theorem mc_X5_undo : Cond.code yX5_undo cX5_undo 1 (some .int) ∈ xTT := xTT_of (List.mem_of_getElem? (i := 798) (by decide +kernel)) (by decide +kernel)
theorem ok_X5_undo : xYok Y_X5_undo 0 := ⟨rfl, mc_X5_undo, mi_X5, by decide +kernel⟩
theorem mm_X5_undo : Cond.instanceMethod yX5_undo ∈ xTT := xTT_of (List.mem_of_getElem? (i := 796) (by decide +kernel)) (by decide +kernel)
theorem mv_X5_undo : Cond.selects RX5 yX5_undo yX5_undo ∈ xTT := xTT_of (List.mem_of_getElem? (i := 797) (by decide +kernel)) (by decide +kernel)
theorem mp_X5_undo : plainName (Y_X5_undo).1.cls = true := by decide +kernel
theorem mc_X5_weightOf : Cond.code yX5_weightOf cX5_weightOf 1 (some .int) ∈ xTT := xTT_of (List.mem_of_getElem? (i := 753) (by decide +kernel)) (by decide +kernel)
theorem ok_X5_weightOf : xYok Y_X5_weightOf 1 := ⟨rfl, mc_X5_weightOf, mi_X5, by decide +kernel⟩
theorem mt_X5_weightOf : Cond.static yX5_weightOf ∈ xTT := xTT_of (List.mem_of_getElem? (i := 752) (by decide +kernel)) (by decide +kernel)
theorem mp_X5_weightOf : plainName (Y_X5_weightOf).1.cls = true := by decide +kernel
theorem mc_X5_wholeRoot : Cond.code yX5_wholeRoot cX5_wholeRoot 3 (some .int) ∈ xTT := xTT_of (List.mem_of_getElem? (i := 602) (by decide +kernel)) (by decide +kernel)
theorem ok_X5_wholeRoot : xYok Y_X5_wholeRoot 1 := ⟨rfl, mc_X5_wholeRoot, mi_X5, by decide +kernel⟩
theorem mt_X5_wholeRoot : Cond.static yX5_wholeRoot ∈ xTT := xTT_of (List.mem_of_getElem? (i := 601) (by decide +kernel)) (by decide +kernel)
theorem mp_X5_wholeRoot : plainName (Y_X5_wholeRoot).1.cls = true := by decide +kernel
theorem mc_X5_withoutLastGroups : Cond.code yX5_withoutLastGroups cX5_withoutLastGroups 6 (some .long) ∈ xTT := xTT_of (List.mem_of_getElem? (i := 721) (by decide +kernel)) (by decide +kernel)
theorem ok_X5_withoutLastGroups : xYok Y_X5_withoutLastGroups 2 := ⟨rfl, mc_X5_withoutLastGroups, mi_X5, by decide +kernel⟩
theorem mt_X5_withoutLastGroups : Cond.static yX5_withoutLastGroups ∈ xTT := xTT_of (List.mem_of_getElem? (i := 720) (by decide +kernel)) (by decide +kernel)
theorem mp_X5_withoutLastGroups : plainName (Y_X5_withoutLastGroups).1.cls = true := by decide +kernel
theorem mc_X5_wouldBe : Cond.code yX5_wouldBe cX5_wouldBe 3 (some .int) ∈ xTT := xTT_of (List.mem_of_getElem? (i := 661) (by decide +kernel)) (by decide +kernel)
theorem ok_X5_wouldBe : xYok Y_X5_wouldBe 2 := ⟨rfl, mc_X5_wouldBe, mi_X5, by decide +kernel⟩
theorem mm_X5_wouldBe : Cond.instanceMethod yX5_wouldBe ∈ xTT := xTT_of (List.mem_of_getElem? (i := 659) (by decide +kernel)) (by decide +kernel)
theorem mv_X5_wouldBe : Cond.selects RX5 yX5_wouldBe yX5_wouldBe ∈ xTT := xTT_of (List.mem_of_getElem? (i := 660) (by decide +kernel)) (by decide +kernel)
theorem mp_X5_wouldBe : plainName (Y_X5_wouldBe).1.cls = true := by decide +kernel
theorem mw_X0 : ∀ w ∈ u_ws RX0 TX0 6, w ∈ xTT := by
  intro w hw
  obtain ⟨k, hk, rfl⟩ := List.mem_map.mp hw
  have hk := List.mem_range.mp hk
  match k, hk with
  | 0, _ => exact xTT_of (List.mem_of_getElem? (i := 152) (by decide +kernel)) (by decide +kernel)
  | 1, _ => exact xTT_of (List.mem_of_getElem? (i := 154) (by decide +kernel)) (by decide +kernel)
  | 2, _ => exact xTT_of (List.mem_of_getElem? (i := 156) (by decide +kernel)) (by decide +kernel)
  | 3, _ => exact xTT_of (List.mem_of_getElem? (i := 158) (by decide +kernel)) (by decide +kernel)
  | 4, _ => exact xTT_of (List.mem_of_getElem? (i := 160) (by decide +kernel)) (by decide +kernel)
  | 5, _ => exact xTT_of (List.mem_of_getElem? (i := 162) (by decide +kernel)) (by decide +kernel)
  | k + 6, hk => exact absurd hk (by omega)
theorem mw_X1 : ∀ w ∈ u_ws RX1 TX1 3, w ∈ xTT := by
  intro w hw
  obtain ⟨k, hk, rfl⟩ := List.mem_map.mp hw
  have hk := List.mem_range.mp hk
  match k, hk with
  | 0, _ => exact xTT_of (List.mem_of_getElem? (i := 135) (by decide +kernel)) (by decide +kernel)
  | 1, _ => exact xTT_of (List.mem_of_getElem? (i := 137) (by decide +kernel)) (by decide +kernel)
  | 2, _ => exact xTT_of (List.mem_of_getElem? (i := 139) (by decide +kernel)) (by decide +kernel)
  | k + 3, hk => exact absurd hk (by omega)
theorem mw_X2 : ∀ w ∈ u_ws RX2 TX2 12, w ∈ xTT := by
  intro w hw
  obtain ⟨k, hk, rfl⟩ := List.mem_map.mp hw
  have hk := List.mem_range.mp hk
  match k, hk with
  | 0, _ => exact xTT_of (List.mem_of_getElem? (i := 90) (by decide +kernel)) (by decide +kernel)
  | 1, _ => exact xTT_of (List.mem_of_getElem? (i := 92) (by decide +kernel)) (by decide +kernel)
  | 2, _ => exact xTT_of (List.mem_of_getElem? (i := 94) (by decide +kernel)) (by decide +kernel)
  | 3, _ => exact xTT_of (List.mem_of_getElem? (i := 96) (by decide +kernel)) (by decide +kernel)
  | 4, _ => exact xTT_of (List.mem_of_getElem? (i := 98) (by decide +kernel)) (by decide +kernel)
  | 5, _ => exact xTT_of (List.mem_of_getElem? (i := 100) (by decide +kernel)) (by decide +kernel)
  | 6, _ => exact xTT_of (List.mem_of_getElem? (i := 102) (by decide +kernel)) (by decide +kernel)
  | 7, _ => exact xTT_of (List.mem_of_getElem? (i := 104) (by decide +kernel)) (by decide +kernel)
  | 8, _ => exact xTT_of (List.mem_of_getElem? (i := 106) (by decide +kernel)) (by decide +kernel)
  | 9, _ => exact xTT_of (List.mem_of_getElem? (i := 108) (by decide +kernel)) (by decide +kernel)
  | 10, _ => exact xTT_of (List.mem_of_getElem? (i := 110) (by decide +kernel)) (by decide +kernel)
  | 11, _ => exact xTT_of (List.mem_of_getElem? (i := 112) (by decide +kernel)) (by decide +kernel)
  | k + 12, hk => exact absurd hk (by omega)
theorem mw_X3 : ∀ w ∈ u_ws RX3 TX3 2, w ∈ xTT := by
  intro w hw
  obtain ⟨k, hk, rfl⟩ := List.mem_map.mp hw
  have hk := List.mem_range.mp hk
  match k, hk with
  | 0, _ => exact xTT_of (List.mem_of_getElem? (i := 169) (by decide +kernel)) (by decide +kernel)
  | 1, _ => exact xTT_of (List.mem_of_getElem? (i := 171) (by decide +kernel)) (by decide +kernel)
  | k + 2, hk => exact absurd hk (by omega)
theorem mw_X4 : ∀ w ∈ u_ws RX4 TX4 2, w ∈ xTT := by
  intro w hw
  obtain ⟨k, hk, rfl⟩ := List.mem_map.mp hw
  have hk := List.mem_range.mp hk
  match k, hk with
  | 0, _ => exact xTT_of (List.mem_of_getElem? (i := 48) (by decide +kernel)) (by decide +kernel)
  | 1, _ => exact xTT_of (List.mem_of_getElem? (i := 50) (by decide +kernel)) (by decide +kernel)
  | k + 2, hk => exact absurd hk (by omega)
theorem mw_X5 : ∀ w ∈ u_ws RX5 TX5 11, w ∈ xTT := by
  intro w hw
  obtain ⟨k, hk, rfl⟩ := List.mem_map.mp hw
  have hk := List.mem_range.mp hk
  match k, hk with
  | 0, _ => exact xTT_of (List.mem_of_getElem? (i := 186) (by decide +kernel)) (by decide +kernel)
  | 1, _ => exact xTT_of (List.mem_of_getElem? (i := 188) (by decide +kernel)) (by decide +kernel)
  | 2, _ => exact xTT_of (List.mem_of_getElem? (i := 190) (by decide +kernel)) (by decide +kernel)
  | 3, _ => exact xTT_of (List.mem_of_getElem? (i := 192) (by decide +kernel)) (by decide +kernel)
  | 4, _ => exact xTT_of (List.mem_of_getElem? (i := 194) (by decide +kernel)) (by decide +kernel)
  | 5, _ => exact xTT_of (List.mem_of_getElem? (i := 196) (by decide +kernel)) (by decide +kernel)
  | 6, _ => exact xTT_of (List.mem_of_getElem? (i := 198) (by decide +kernel)) (by decide +kernel)
  | 7, _ => exact xTT_of (List.mem_of_getElem? (i := 200) (by decide +kernel)) (by decide +kernel)
  | 8, _ => exact xTT_of (List.mem_of_getElem? (i := 202) (by decide +kernel)) (by decide +kernel)
  | 9, _ => exact xTT_of (List.mem_of_getElem? (i := 204) (by decide +kernel)) (by decide +kernel)
  | 10, _ => exact xTT_of (List.mem_of_getElem? (i := 206) (by decide +kernel)) (by decide +kernel)
  | k + 11, hk => exact absurd hk (by omega)
theorem ml_X5_1 : Cond.methodLink RX5 1 Lib.objectInit ∈ xTT := xTT_of (List.mem_of_getElem? (i := 36) (by decide +kernel)) (by decide +kernel)
theorem lk_X5_9 : xLk RX5 9 Y_X4_init := Or.inr ⟨"ImpactPlate", xTT_of (List.mem_of_getElem? (i := 41) (by decide +kernel)) (by decide +kernel)⟩
theorem lk_X5_18 : xLk RX5 18 Y_X3_init := Or.inr ⟨"ImpactPlate", xTT_of (List.mem_of_getElem? (i := 56) (by decide +kernel)) (by decide +kernel)⟩
theorem ml_X5_53 : Cond.methodLink RX5 53 yX5_isOutside ∈ xTT := xTT_of (List.mem_of_getElem? (i := 436) (by decide +kernel)) (by decide +kernel)
theorem lk_X5_53 : xLk RX5 53 Y_X5_isOutside := Or.inl ml_X5_53
theorem ml_X5_64 : Cond.methodLink RX5 64 yX4_isFull ∈ xTT := xTT_of (List.mem_of_getElem? (i := 763) (by decide +kernel)) (by decide +kernel)
theorem lk_X5_64 : xLk RX5 64 Y_X4_isFull := Or.inl ml_X5_64
theorem ml_X5_73 : Cond.methodLink RX5 73 yX4_add ∈ xTT := xTT_of (List.mem_of_getElem? (i := 768) (by decide +kernel)) (by decide +kernel)
theorem lk_X5_73 : xLk RX5 73 Y_X4_add := Or.inl ml_X5_73
theorem ml_X5_77 : Cond.methodLink RX5 77 yX4_wipe ∈ xTT := xTT_of (List.mem_of_getElem? (i := 828) (by decide +kernel)) (by decide +kernel)
theorem lk_X5_77 : xLk RX5 77 Y_X4_wipe := Or.inl ml_X5_77
theorem ml_X5_81 : Cond.methodLink RX5 81 yX4_firstError ∈ xTT := xTT_of (List.mem_of_getElem? (i := 222) (by decide +kernel)) (by decide +kernel)
theorem lk_X5_81 : xLk RX5 81 Y_X4_firstError := Or.inl ml_X5_81
theorem ml_X5_86 : Cond.methodLink RX5 86 yX3_copyFrom ∈ xTT := xTT_of (List.mem_of_getElem? (i := 329) (by decide +kernel)) (by decide +kernel)
theorem lk_X5_86 : xLk RX5 86 Y_X3_copyFrom := Or.inl ml_X5_86
theorem ml_X5_93 : Cond.methodLink RX5 93 yX5_runPart ∈ xTT := xTT_of (List.mem_of_getElem? (i := 354) (by decide +kernel)) (by decide +kernel)
theorem lk_X5_93 : xLk RX5 93 Y_X5_runPart := Or.inl ml_X5_93
theorem ml_X5_97 : Cond.methodLink RX5 97 yX4_partLength ∈ xTT := xTT_of (List.mem_of_getElem? (i := 419) (by decide +kernel)) (by decide +kernel)
theorem lk_X5_97 : xLk RX5 97 Y_X4_partLength := Or.inl ml_X5_97
theorem ml_X5_104 : Cond.methodLink RX5 104 yX0_dropCount ∈ xTT := xTT_of (List.mem_of_getElem? (i := 420) (by decide +kernel)) (by decide +kernel)
theorem lk_X5_104 : xLk RX5 104 Y_X0_dropCount := Or.inl ml_X5_104
theorem ml_X5_118 : Cond.methodLink RX5 118 yX0_countOf ∈ xTT := xTT_of (List.mem_of_getElem? (i := 477) (by decide +kernel)) (by decide +kernel)
theorem lk_X5_118 : xLk RX5 118 Y_X0_countOf := Or.inl ml_X5_118
theorem ml_X5_125 : Cond.methodLink RX5 125 yX5_sumOf ∈ xTT := xTT_of (List.mem_of_getElem? (i := 481) (by decide +kernel)) (by decide +kernel)
theorem lk_X5_125 : xLk RX5 125 Y_X5_sumOf := Or.inl ml_X5_125
theorem ml_X5_132 : Cond.methodLink RX5 132 yX2_levelAt ∈ xTT := xTT_of (List.mem_of_getElem? (i := 482) (by decide +kernel)) (by decide +kernel)
theorem lk_X5_132 : xLk RX5 132 Y_X2_levelAt := Or.inl ml_X5_132
theorem ml_X5_160 : Cond.methodLink RX5 160 yX2_lowerEnd ∈ xTT := xTT_of (List.mem_of_getElem? (i := 516) (by decide +kernel)) (by decide +kernel)
theorem lk_X5_160 : xLk RX5 160 Y_X2_lowerEnd := Or.inl ml_X5_160
theorem ml_X5_163 : Cond.methodLink RX5 163 yX2_upperEnd ∈ xTT := xTT_of (List.mem_of_getElem? (i := 520) (by decide +kernel)) (by decide +kernel)
theorem lk_X5_163 : xLk RX5 163 Y_X2_upperEnd := Or.inl ml_X5_163
theorem ml_X5_187 : Cond.methodLink RX5 187 yX1_back ∈ xTT := xTT_of (List.mem_of_getElem? (i := 541) (by decide +kernel)) (by decide +kernel)
theorem lk_X5_187 : xLk RX5 187 Y_X1_back := Or.inl ml_X5_187
theorem ml_X5_192 : Cond.methodLink RX5 192 yX1_longestRunOf ∈ xTT := xTT_of (List.mem_of_getElem? (i := 557) (by decide +kernel)) (by decide +kernel)
theorem lk_X5_192 : xLk RX5 192 Y_X1_longestRunOf := Or.inl ml_X5_192
theorem ml_X5_197 : Cond.methodLink RX5 197 yX5_areFates ∈ xTT := xTT_of (List.mem_of_getElem? (i := 570) (by decide +kernel)) (by decide +kernel)
theorem lk_X5_197 : xLk RX5 197 Y_X5_areFates := Or.inl ml_X5_197
theorem ml_X5_203 : Cond.methodLink RX5 203 yX1_placesOf ∈ xTT := xTT_of (List.mem_of_getElem? (i := 574) (by decide +kernel)) (by decide +kernel)
theorem lk_X5_203 : xLk RX5 203 Y_X1_placesOf := Or.inl ml_X5_203
theorem ml_X5_209 : Cond.methodLink RX5 209 yX2_reckonedRain ∈ xTT := xTT_of (List.mem_of_getElem? (i := 590) (by decide +kernel)) (by decide +kernel)
theorem lk_X5_209 : xLk RX5 209 Y_X2_reckonedRain := Or.inl ml_X5_209
theorem ml_X5_217 : Cond.methodLink RX5 217 yX5_isFall ∈ xTT := xTT_of (List.mem_of_getElem? (i := 611) (by decide +kernel)) (by decide +kernel)
theorem lk_X5_217 : xLk RX5 217 Y_X5_isFall := Or.inl ml_X5_217
theorem ml_X5_222 : Cond.methodLink RX5 222 yX5_remember ∈ xTT := xTT_of (List.mem_of_getElem? (i := 615) (by decide +kernel)) (by decide +kernel)
theorem lk_X5_222 : xLk RX5 222 Y_X5_remember := Or.inl ml_X5_222
theorem ml_X5_225 : Cond.methodLink RX5 225 yX3_letFall ∈ xTT := xTT_of (List.mem_of_getElem? (i := 363) (by decide +kernel)) (by decide +kernel)
theorem lk_X5_225 : xLk RX5 225 Y_X3_letFall := Or.inl ml_X5_225
theorem ml_X5_230 : Cond.methodLink RX5 230 yX2_letPass ∈ xTT := xTT_of (List.mem_of_getElem? (i := 414) (by decide +kernel)) (by decide +kernel)
theorem lk_X5_230 : xLk RX5 230 Y_X2_letPass := Or.inl ml_X5_230
theorem ml_X5_233 : Cond.methodLink RX5 233 yX5_isSetting ∈ xTT := xTT_of (List.mem_of_getElem? (i := 635) (by decide +kernel)) (by decide +kernel)
theorem lk_X5_233 : xLk RX5 233 Y_X5_isSetting := Or.inl ml_X5_233
theorem ml_X5_242 : Cond.methodLink RX5 242 yX2_wouldAscend ∈ xTT := xTT_of (List.mem_of_getElem? (i := 650) (by decide +kernel)) (by decide +kernel)
theorem lk_X5_242 : xLk RX5 242 Y_X2_wouldAscend := Or.inl ml_X5_242
theorem ml_X5_250 : Cond.methodLink RX5 250 yX2_emptyBins ∈ xTT := xTT_of (List.mem_of_getElem? (i := 806) (by decide +kernel)) (by decide +kernel)
theorem lk_X5_250 : xLk RX5 250 Y_X2_emptyBins := Or.inl ml_X5_250
theorem ml_X5_255 : Cond.methodLink RX5 255 yX2_strengthOf ∈ xTT := xTT_of (List.mem_of_getElem? (i := 662) (by decide +kernel)) (by decide +kernel)
theorem lk_X5_255 : xLk RX5 255 Y_X2_strengthOf := Or.inl ml_X5_255
theorem ml_X5_258 : Cond.methodLink RX5 258 yX2_fateOf ∈ xTT := xTT_of (List.mem_of_getElem? (i := 663) (by decide +kernel)) (by decide +kernel)
theorem lk_X5_258 : xLk RX5 258 Y_X2_fateOf := Or.inl ml_X5_258
theorem ml_X5_267 : Cond.methodLink RX5 267 yX5_replayRecord ∈ xTT := xTT_of (List.mem_of_getElem? (i := 688) (by decide +kernel)) (by decide +kernel)
theorem lk_X5_267 : xLk RX5 267 Y_X5_replayRecord := Or.inl ml_X5_267
theorem ml_X5_271 : Cond.methodLink RX5 271 yX0_rainOfRecord ∈ xTT := xTT_of (List.mem_of_getElem? (i := 702) (by decide +kernel)) (by decide +kernel)
theorem lk_X5_271 : xLk RX5 271 Y_X0_rainOfRecord := Or.inl ml_X5_271
theorem ml_X5_281 : Cond.methodLink RX5 281 yX2_closePulse ∈ xTT := xTT_of (List.mem_of_getElem? (i := 707) (by decide +kernel)) (by decide +kernel)
theorem lk_X5_281 : xLk RX5 281 Y_X2_closePulse := Or.inl ml_X5_281
theorem ml_X5_284 : Cond.methodLink RX5 284 Lib.MathLoose.abs_long.x ∈ xTT := xTT_of (List.mem_of_getElem? (i := 708) (by decide +kernel)) (by decide +kernel)
theorem ml_X5_292 : Cond.methodLink RX5 292 yX5_withoutLastGroups ∈ xTT := xTT_of (List.mem_of_getElem? (i := 719) (by decide +kernel)) (by decide +kernel)
theorem lk_X5_292 : xLk RX5 292 Y_X5_withoutLastGroups := Or.inl ml_X5_292
theorem ml_X5_300 : Cond.methodLink RX5 300 yX5_runCommand ∈ xTT := xTT_of (List.mem_of_getElem? (i := 724) (by decide +kernel)) (by decide +kernel)
theorem lk_X5_300 : xLk RX5 300 Y_X5_runCommand := Or.inl ml_X5_300
theorem ml_X5_310 : Cond.methodLink RX5 310 yX5_weightOf ∈ xTT := xTT_of (List.mem_of_getElem? (i := 751) (by decide +kernel)) (by decide +kernel)
theorem lk_X5_310 : xLk RX5 310 Y_X5_weightOf := Or.inl ml_X5_310
theorem ml_X5_317 : Cond.methodLink RX5 317 Lib.Math.min.name ∈ xTT := xTT_of (List.mem_of_getElem? (i := 619) (by decide +kernel)) (by decide +kernel)
theorem ml_X5_320 : Cond.methodLink RX5 320 yX4_numberAt ∈ xTT := xTT_of (List.mem_of_getElem? (i := 358) (by decide +kernel)) (by decide +kernel)
theorem lk_X5_320 : xLk RX5 320 Y_X4_numberAt := Or.inl ml_X5_320
theorem ml_X5_323 : Cond.methodLink RX5 323 yX4_signAt ∈ xTT := xTT_of (List.mem_of_getElem? (i := 362) (by decide +kernel)) (by decide +kernel)
theorem lk_X5_323 : xLk RX5 323 Y_X4_signAt := Or.inl ml_X5_323
theorem ml_X5_326 : Cond.methodLink RX5 326 yX4_digitAt ∈ xTT := xTT_of (List.mem_of_getElem? (i := 418) (by decide +kernel)) (by decide +kernel)
theorem lk_X5_326 : xLk RX5 326 Y_X4_digitAt := Or.inl ml_X5_326
theorem ml_X5_329 : Cond.methodLink RX5 329 yX2_copyFrom ∈ xTT := xTT_of (List.mem_of_getElem? (i := 692) (by decide +kernel)) (by decide +kernel)
theorem lk_X5_329 : xLk RX5 329 Y_X2_copyFrom := Or.inl ml_X5_329
theorem ml_X5_332 : Cond.methodLink RX5 332 yX2_copySetupFrom ∈ xTT := xTT_of (List.mem_of_getElem? (i := 693) (by decide +kernel)) (by decide +kernel)
theorem lk_X5_332 : xLk RX5 332 Y_X2_copySetupFrom := Or.inl ml_X5_332
theorem ml_X5_338 : Cond.methodLink RX5 338 yX2_receive ∈ xTT := xTT_of (List.mem_of_getElem? (i := 694) (by decide +kernel)) (by decide +kernel)
theorem lk_X5_338 : xLk RX5 338 Y_X2_receive := Or.inl ml_X5_338
theorem ml_X5_341 : Cond.methodLink RX5 341 yX5_scriptedFall ∈ xTT := xTT_of (List.mem_of_getElem? (i := 728) (by decide +kernel)) (by decide +kernel)
theorem lk_X5_341 : xLk RX5 341 Y_X5_scriptedFall := Or.inl ml_X5_341
theorem ml_X5_344 : Cond.methodLink RX5 344 yX5_scriptedPass ∈ xTT := xTT_of (List.mem_of_getElem? (i := 732) (by decide +kernel)) (by decide +kernel)
theorem lk_X5_344 : xLk RX5 344 Y_X5_scriptedPass := Or.inl ml_X5_344
theorem ml_X5_347 : Cond.methodLink RX5 347 yX5_scriptedSetting ∈ xTT := xTT_of (List.mem_of_getElem? (i := 736) (by decide +kernel)) (by decide +kernel)
theorem lk_X5_347 : xLk RX5 347 Y_X5_scriptedSetting := Or.inl ml_X5_347
theorem ml_X0_3 : Cond.methodLink RX0 3 Lib.objectInit ∈ xTT := xTT_of (List.mem_of_getElem? (i := 120) (by decide +kernel)) (by decide +kernel)
theorem ml_X0_25 : Cond.methodLink RX0 25 yX1_init ∈ xTT := xTT_of (List.mem_of_getElem? (i := 123) (by decide +kernel)) (by decide +kernel)
theorem lk_X0_25 : xLk RX0 25 Y_X1_init := Or.inl ml_X0_25
theorem lk_X0_38 : xLk RX0 38 Y_X5_cube := Or.inr ⟨"ImpactPlate", xTT_of (List.mem_of_getElem? (i := 404) (by decide +kernel)) (by decide +kernel)⟩
theorem ml_X0_42 : Cond.methodLink RX0 42 yX1_push ∈ xTT := xTT_of (List.mem_of_getElem? (i := 407) (by decide +kernel)) (by decide +kernel)
theorem lk_X0_42 : xLk RX0 42 Y_X1_push := Or.inl ml_X0_42
theorem lk_X0_45 : xLk RX0 45 Y_X5_sumOf := Or.inr ⟨"ImpactPlate", xTT_of (List.mem_of_getElem? (i := 424) (by decide +kernel)) (by decide +kernel)⟩
theorem ml_X0_52 : Cond.methodLink RX0 52 yX1_back ∈ xTT := xTT_of (List.mem_of_getElem? (i := 706) (by decide +kernel)) (by decide +kernel)
theorem lk_X0_52 : xLk RX0 52 Y_X1_back := Or.inl ml_X0_52
theorem lk_X0_56 : xLk RX0 56 Y_X5_copyRow := Or.inr ⟨"ImpactPlate", xTT_of (List.mem_of_getElem? (i := 348) (by decide +kernel)) (by decide +kernel)⟩
theorem ml_X0_60 : Cond.methodLink RX0 60 yX1_copyFrom ∈ xTT := xTT_of (List.mem_of_getElem? (i := 349) (by decide +kernel)) (by decide +kernel)
theorem lk_X0_60 : xLk RX0 60 Y_X1_copyFrom := Or.inl ml_X0_60
theorem ml_X1_3 : Cond.methodLink RX1 3 Lib.objectInit ∈ xTT := xTT_of (List.mem_of_getElem? (i := 126) (by decide +kernel)) (by decide +kernel)
theorem ml_X1_18 : Cond.methodLink RX1 18 Lib.Math.max.name ∈ xTT := xTT_of (List.mem_of_getElem? (i := 127) (by decide +kernel)) (by decide +kernel)
theorem ml_X1_28 : Cond.methodLink RX1 28 Lib.Math.min.name ∈ xTT := xTT_of (List.mem_of_getElem? (i := 411) (by decide +kernel)) (by decide +kernel)
theorem ml_X1_31 : Cond.methodLink RX1 31 yX1_back ∈ xTT := xTT_of (List.mem_of_getElem? (i := 561) (by decide +kernel)) (by decide +kernel)
theorem lk_X1_31 : xLk RX1 31 Y_X1_back := Or.inl ml_X1_31
theorem ml_X1_35 : Cond.methodLink RX1 35 yX1_standsAt ∈ xTT := xTT_of (List.mem_of_getElem? (i := 578) (by decide +kernel)) (by decide +kernel)
theorem lk_X1_35 : xLk RX1 35 Y_X1_standsAt := Or.inl ml_X1_35
theorem lk_X1_39 : xLk RX1 39 Y_X5_copyRow := Or.inr ⟨"ImpactPlate", xTT_of (List.mem_of_getElem? (i := 353) (by decide +kernel)) (by decide +kernel)⟩
theorem ml_X2_3 : Cond.methodLink RX2 3 Lib.objectInit ∈ xTT := xTT_of (List.mem_of_getElem? (i := 65) (by decide +kernel)) (by decide +kernel)
theorem lk_X2_50 : xLk RX2 50 Y_X5_isOutside := Or.inr ⟨"ImpactPlate", xTT_of (List.mem_of_getElem? (i := 383) (by decide +kernel)) (by decide +kernel)⟩
theorem ml_X2_54 : Cond.methodLink RX2 54 yX2_levelAt ∈ xTT := xTT_of (List.mem_of_getElem? (i := 379) (by decide +kernel)) (by decide +kernel)
theorem lk_X2_54 : xLk RX2 54 Y_X2_levelAt := Or.inl ml_X2_54
theorem ml_X2_58 : Cond.methodLink RX2 58 yX2_strengthOf ∈ xTT := xTT_of (List.mem_of_getElem? (i := 371) (by decide +kernel)) (by decide +kernel)
theorem lk_X2_58 : xLk RX2 58 Y_X2_strengthOf := Or.inl ml_X2_58
theorem ml_X2_61 : Cond.methodLink RX2 61 yX2_fateOf ∈ xTT := xTT_of (List.mem_of_getElem? (i := 375) (by decide +kernel)) (by decide +kernel)
theorem lk_X2_61 : xLk RX2 61 Y_X2_fateOf := Or.inl ml_X2_61
theorem ml_X2_65 : Cond.methodLink RX2 65 yX2_strike ∈ xTT := xTT_of (List.mem_of_getElem? (i := 384) (by decide +kernel)) (by decide +kernel)
theorem lk_X2_65 : xLk RX2 65 Y_X2_strike := Or.inl ml_X2_65
theorem ml_X2_69 : Cond.methodLink RX2 69 yX2_closePulse ∈ xTT := xTT_of (List.mem_of_getElem? (i := 388) (by decide +kernel)) (by decide +kernel)
theorem lk_X2_69 : xLk RX2 69 Y_X2_closePulse := Or.inl ml_X2_69
theorem ml_X2_72 : Cond.methodLink RX2 72 yX2_openPulse ∈ xTT := xTT_of (List.mem_of_getElem? (i := 396) (by decide +kernel)) (by decide +kernel)
theorem lk_X2_72 : xLk RX2 72 Y_X2_openPulse := Or.inl ml_X2_72
theorem ml_X2_75 : Cond.methodLink RX2 75 yX2_binOf ∈ xTT := xTT_of (List.mem_of_getElem? (i := 392) (by decide +kernel)) (by decide +kernel)
theorem lk_X2_75 : xLk RX2 75 Y_X2_binOf := Or.inl ml_X2_75
theorem lk_X2_78 : xLk RX2 78 Y_X5_clearRow := Or.inr ⟨"ImpactPlate", xTT_of (List.mem_of_getElem? (i := 810) (by decide +kernel)) (by decide +kernel)⟩
theorem ml_X2_82 : Cond.methodLink RX2 82 yX2_endByLaw ∈ xTT := xTT_of (List.mem_of_getElem? (i := 594) (by decide +kernel)) (by decide +kernel)
theorem lk_X2_82 : xLk RX2 82 Y_X2_endByLaw := Or.inl ml_X2_82
theorem lk_X2_85 : xLk RX2 85 Y_X5_wholeRoot := Or.inr ⟨"ImpactPlate", xTT_of (List.mem_of_getElem? (i := 600) (by decide +kernel)) (by decide +kernel)⟩
theorem lk_X2_88 : xLk RX2 88 Y_X5_cube := Or.inr ⟨"ImpactPlate", xTT_of (List.mem_of_getElem? (i := 603) (by decide +kernel)) (by decide +kernel)⟩
theorem ml_X2_92 : Cond.methodLink RX2 92 yX2_lowerEnd ∈ xTT := xTT_of (List.mem_of_getElem? (i := 598) (by decide +kernel)) (by decide +kernel)
theorem lk_X2_92 : xLk RX2 92 Y_X2_lowerEnd := Or.inl ml_X2_92
theorem ml_X2_95 : Cond.methodLink RX2 95 yX2_upperEnd ∈ xTT := xTT_of (List.mem_of_getElem? (i := 599) (by decide +kernel)) (by decide +kernel)
theorem lk_X2_95 : xLk RX2 95 Y_X2_upperEnd := Or.inl ml_X2_95
theorem lk_X2_98 : xLk RX2 98 Y_X5_copyRow := Or.inr ⟨"ImpactPlate", xTT_of (List.mem_of_getElem? (i := 341) (by decide +kernel)) (by decide +kernel)⟩
theorem ml_X2_102 : Cond.methodLink RX2 102 yX2_copySetupFrom ∈ xTT := xTT_of (List.mem_of_getElem? (i := 337) (by decide +kernel)) (by decide +kernel)
theorem lk_X2_102 : xLk RX2 102 Y_X2_copySetupFrom := Or.inl ml_X2_102
theorem ml_X3_1 : Cond.methodLink RX3 1 Lib.objectInit ∈ xTT := xTT_of (List.mem_of_getElem? (i := 59) (by decide +kernel)) (by decide +kernel)
theorem lk_X3_9 : xLk RX3 9 Y_X2_init := Or.inr ⟨"ImpactPlate", xTT_of (List.mem_of_getElem? (i := 62) (by decide +kernel)) (by decide +kernel)⟩
theorem lk_X3_18 : xLk RX3 18 Y_X0_init := Or.inr ⟨"ImpactPlate", xTT_of (List.mem_of_getElem? (i := 117) (by decide +kernel)) (by decide +kernel)⟩
theorem ml_X3_23 : Cond.methodLink RX3 23 yX2_receive ∈ xTT := xTT_of (List.mem_of_getElem? (i := 367) (by decide +kernel)) (by decide +kernel)
theorem lk_X3_23 : xLk RX3 23 Y_X2_receive := Or.inl ml_X3_23
theorem ml_X3_31 : Cond.methodLink RX3 31 yX0_enter ∈ xTT := xTT_of (List.mem_of_getElem? (i := 400) (by decide +kernel)) (by decide +kernel)
theorem lk_X3_31 : xLk RX3 31 Y_X0_enter := Or.inl ml_X3_31
theorem ml_X3_35 : Cond.methodLink RX3 35 yX2_copyFrom ∈ xTT := xTT_of (List.mem_of_getElem? (i := 333) (by decide +kernel)) (by decide +kernel)
theorem lk_X3_35 : xLk RX3 35 Y_X2_copyFrom := Or.inl ml_X3_35
theorem ml_X3_39 : Cond.methodLink RX3 39 yX0_copyFrom ∈ xTT := xTT_of (List.mem_of_getElem? (i := 344) (by decide +kernel)) (by decide +kernel)
theorem lk_X3_39 : xLk RX3 39 Y_X0_copyFrom := Or.inl ml_X3_39
theorem ml_X4_3 : Cond.methodLink RX4 3 Lib.objectInit ∈ xTT := xTT_of (List.mem_of_getElem? (i := 44) (by decide +kernel)) (by decide +kernel)
theorem ml_X4_19 : Cond.methodLink RX4 19 yX4_isFull ∈ xTT := xTT_of (List.mem_of_getElem? (i := 772) (by decide +kernel)) (by decide +kernel)
theorem lk_X4_19 : xLk RX4 19 Y_X4_isFull := Or.inl ml_X4_19
theorem ml_X4_23 : Cond.methodLink RX4 23 yX4_signAt ∈ xTT := xTT_of (List.mem_of_getElem? (i := 226) (by decide +kernel)) (by decide +kernel)
theorem lk_X4_23 : xLk RX4 23 Y_X4_signAt := Or.inl ml_X4_23
theorem ml_X4_27 : Cond.methodLink RX4 27 yX4_digitAt ∈ xTT := xTT_of (List.mem_of_getElem? (i := 242) (by decide +kernel)) (by decide +kernel)
theorem lk_X4_27 : xLk RX4 27 Y_X4_digitAt := Or.inl ml_X4_27
theorem ml_X4_30 : Cond.methodLink RX4 30 yX4_errorInPart ∈ xTT := xTT_of (List.mem_of_getElem? (i := 230) (by decide +kernel)) (by decide +kernel)
theorem lk_X4_30 : xLk RX4 30 Y_X4_errorInPart := Or.inl ml_X4_30
theorem ml_X4_33 : Cond.methodLink RX4 33 yX4_partLength ∈ xTT := xTT_of (List.mem_of_getElem? (i := 257) (by decide +kernel)) (by decide +kernel)
theorem lk_X4_33 : xLk RX4 33 Y_X4_partLength := Or.inl ml_X4_33
theorem ml_X4_36 : Cond.methodLink RX4 36 yX4_errorInDrop ∈ xTT := xTT_of (List.mem_of_getElem? (i := 234) (by decide +kernel)) (by decide +kernel)
theorem lk_X4_36 : xLk RX4 36 Y_X4_errorInDrop := Or.inl ml_X4_36
theorem ml_X4_39 : Cond.methodLink RX4 39 yX4_errorInNumber ∈ xTT := xTT_of (List.mem_of_getElem? (i := 238) (by decide +kernel)) (by decide +kernel)
theorem lk_X4_39 : xLk RX4 39 Y_X4_errorInNumber := Or.inl ml_X4_39
theorem ml_X4_43 : Cond.methodLink RX4 43 yX4_errorInSetting ∈ xTT := xTT_of (List.mem_of_getElem? (i := 249) (by decide +kernel)) (by decide +kernel)
theorem lk_X4_43 : xLk RX4 43 Y_X4_errorInSetting := Or.inl ml_X4_43
theorem lk_X4_53 : xLk RX4 53 Y_X5_isOutside := Or.inr ⟨"ImpactPlate", xTT_of (List.mem_of_getElem? (i := 246) (by decide +kernel)) (by decide +kernel)⟩
theorem ml_L_9 : Cond.methodLink RL 9 yX5_append ∈ xTT := xTT_of (List.mem_of_getElem? (i := 758) (by decide +kernel)) (by decide +kernel)
theorem lk_L_9 : xLk RL 9 Y_X5_append := Or.inl ml_L_9
theorem ml_L_23 : Cond.methodLink RL 23 yX5_load ∈ xTT := xTT_of (List.mem_of_getElem? (i := 218) (by decide +kernel)) (by decide +kernel)
theorem lk_L_23 : xLk RL 23 Y_X5_load := Or.inl ml_L_23
theorem ml_L_27 : Cond.methodLink RL 27 yX5_about ∈ xTT := xTT_of (List.mem_of_getElem? (i := 473) (by decide +kernel)) (by decide +kernel)
theorem lk_L_27 : xLk RL 27 Y_X5_about := Or.inl ml_L_27
theorem ml_L_30 : Cond.methodLink RL 30 yX5_setting ∈ xTT := xTT_of (List.mem_of_getElem? (i := 503) (by decide +kernel)) (by decide +kernel)
theorem lk_L_30 : xLk RL 30 Y_X5_setting := Or.inl ml_L_30
theorem ml_L_33 : Cond.methodLink RL 33 yX5_bin ∈ xTT := xTT_of (List.mem_of_getElem? (i := 511) (by decide +kernel)) (by decide +kernel)
theorem lk_L_33 : xLk RL 33 Y_X5_bin := Or.inl ml_L_33
theorem ml_L_41 : Cond.methodLink RL 41 yX5_pulse ∈ xTT := xTT_of (List.mem_of_getElem? (i := 528) (by decide +kernel)) (by decide +kernel)
theorem lk_L_41 : xLk RL 41 Y_X5_pulse := Or.inl ml_L_41
theorem ml_L_44 : Cond.methodLink RL 44 yX5_fate ∈ xTT := xTT_of (List.mem_of_getElem? (i := 536) (by decide +kernel)) (by decide +kernel)
theorem lk_L_44 : xLk RL 44 Y_X5_fate := Or.inl ml_L_44
theorem ml_L_47 : Cond.methodLink RL 47 yX5_longest ∈ xTT := xTT_of (List.mem_of_getElem? (i := 552) (by decide +kernel)) (by decide +kernel)
theorem lk_L_47 : xLk RL 47 Y_X5_longest := Or.inl ml_L_47
theorem ml_L_50 : Cond.methodLink RL 50 yX5_pattern ∈ xTT := xTT_of (List.mem_of_getElem? (i := 565) (by decide +kernel)) (by decide +kernel)
theorem lk_L_50 : xLk RL 50 Y_X5_pattern := Or.inl ml_L_50
theorem ml_L_53 : Cond.methodLink RL 53 yX5_rain ∈ xTT := xTT_of (List.mem_of_getElem? (i := 585) (by decide +kernel)) (by decide +kernel)
theorem lk_L_53 : xLk RL 53 Y_X5_rain := Or.inl ml_L_53
theorem ml_L_57 : Cond.methodLink RL 57 yX5_drop ∈ xTT := xTT_of (List.mem_of_getElem? (i := 607) (by decide +kernel)) (by decide +kernel)
theorem lk_L_57 : xLk RL 57 Y_X5_drop := Or.inl ml_L_57
theorem ml_L_60 : Cond.methodLink RL 60 yX5_pass ∈ xTT := xTT_of (List.mem_of_getElem? (i := 623) (by decide +kernel)) (by decide +kernel)
theorem lk_L_60 : xLk RL 60 Y_X5_pass := Or.inl ml_L_60
theorem ml_L_63 : Cond.methodLink RL 63 yX5_set ∈ xTT := xTT_of (List.mem_of_getElem? (i := 631) (by decide +kernel)) (by decide +kernel)
theorem lk_L_63 : xLk RL 63 Y_X5_set := Or.inl ml_L_63
theorem ml_L_66 : Cond.methodLink RL 66 yX5_setBorder ∈ xTT := xTT_of (List.mem_of_getElem? (i := 644) (by decide +kernel)) (by decide +kernel)
theorem lk_L_66 : xLk RL 66 Y_X5_setBorder := Or.inl ml_L_66
theorem ml_L_69 : Cond.methodLink RL 69 yX5_undo ∈ xTT := xTT_of (List.mem_of_getElem? (i := 795) (by decide +kernel)) (by decide +kernel)
theorem lk_L_69 : xLk RL 69 Y_X5_undo := Or.inl ml_L_69
theorem ml_L_72 : Cond.methodLink RL 72 yX5_wouldBe ∈ xTT := xTT_of (List.mem_of_getElem? (i := 658) (by decide +kernel)) (by decide +kernel)
theorem lk_L_72 : xLk RL 72 Y_X5_wouldBe := Or.inl ml_L_72
theorem ml_L_75 : Cond.methodLink RL 75 yX5_leastSize ∈ xTT := xTT_of (List.mem_of_getElem? (i := 667) (by decide +kernel)) (by decide +kernel)
theorem lk_L_75 : xLk RL 75 Y_X5_leastSize := Or.inl ml_L_75
theorem ml_L_78 : Cond.methodLink RL 78 yX5_quietIn ∈ xTT := xTT_of (List.mem_of_getElem? (i := 675) (by decide +kernel)) (by decide +kernel)
theorem lk_L_78 : xLk RL 78 Y_X5_quietIn := Or.inl ml_L_78
theorem ml_L_81 : Cond.methodLink RL 81 yX5_replay ∈ xTT := xTT_of (List.mem_of_getElem? (i := 683) (by decide +kernel)) (by decide +kernel)
theorem lk_L_81 : xLk RL 81 Y_X5_replay := Or.inl ml_L_81
theorem ml_L_85 : Cond.methodLink RL 85 yX5_bestWindow ∈ xTT := xTT_of (List.mem_of_getElem? (i := 698) (by decide +kernel)) (by decide +kernel)
theorem lk_L_85 : xLk RL 85 Y_X5_bestWindow := Or.inl ml_L_85
theorem ml_L_88 : Cond.methodLink RL 88 yX5_runScript ∈ xTT := xTT_of (List.mem_of_getElem? (i := 714) (by decide +kernel)) (by decide +kernel)
theorem lk_L_88 : xLk RL 88 Y_X5_runScript := Or.inl ml_L_88
theorem ml_L_92 : Cond.methodLink RL 92 yX5_simulate ∈ xTT := xTT_of (List.mem_of_getElem? (i := 744) (by decide +kernel)) (by decide +kernel)
theorem lk_L_92 : xLk RL 92 Y_X5_simulate := Or.inl ml_L_92
theorem ml_L_96 : Cond.methodLink RL 96 yX5_save ∈ xTT := xTT_of (List.mem_of_getElem? (i := 432) (by decide +kernel)) (by decide +kernel)
theorem lk_L_96 : xLk RL 96 Y_X5_save := Or.inl ml_L_96
theorem ml_L_99 : Cond.methodLink RL 99 yX5_restore ∈ xTT := xTT_of (List.mem_of_getElem? (i := 457) (by decide +kernel)) (by decide +kernel)
theorem lk_L_99 : xLk RL 99 Y_X5_restore := Or.inl ml_L_99
theorem ml_L_104 : Cond.methodLink RL 104 yL_about ∈ xTT := xTT_of (List.mem_of_getElem? (i := 469) (by decide +kernel)) (by decide +kernel)
theorem lk_L_104 : xLk RL 104 Y_L_about := Or.inl ml_L_104
theorem ml_L_109 : Cond.methodLink RL 109 yL_setting ∈ xTT := xTT_of (List.mem_of_getElem? (i := 500) (by decide +kernel)) (by decide +kernel)
theorem lk_L_109 : xLk RL 109 Y_L_setting := Or.inl ml_L_109
theorem ml_L_111 : Cond.methodLink RL 111 yL_bin ∈ xTT := xTT_of (List.mem_of_getElem? (i := 508) (by decide +kernel)) (by decide +kernel)
theorem lk_L_111 : xLk RL 111 Y_L_bin := Or.inl ml_L_111
theorem ml_L_114 : Cond.methodLink RL 114 yL_pulse ∈ xTT := xTT_of (List.mem_of_getElem? (i := 525) (by decide +kernel)) (by decide +kernel)
theorem lk_L_114 : xLk RL 114 Y_L_pulse := Or.inl ml_L_114
theorem ml_L_116 : Cond.methodLink RL 116 yL_fate ∈ xTT := xTT_of (List.mem_of_getElem? (i := 533) (by decide +kernel)) (by decide +kernel)
theorem lk_L_116 : xLk RL 116 Y_L_fate := Or.inl ml_L_116
theorem ml_L_118 : Cond.methodLink RL 118 yX5_trueRain ∈ xTT := xTT_of (List.mem_of_getElem? (i := 545) (by decide +kernel)) (by decide +kernel)
theorem lk_L_118 : xLk RL 118 Y_X5_trueRain := Or.inl ml_L_118
theorem ml_L_122 : Cond.methodLink RL 122 yL_now ∈ xTT := xTT_of (List.mem_of_getElem? (i := 465) (by decide +kernel)) (by decide +kernel)
theorem lk_L_122 : xLk RL 122 Y_L_now := Or.inl ml_L_122
theorem ml_L_126 : Cond.methodLink RL 126 yL_longest ∈ xTT := xTT_of (List.mem_of_getElem? (i := 549) (by decide +kernel)) (by decide +kernel)
theorem lk_L_126 : xLk RL 126 Y_L_longest := Or.inl ml_L_126
theorem ml_L_128 : Cond.methodLink RL 128 yL_pattern ∈ xTT := xTT_of (List.mem_of_getElem? (i := 562) (by decide +kernel)) (by decide +kernel)
theorem lk_L_128 : xLk RL 128 Y_L_pattern := Or.inl ml_L_128
theorem ml_L_130 : Cond.methodLink RL 130 yL_rain ∈ xTT := xTT_of (List.mem_of_getElem? (i := 582) (by decide +kernel)) (by decide +kernel)
theorem lk_L_130 : xLk RL 130 Y_L_rain := Or.inl ml_L_130
theorem ml_L_132 : Cond.methodLink RL 132 yL_drop ∈ xTT := xTT_of (List.mem_of_getElem? (i := 604) (by decide +kernel)) (by decide +kernel)
theorem lk_L_132 : xLk RL 132 Y_L_drop := Or.inl ml_L_132
theorem ml_L_134 : Cond.methodLink RL 134 yL_pass ∈ xTT := xTT_of (List.mem_of_getElem? (i := 620) (by decide +kernel)) (by decide +kernel)
theorem lk_L_134 : xLk RL 134 Y_L_pass := Or.inl ml_L_134
theorem ml_L_136 : Cond.methodLink RL 136 yL_set ∈ xTT := xTT_of (List.mem_of_getElem? (i := 628) (by decide +kernel)) (by decide +kernel)
theorem lk_L_136 : xLk RL 136 Y_L_set := Or.inl ml_L_136
theorem ml_L_138 : Cond.methodLink RL 138 yL_setBorder ∈ xTT := xTT_of (List.mem_of_getElem? (i := 641) (by decide +kernel)) (by decide +kernel)
theorem lk_L_138 : xLk RL 138 Y_L_setBorder := Or.inl ml_L_138
theorem ml_L_140 : Cond.methodLink RL 140 yL_wouldBe ∈ xTT := xTT_of (List.mem_of_getElem? (i := 655) (by decide +kernel)) (by decide +kernel)
theorem lk_L_140 : xLk RL 140 Y_L_wouldBe := Or.inl ml_L_140
theorem ml_L_142 : Cond.methodLink RL 142 yL_leastSize ∈ xTT := xTT_of (List.mem_of_getElem? (i := 664) (by decide +kernel)) (by decide +kernel)
theorem lk_L_142 : xLk RL 142 Y_L_leastSize := Or.inl ml_L_142
theorem ml_L_144 : Cond.methodLink RL 144 yL_quietIn ∈ xTT := xTT_of (List.mem_of_getElem? (i := 672) (by decide +kernel)) (by decide +kernel)
theorem lk_L_144 : xLk RL 144 Y_L_quietIn := Or.inl ml_L_144
theorem ml_L_146 : Cond.methodLink RL 146 yL_replay ∈ xTT := xTT_of (List.mem_of_getElem? (i := 680) (by decide +kernel)) (by decide +kernel)
theorem lk_L_146 : xLk RL 146 Y_L_replay := Or.inl ml_L_146
theorem ml_L_149 : Cond.methodLink RL 149 yL_bestWindow ∈ xTT := xTT_of (List.mem_of_getElem? (i := 695) (by decide +kernel)) (by decide +kernel)
theorem lk_L_149 : xLk RL 149 Y_L_bestWindow := Or.inl ml_L_149
theorem ml_L_151 : Cond.methodLink RL 151 yL_script ∈ xTT := xTT_of (List.mem_of_getElem? (i := 711) (by decide +kernel)) (by decide +kernel)
theorem lk_L_151 : xLk RL 151 Y_L_script := Or.inl ml_L_151
theorem ml_L_157 : Cond.methodLink RL 157 yL_simulate ∈ xTT := xTT_of (List.mem_of_getElem? (i := 741) (by decide +kernel)) (by decide +kernel)
theorem lk_L_157 : xLk RL 157 Y_L_simulate := Or.inl ml_L_157
theorem ml_L_160 : Cond.methodLink RL 160 yL_save ∈ xTT := xTT_of (List.mem_of_getElem? (i := 428) (by decide +kernel)) (by decide +kernel)
theorem lk_L_160 : xLk RL 160 Y_L_save := Or.inl ml_L_160
theorem ml_L_162 : Cond.methodLink RL 162 yL_restore ∈ xTT := xTT_of (List.mem_of_getElem? (i := 454) (by decide +kernel)) (by decide +kernel)
theorem lk_L_162 : xLk RL 162 Y_L_restore := Or.inl ml_L_162
theorem ml_L_164 : Cond.methodLink RL 164 yL_append ∈ xTT := xTT_of (List.mem_of_getElem? (i := 755) (by decide +kernel)) (by decide +kernel)
theorem lk_L_164 : xLk RL 164 Y_L_append := Or.inl ml_L_164
theorem ml_L_172 : Cond.methodLink RL 172 yL_in ∈ xTT := xTT_of (List.mem_of_getElem? (i := 779) (by decide +kernel)) (by decide +kernel)
theorem lk_L_172 : xLk RL 172 Y_L_in := Or.inl ml_L_172
theorem ml_L_190 : Cond.methodLink RL 190 yL_undo ∈ xTT := xTT_of (List.mem_of_getElem? (i := 792) (by decide +kernel)) (by decide +kernel)
theorem lk_L_190 : xLk RL 190 Y_L_undo := Or.inl ml_L_190
theorem ml_L_196 : Cond.methodLink RL 196 yX5_empty ∈ xTT := xTT_of (List.mem_of_getElem? (i := 802) (by decide +kernel)) (by decide +kernel)
theorem lk_L_196 : xLk RL 196 Y_X5_empty := Or.inl ml_L_196
theorem ml_L_199 : Cond.methodLink RL 199 yX5_errorPosition ∈ xTT := xTT_of (List.mem_of_getElem? (i := 816) (by decide +kernel)) (by decide +kernel)
theorem lk_L_199 : xLk RL 199 Y_X5_errorPosition := Or.inl ml_L_199
theorem ml_L_204 : Cond.methodLink RL 204 yX5_clearText ∈ xTT := xTT_of (List.mem_of_getElem? (i := 824) (by decide +kernel)) (by decide +kernel)
theorem lk_L_204 : xLk RL 204 Y_X5_clearText := Or.inl ml_L_204
theorem ml_L_207 : Cond.methodLink RL 207 yL_types ∈ xTT := xTT_of (List.mem_of_getElem? (i := 832) (by decide +kernel)) (by decide +kernel)
theorem lk_L_207 : xLk RL 207 Y_L_types := Or.inl ml_L_207
theorem ml_L_211 : Cond.methodLink RL 211 yX5_init ∈ xTT := xTT_of (List.mem_of_getElem? (i := 33) (by decide +kernel)) (by decide +kernel)
theorem lk_L_211 : xLk RL 211 Y_X5_init := Or.inl ml_L_211
theorem ml_L_212 : Cond.methodLink RL 212 yL_draw ∈ xTT := xTT_of (List.mem_of_getElem? (i := 209) (by decide +kernel)) (by decide +kernel)
theorem lk_L_212 : xLk RL 212 Y_L_draw := Or.inl ml_L_212
theorem ml_L_216 : Cond.methodLink RL 216 yL_alike ∈ xTT := xTT_of (List.mem_of_getElem? (i := 813) (by decide +kernel)) (by decide +kernel)
theorem lk_L_216 : xLk RL 216 Y_L_alike := Or.inl ml_L_216
theorem ml_L_220 : Cond.methodLink RL 220 yL_errors ∈ xTT := xTT_of (List.mem_of_getElem? (i := 462) (by decide +kernel)) (by decide +kernel)
theorem lk_L_220 : xLk RL 220 Y_L_errors := Or.inl ml_L_220
theorem ml_L_224 : Cond.methodLink RL 224 yL_kept ∈ xTT := xTT_of (List.mem_of_getElem? (i := 773) (by decide +kernel)) (by decide +kernel)
theorem lk_L_224 : xLk RL 224 Y_L_kept := Or.inl ml_L_224
theorem ml_L_227 : Cond.methodLink RL 227 yL_tells ∈ xTT := xTT_of (List.mem_of_getElem? (i := 821) (by decide +kernel)) (by decide +kernel)
theorem lk_L_227 : xLk RL 227 Y_L_tells := Or.inl ml_L_227
theorem ml_L_231 : Cond.methodLink RL 231 yL_load ∈ xTT := xTT_of (List.mem_of_getElem? (i := 214) (by decide +kernel)) (by decide +kernel)
theorem lk_L_231 : xLk RL 231 Y_L_load := Or.inl ml_L_231
theorem ml_L_233 : Cond.methodLink RL 233 yL_act ∈ xTT := xTT_of (List.mem_of_getElem? (i := 835) (by decide +kernel)) (by decide +kernel)
theorem lk_L_233 : xLk RL 233 Y_L_act := Or.inl ml_L_233
theorem ml_L_236 : Cond.methodLink RL 236 yL_follows ∈ xTT := xTT_of (List.mem_of_getElem? (i := 783) (by decide +kernel)) (by decide +kernel)
theorem lk_L_236 : xLk RL 236 Y_L_follows := Or.inl ml_L_236
theorem mo_1 : Cond.instanceMethod Lib.objectInit ∈ xTT := xTT_of (List.mem_of_getElem? (i := 37) (by decide +kernel)) (by decide +kernel)
theorem mo_2 : Cond.code Lib.objectInit ⟨#[0xb1]⟩ 1 none ∈ xTT := xTT_of (List.mem_of_getElem? (i := 38) (by decide +kernel)) (by decide +kernel)
theorem mo_3 : Cond.initialized "java/lang/Math" ∈ xTT := xTT_of (List.mem_of_getElem? (i := 24) (by decide +kernel)) (by decide +kernel)
theorem mst_max : Cond.static Lib.Math.max.name ∈ xTT := xTT_of (List.mem_of_getElem? (i := 128) (by decide +kernel)) (by decide +kernel)
theorem mcd_max : Cond.code Lib.Math.max.name Lib.Math.max.code 2 (some .int) ∈ xTT := xTT_of (List.mem_of_getElem? (i := 129) (by decide +kernel)) (by decide +kernel)
theorem mst_min : Cond.static Lib.Math.min.name ∈ xTT := xTT_of (List.mem_of_getElem? (i := 412) (by decide +kernel)) (by decide +kernel)
theorem mcd_min : Cond.code Lib.Math.min.name Lib.Math.min.code 2 (some .int) ∈ xTT := xTT_of (List.mem_of_getElem? (i := 413) (by decide +kernel)) (by decide +kernel)
theorem mst_abs : Cond.static Lib.MathLoose.abs_long.x ∈ xTT := xTT_of (List.mem_of_getElem? (i := 709) (by decide +kernel)) (by decide +kernel)
theorem mcd_abs : Cond.code Lib.MathLoose.abs_long.x Lib.MathLoose.abs_long.code 2 (some .long) ∈ xTT := xTT_of (List.mem_of_getElem? (i := 710) (by decide +kernel)) (by decide +kernel)
theorem fd_X5_10 : xFld RX5 10 5 0 := ⟨_, rfl, by decide, mw_X5, Or.inl (xTT_of (List.mem_of_getElem? (i := 175) (by decide +kernel)) (by decide +kernel))⟩
theorem fw_X5_10 : xFldW RX5 10 5 0 (.object "ImpactPlate$Text") true := ⟨_, tyX5, rfl, by decide, mw_X5, Or.inl (xTT_of (List.mem_of_getElem? (i := 175) (by decide +kernel)) (by decide +kernel)), tyX5_ok, nmX5, rfl, rfl, fun _ => rfl⟩
theorem fd_X5_19 : xFld RX5 19 5 1 := ⟨_, rfl, by decide, mw_X5, Or.inl (xTT_of (List.mem_of_getElem? (i := 176) (by decide +kernel)) (by decide +kernel))⟩
theorem fw_X5_19 : xFldW RX5 19 5 1 (.object "ImpactPlate$State") true := ⟨_, tyX5, rfl, by decide, mw_X5, Or.inl (xTT_of (List.mem_of_getElem? (i := 176) (by decide +kernel)) (by decide +kernel)), tyX5_ok, nmX5, rfl, rfl, fun _ => rfl⟩
theorem fd_X5_23 : xFld RX5 23 5 2 := ⟨_, rfl, by decide, mw_X5, Or.inl (xTT_of (List.mem_of_getElem? (i := 177) (by decide +kernel)) (by decide +kernel))⟩
theorem fw_X5_23 : xFldW RX5 23 5 2 (.object "ImpactPlate$State") true := ⟨_, tyX5, rfl, by decide, mw_X5, Or.inl (xTT_of (List.mem_of_getElem? (i := 177) (by decide +kernel)) (by decide +kernel)), tyX5_ok, nmX5, rfl, rfl, fun _ => rfl⟩
theorem fd_X5_26 : xFld RX5 26 5 3 := ⟨_, rfl, by decide, mw_X5, Or.inl (xTT_of (List.mem_of_getElem? (i := 178) (by decide +kernel)) (by decide +kernel))⟩
theorem fw_X5_26 : xFldW RX5 26 5 3 (.object "ImpactPlate$State") true := ⟨_, tyX5, rfl, by decide, mw_X5, Or.inl (xTT_of (List.mem_of_getElem? (i := 178) (by decide +kernel)) (by decide +kernel)), tyX5_ok, nmX5, rfl, rfl, fun _ => rfl⟩
theorem fd_X5_29 : xFld RX5 29 5 4 := ⟨_, rfl, by decide, mw_X5, Or.inl (xTT_of (List.mem_of_getElem? (i := 179) (by decide +kernel)) (by decide +kernel))⟩
theorem fw_X5_29 : xFldW RX5 29 5 4 (.array (.object "ImpactPlate$State")) true := ⟨_, tyX5, rfl, by decide, mw_X5, Or.inl (xTT_of (List.mem_of_getElem? (i := 179) (by decide +kernel)) (by decide +kernel)), tyX5_ok, nmX5, rfl, rfl, fun _ => rfl⟩
theorem fd_X5_33 : xFld RX5 33 5 5 := ⟨_, rfl, by decide, mw_X5, Or.inl (xTT_of (List.mem_of_getElem? (i := 180) (by decide +kernel)) (by decide +kernel))⟩
theorem fw_X5_33 : xFldW RX5 33 5 5 .int false := ⟨_, tyX5, rfl, by decide, mw_X5, Or.inl (xTT_of (List.mem_of_getElem? (i := 180) (by decide +kernel)) (by decide +kernel)), tyX5_ok, nmX5, rfl, rfl, fun h => by cases h⟩
theorem fd_X5_37 : xFld RX5 37 5 6 := ⟨_, rfl, by decide, mw_X5, Or.inl (xTT_of (List.mem_of_getElem? (i := 181) (by decide +kernel)) (by decide +kernel))⟩
theorem fw_X5_37 : xFldW RX5 37 5 6 .int false := ⟨_, tyX5, rfl, by decide, mw_X5, Or.inl (xTT_of (List.mem_of_getElem? (i := 181) (by decide +kernel)) (by decide +kernel)), tyX5_ok, nmX5, rfl, rfl, fun h => by cases h⟩
theorem fd_X5_40 : xFld RX5 40 5 7 := ⟨_, rfl, by decide, mw_X5, Or.inl (xTT_of (List.mem_of_getElem? (i := 182) (by decide +kernel)) (by decide +kernel))⟩
theorem fw_X5_40 : xFldW RX5 40 5 7 (.object "ImpactPlate$State") true := ⟨_, tyX5, rfl, by decide, mw_X5, Or.inl (xTT_of (List.mem_of_getElem? (i := 182) (by decide +kernel)) (by decide +kernel)), tyX5_ok, nmX5, rfl, rfl, fun _ => rfl⟩
theorem fd_X5_43 : xFld RX5 43 5 8 := ⟨_, rfl, by decide, mw_X5, Or.inl (xTT_of (List.mem_of_getElem? (i := 183) (by decide +kernel)) (by decide +kernel))⟩
theorem fw_X5_43 : xFldW RX5 43 5 8 (.object "ImpactPlate$State") true := ⟨_, tyX5, rfl, by decide, mw_X5, Or.inl (xTT_of (List.mem_of_getElem? (i := 183) (by decide +kernel)) (by decide +kernel)), tyX5_ok, nmX5, rfl, rfl, fun _ => rfl⟩
theorem fd_X5_46 : xFld RX5 46 5 9 := ⟨_, rfl, by decide, mw_X5, Or.inl (xTT_of (List.mem_of_getElem? (i := 184) (by decide +kernel)) (by decide +kernel))⟩
theorem fw_X5_46 : xFldW RX5 46 5 9 .boolean false := ⟨_, tyX5, rfl, by decide, mw_X5, Or.inl (xTT_of (List.mem_of_getElem? (i := 184) (by decide +kernel)) (by decide +kernel)), tyX5_ok, nmX5, rfl, rfl, fun h => by cases h⟩
theorem fd_X5_50 : xFld RX5 50 5 10 := ⟨_, rfl, by decide, mw_X5, Or.inl (xTT_of (List.mem_of_getElem? (i := 185) (by decide +kernel)) (by decide +kernel))⟩
theorem fw_X5_50 : xFldW RX5 50 5 10 .boolean false := ⟨_, tyX5, rfl, by decide, mw_X5, Or.inl (xTT_of (List.mem_of_getElem? (i := 185) (by decide +kernel)) (by decide +kernel)), tyX5_ok, nmX5, rfl, rfl, fun h => by cases h⟩
theorem fd_X5_90 : xFld RX5 90 4 1 := ⟨_, rfl, by decide, mw_X4, Or.inr ⟨"ImpactPlate", xTT_of (List.mem_of_getElem? (i := 47) (by decide +kernel)) (by decide +kernel)⟩⟩
theorem fd_X5_100 : xFld RX5 100 3 1 := ⟨_, rfl, by decide, mw_X3, Or.inr ⟨"ImpactPlate", xTT_of (List.mem_of_getElem? (i := 168) (by decide +kernel)) (by decide +kernel)⟩⟩
theorem fd_X5_109 : xFld RX5 109 3 0 := ⟨_, rfl, by decide, mw_X3, Or.inr ⟨"ImpactPlate", xTT_of (List.mem_of_getElem? (i := 166) (by decide +kernel)) (by decide +kernel)⟩⟩
theorem fd_X5_113 : xFld RX5 113 2 0 := ⟨_, rfl, by decide, mw_X2, Or.inr ⟨"ImpactPlate", xTT_of (List.mem_of_getElem? (i := 68) (by decide +kernel)) (by decide +kernel)⟩⟩
theorem fd_X5_121 : xFld RX5 121 2 9 := ⟨_, rfl, by decide, mw_X2, Or.inr ⟨"ImpactPlate", xTT_of (List.mem_of_getElem? (i := 85) (by decide +kernel)) (by decide +kernel)⟩⟩
theorem fd_X5_129 : xFld RX5 129 2 10 := ⟨_, rfl, by decide, mw_X2, Or.inr ⟨"ImpactPlate", xTT_of (List.mem_of_getElem? (i := 87) (by decide +kernel)) (by decide +kernel)⟩⟩
theorem fd_X5_135 : xFld RX5 135 0 4 := ⟨_, rfl, by decide, mw_X0, Or.inr ⟨"ImpactPlate", xTT_of (List.mem_of_getElem? (i := 149) (by decide +kernel)) (by decide +kernel)⟩⟩
theorem fd_X5_139 : xFld RX5 139 1 2 := ⟨_, rfl, by decide, mw_X1, Or.inr ⟨"ImpactPlate", xTT_of (List.mem_of_getElem? (i := 134) (by decide +kernel)) (by decide +kernel)⟩⟩
theorem fd_X5_142 : xFld RX5 142 0 3 := ⟨_, rfl, by decide, mw_X0, Or.inr ⟨"ImpactPlate", xTT_of (List.mem_of_getElem? (i := 147) (by decide +kernel)) (by decide +kernel)⟩⟩
theorem fd_X5_145 : xFld RX5 145 2 6 := ⟨_, rfl, by decide, mw_X2, Or.inr ⟨"ImpactPlate", xTT_of (List.mem_of_getElem? (i := 79) (by decide +kernel)) (by decide +kernel)⟩⟩
theorem fd_X5_152 : xFld RX5 152 2 1 := ⟨_, rfl, by decide, mw_X2, Or.inr ⟨"ImpactPlate", xTT_of (List.mem_of_getElem? (i := 70) (by decide +kernel)) (by decide +kernel)⟩⟩
theorem fd_X5_166 : xFld RX5 166 2 11 := ⟨_, rfl, by decide, mw_X2, Or.inr ⟨"ImpactPlate", xTT_of (List.mem_of_getElem? (i := 89) (by decide +kernel)) (by decide +kernel)⟩⟩
theorem fd_X5_173 : xFld RX5 173 2 4 := ⟨_, rfl, by decide, mw_X2, Or.inr ⟨"ImpactPlate", xTT_of (List.mem_of_getElem? (i := 75) (by decide +kernel)) (by decide +kernel)⟩⟩
theorem fd_X5_176 : xFld RX5 176 2 5 := ⟨_, rfl, by decide, mw_X2, Or.inr ⟨"ImpactPlate", xTT_of (List.mem_of_getElem? (i := 77) (by decide +kernel)) (by decide +kernel)⟩⟩
theorem fd_X5_179 : xFld RX5 179 2 7 := ⟨_, rfl, by decide, mw_X2, Or.inr ⟨"ImpactPlate", xTT_of (List.mem_of_getElem? (i := 81) (by decide +kernel)) (by decide +kernel)⟩⟩
theorem fd_X5_182 : xFld RX5 182 2 8 := ⟨_, rfl, by decide, mw_X2, Or.inr ⟨"ImpactPlate", xTT_of (List.mem_of_getElem? (i := 83) (by decide +kernel)) (by decide +kernel)⟩⟩
theorem fd_X5_213 : xFld RX5 213 0 1 := ⟨_, rfl, by decide, mw_X0, Or.inr ⟨"ImpactPlate", xTT_of (List.mem_of_getElem? (i := 144) (by decide +kernel)) (by decide +kernel)⟩⟩
theorem fd_X5_247 : xFld RX5 247 2 2 := ⟨_, rfl, by decide, mw_X2, Or.inr ⟨"ImpactPlate", xTT_of (List.mem_of_getElem? (i := 72) (by decide +kernel)) (by decide +kernel)⟩⟩
theorem mg_X5_275 : Cond.fieldLink RX5 275 RX5 "LEAST_SETTING" "[I" ∈ xTT := xTT_of (List.mem_of_getElem? (i := 638) (by decide +kernel)) (by decide +kernel)
theorem mg_X5_278 : Cond.fieldLink RX5 278 RX5 "GREATEST_SETTING" "[I" ∈ xTT := xTT_of (List.mem_of_getElem? (i := 639) (by decide +kernel)) (by decide +kernel)
theorem fd_X5_335 : xFld RX5 335 0 5 := ⟨_, rfl, by decide, mw_X0, Or.inr ⟨"ImpactPlate", xTT_of (List.mem_of_getElem? (i := 151) (by decide +kernel)) (by decide +kernel)⟩⟩
theorem fd_X0_9 : xFld RX0 9 0 0 := ⟨_, rfl, by decide, mw_X0, Or.inl (xTT_of (List.mem_of_getElem? (i := 142) (by decide +kernel)) (by decide +kernel))⟩
theorem fw_X0_9 : xFldW RX0 9 0 0 (.array .int) true := ⟨_, tyX0, rfl, by decide, mw_X0, Or.inl (xTT_of (List.mem_of_getElem? (i := 142) (by decide +kernel)) (by decide +kernel)), tyX0_ok, nmX0, rfl, rfl, fun _ => rfl⟩
theorem fd_X0_15 : xFld RX0 15 0 1 := ⟨_, rfl, by decide, mw_X0, Or.inl (xTT_of (List.mem_of_getElem? (i := 143) (by decide +kernel)) (by decide +kernel))⟩
theorem fw_X0_15 : xFldW RX0 15 0 1 .long false := ⟨_, tyX0, rfl, by decide, mw_X0, Or.inl (xTT_of (List.mem_of_getElem? (i := 143) (by decide +kernel)) (by decide +kernel)), tyX0_ok, nmX0, rfl, rfl, fun h => by cases h⟩
theorem fd_X0_19 : xFld RX0 19 0 2 := ⟨_, rfl, by decide, mw_X0, Or.inl (xTT_of (List.mem_of_getElem? (i := 145) (by decide +kernel)) (by decide +kernel))⟩
theorem fw_X0_19 : xFldW RX0 19 0 2 .int false := ⟨_, tyX0, rfl, by decide, mw_X0, Or.inl (xTT_of (List.mem_of_getElem? (i := 145) (by decide +kernel)) (by decide +kernel)), tyX0_ok, nmX0, rfl, rfl, fun h => by cases h⟩
theorem fd_X0_28 : xFld RX0 28 0 3 := ⟨_, rfl, by decide, mw_X0, Or.inl (xTT_of (List.mem_of_getElem? (i := 146) (by decide +kernel)) (by decide +kernel))⟩
theorem fw_X0_28 : xFldW RX0 28 0 3 (.object "ImpactPlate$LastNumbers") true := ⟨_, tyX0, rfl, by decide, mw_X0, Or.inl (xTT_of (List.mem_of_getElem? (i := 146) (by decide +kernel)) (by decide +kernel)), tyX0_ok, nmX0, rfl, rfl, fun _ => rfl⟩
theorem fd_X0_32 : xFld RX0 32 0 4 := ⟨_, rfl, by decide, mw_X0, Or.inl (xTT_of (List.mem_of_getElem? (i := 148) (by decide +kernel)) (by decide +kernel))⟩
theorem fw_X0_32 : xFldW RX0 32 0 4 (.object "ImpactPlate$LastNumbers") true := ⟨_, tyX0, rfl, by decide, mw_X0, Or.inl (xTT_of (List.mem_of_getElem? (i := 148) (by decide +kernel)) (by decide +kernel)), tyX0_ok, nmX0, rfl, rfl, fun _ => rfl⟩
theorem fd_X0_35 : xFld RX0 35 0 5 := ⟨_, rfl, by decide, mw_X0, Or.inl (xTT_of (List.mem_of_getElem? (i := 150) (by decide +kernel)) (by decide +kernel))⟩
theorem fw_X0_35 : xFldW RX0 35 0 5 (.object "ImpactPlate$LastNumbers") true := ⟨_, tyX0, rfl, by decide, mw_X0, Or.inl (xTT_of (List.mem_of_getElem? (i := 150) (by decide +kernel)) (by decide +kernel)), tyX0_ok, nmX0, rfl, rfl, fun _ => rfl⟩
theorem fd_X0_49 : xFld RX0 49 1 2 := ⟨_, rfl, by decide, mw_X1, Or.inr ⟨"ImpactPlate", xTT_of (List.mem_of_getElem? (i := 133) (by decide +kernel)) (by decide +kernel)⟩⟩
theorem fd_X1_9 : xFld RX1 9 1 1 := ⟨_, rfl, by decide, mw_X1, Or.inl (xTT_of (List.mem_of_getElem? (i := 131) (by decide +kernel)) (by decide +kernel))⟩
theorem fw_X1_9 : xFldW RX1 9 1 1 .int false := ⟨_, tyX1, rfl, by decide, mw_X1, Or.inl (xTT_of (List.mem_of_getElem? (i := 131) (by decide +kernel)) (by decide +kernel)), tyX1_ok, nmX1, rfl, rfl, fun h => by cases h⟩
theorem fd_X1_15 : xFld RX1 15 1 2 := ⟨_, rfl, by decide, mw_X1, Or.inl (xTT_of (List.mem_of_getElem? (i := 132) (by decide +kernel)) (by decide +kernel))⟩
theorem fw_X1_15 : xFldW RX1 15 1 2 .int false := ⟨_, tyX1, rfl, by decide, mw_X1, Or.inl (xTT_of (List.mem_of_getElem? (i := 132) (by decide +kernel)) (by decide +kernel)), tyX1_ok, nmX1, rfl, rfl, fun h => by cases h⟩
theorem fd_X1_24 : xFld RX1 24 1 0 := ⟨_, rfl, by decide, mw_X1, Or.inl (xTT_of (List.mem_of_getElem? (i := 130) (by decide +kernel)) (by decide +kernel))⟩
theorem fw_X1_24 : xFldW RX1 24 1 0 (.array .int) true := ⟨_, tyX1, rfl, by decide, mw_X1, Or.inl (xTT_of (List.mem_of_getElem? (i := 130) (by decide +kernel)) (by decide +kernel)), tyX1_ok, nmX1, rfl, rfl, fun _ => rfl⟩
theorem fd_X2_9 : xFld RX2 9 2 0 := ⟨_, rfl, by decide, mw_X2, Or.inl (xTT_of (List.mem_of_getElem? (i := 66) (by decide +kernel)) (by decide +kernel))⟩
theorem fw_X2_9 : xFldW RX2 9 2 0 .int false := ⟨_, tyX2, rfl, by decide, mw_X2, Or.inl (xTT_of (List.mem_of_getElem? (i := 66) (by decide +kernel)) (by decide +kernel)), tyX2_ok, nmX2, rfl, rfl, fun h => by cases h⟩
theorem fd_X2_15 : xFld RX2 15 2 1 := ⟨_, rfl, by decide, mw_X2, Or.inl (xTT_of (List.mem_of_getElem? (i := 69) (by decide +kernel)) (by decide +kernel))⟩
theorem fw_X2_15 : xFldW RX2 15 2 1 (.array .int) true := ⟨_, tyX2, rfl, by decide, mw_X2, Or.inl (xTT_of (List.mem_of_getElem? (i := 69) (by decide +kernel)) (by decide +kernel)), tyX2_ok, nmX2, rfl, rfl, fun _ => rfl⟩
theorem fd_X2_19 : xFld RX2 19 2 2 := ⟨_, rfl, by decide, mw_X2, Or.inl (xTT_of (List.mem_of_getElem? (i := 71) (by decide +kernel)) (by decide +kernel))⟩
theorem fw_X2_19 : xFldW RX2 19 2 2 (.array .int) true := ⟨_, tyX2, rfl, by decide, mw_X2, Or.inl (xTT_of (List.mem_of_getElem? (i := 71) (by decide +kernel)) (by decide +kernel)), tyX2_ok, nmX2, rfl, rfl, fun _ => rfl⟩
theorem fd_X2_22 : xFld RX2 22 2 3 := ⟨_, rfl, by decide, mw_X2, Or.inl (xTT_of (List.mem_of_getElem? (i := 73) (by decide +kernel)) (by decide +kernel))⟩
theorem fw_X2_22 : xFldW RX2 22 2 3 .boolean false := ⟨_, tyX2, rfl, by decide, mw_X2, Or.inl (xTT_of (List.mem_of_getElem? (i := 73) (by decide +kernel)) (by decide +kernel)), tyX2_ok, nmX2, rfl, rfl, fun h => by cases h⟩
theorem fd_X2_26 : xFld RX2 26 2 4 := ⟨_, rfl, by decide, mw_X2, Or.inl (xTT_of (List.mem_of_getElem? (i := 74) (by decide +kernel)) (by decide +kernel))⟩
theorem fw_X2_26 : xFldW RX2 26 2 4 .int false := ⟨_, tyX2, rfl, by decide, mw_X2, Or.inl (xTT_of (List.mem_of_getElem? (i := 74) (by decide +kernel)) (by decide +kernel)), tyX2_ok, nmX2, rfl, rfl, fun h => by cases h⟩
theorem fd_X2_29 : xFld RX2 29 2 5 := ⟨_, rfl, by decide, mw_X2, Or.inl (xTT_of (List.mem_of_getElem? (i := 76) (by decide +kernel)) (by decide +kernel))⟩
theorem fw_X2_29 : xFldW RX2 29 2 5 .int false := ⟨_, tyX2, rfl, by decide, mw_X2, Or.inl (xTT_of (List.mem_of_getElem? (i := 76) (by decide +kernel)) (by decide +kernel)), tyX2_ok, nmX2, rfl, rfl, fun h => by cases h⟩
theorem fd_X2_32 : xFld RX2 32 2 6 := ⟨_, rfl, by decide, mw_X2, Or.inl (xTT_of (List.mem_of_getElem? (i := 78) (by decide +kernel)) (by decide +kernel))⟩
theorem fw_X2_32 : xFldW RX2 32 2 6 .boolean false := ⟨_, tyX2, rfl, by decide, mw_X2, Or.inl (xTT_of (List.mem_of_getElem? (i := 78) (by decide +kernel)) (by decide +kernel)), tyX2_ok, nmX2, rfl, rfl, fun h => by cases h⟩
theorem fd_X2_35 : xFld RX2 35 2 7 := ⟨_, rfl, by decide, mw_X2, Or.inl (xTT_of (List.mem_of_getElem? (i := 80) (by decide +kernel)) (by decide +kernel))⟩
theorem fw_X2_35 : xFldW RX2 35 2 7 .int false := ⟨_, tyX2, rfl, by decide, mw_X2, Or.inl (xTT_of (List.mem_of_getElem? (i := 80) (by decide +kernel)) (by decide +kernel)), tyX2_ok, nmX2, rfl, rfl, fun h => by cases h⟩
theorem fd_X2_38 : xFld RX2 38 2 8 := ⟨_, rfl, by decide, mw_X2, Or.inl (xTT_of (List.mem_of_getElem? (i := 82) (by decide +kernel)) (by decide +kernel))⟩
theorem fw_X2_38 : xFldW RX2 38 2 8 .boolean false := ⟨_, tyX2, rfl, by decide, mw_X2, Or.inl (xTT_of (List.mem_of_getElem? (i := 82) (by decide +kernel)) (by decide +kernel)), tyX2_ok, nmX2, rfl, rfl, fun h => by cases h⟩
theorem fd_X2_41 : xFld RX2 41 2 9 := ⟨_, rfl, by decide, mw_X2, Or.inl (xTT_of (List.mem_of_getElem? (i := 84) (by decide +kernel)) (by decide +kernel))⟩
theorem fw_X2_41 : xFldW RX2 41 2 9 (.array .int) true := ⟨_, tyX2, rfl, by decide, mw_X2, Or.inl (xTT_of (List.mem_of_getElem? (i := 84) (by decide +kernel)) (by decide +kernel)), tyX2_ok, nmX2, rfl, rfl, fun _ => rfl⟩
theorem fd_X2_44 : xFld RX2 44 2 10 := ⟨_, rfl, by decide, mw_X2, Or.inl (xTT_of (List.mem_of_getElem? (i := 86) (by decide +kernel)) (by decide +kernel))⟩
theorem fw_X2_44 : xFldW RX2 44 2 10 (.array .int) true := ⟨_, tyX2, rfl, by decide, mw_X2, Or.inl (xTT_of (List.mem_of_getElem? (i := 86) (by decide +kernel)) (by decide +kernel)), tyX2_ok, nmX2, rfl, rfl, fun _ => rfl⟩
theorem fd_X2_47 : xFld RX2 47 2 11 := ⟨_, rfl, by decide, mw_X2, Or.inl (xTT_of (List.mem_of_getElem? (i := 88) (by decide +kernel)) (by decide +kernel))⟩
theorem fw_X2_47 : xFldW RX2 47 2 11 (.array .int) true := ⟨_, tyX2, rfl, by decide, mw_X2, Or.inl (xTT_of (List.mem_of_getElem? (i := 88) (by decide +kernel)) (by decide +kernel)), tyX2_ok, nmX2, rfl, rfl, fun _ => rfl⟩
theorem fd_X3_10 : xFld RX3 10 3 0 := ⟨_, rfl, by decide, mw_X3, Or.inl (xTT_of (List.mem_of_getElem? (i := 165) (by decide +kernel)) (by decide +kernel))⟩
theorem fw_X3_10 : xFldW RX3 10 3 0 (.object "ImpactPlate$Plate") true := ⟨_, tyX3, rfl, by decide, mw_X3, Or.inl (xTT_of (List.mem_of_getElem? (i := 165) (by decide +kernel)) (by decide +kernel)), tyX3_ok, nmX3, rfl, rfl, fun _ => rfl⟩
theorem fd_X3_19 : xFld RX3 19 3 1 := ⟨_, rfl, by decide, mw_X3, Or.inl (xTT_of (List.mem_of_getElem? (i := 167) (by decide +kernel)) (by decide +kernel))⟩
theorem fw_X3_19 : xFldW RX3 19 3 1 (.object "ImpactPlate$Accounts") true := ⟨_, tyX3, rfl, by decide, mw_X3, Or.inl (xTT_of (List.mem_of_getElem? (i := 167) (by decide +kernel)) (by decide +kernel)), tyX3_ok, nmX3, rfl, rfl, fun _ => rfl⟩
theorem fd_X3_27 : xFld RX3 27 2 0 := ⟨_, rfl, by decide, mw_X2, Or.inr ⟨"ImpactPlate", xTT_of (List.mem_of_getElem? (i := 67) (by decide +kernel)) (by decide +kernel)⟩⟩
theorem fd_X4_9 : xFld RX4 9 4 0 := ⟨_, rfl, by decide, mw_X4, Or.inl (xTT_of (List.mem_of_getElem? (i := 45) (by decide +kernel)) (by decide +kernel))⟩
theorem fw_X4_9 : xFldW RX4 9 4 0 (.array .int) true := ⟨_, tyX4, rfl, by decide, mw_X4, Or.inl (xTT_of (List.mem_of_getElem? (i := 45) (by decide +kernel)) (by decide +kernel)), tyX4_ok, nmX4, rfl, rfl, fun _ => rfl⟩
theorem fd_X4_15 : xFld RX4 15 4 1 := ⟨_, rfl, by decide, mw_X4, Or.inl (xTT_of (List.mem_of_getElem? (i := 46) (by decide +kernel)) (by decide +kernel))⟩
theorem fw_X4_15 : xFldW RX4 15 4 1 .int false := ⟨_, tyX4, rfl, by decide, mw_X4, Or.inl (xTT_of (List.mem_of_getElem? (i := 46) (by decide +kernel)) (by decide +kernel)), tyX4_ok, nmX4, rfl, rfl, fun h => by cases h⟩
theorem mg_X4_47 : Cond.fieldLinkNest RX4 47 RX5 "LEAST_SETTING" "[I" "ImpactPlate" ∈ xTT := xTT_of (List.mem_of_getElem? (i := 253) (by decide +kernel)) (by decide +kernel)
theorem mg_X4_50 : Cond.fieldLinkNest RX4 50 RX5 "GREATEST_SETTING" "[I" "ImpactPlate" ∈ xTT := xTT_of (List.mem_of_getElem? (i := 255) (by decide +kernel)) (by decide +kernel)
theorem mk_X5_298 : Cond.constantLong RX5 298 (100000) ∈ xTT := xTT_of (List.mem_of_getElem? (i := 722) (by decide +kernel)) (by decide +kernel)
theorem mk_X5_306 : Cond.constantLong RX5 306 (6364136223846793005) ∈ xTT := xTT_of (List.mem_of_getElem? (i := 749) (by decide +kernel)) (by decide +kernel)
theorem mk_X5_308 : Cond.constantLong RX5 308 (1442695040888963407) ∈ xTT := xTT_of (List.mem_of_getElem? (i := 750) (by decide +kernel)) (by decide +kernel)
theorem mk_X5_350 : Cond.constant RX5 350 (1000000) ∈ xTT := xTT_of (List.mem_of_getElem? (i := 754) (by decide +kernel)) (by decide +kernel)
theorem mk_L_7 : Cond.constant RL 7 (15593287) ∈ xTT := xTT_of (List.mem_of_getElem? (i := 212) (by decide +kernel)) (by decide +kernel)
theorem mk_L_8 : Cond.constant RL 8 (2147483647) ∈ xTT := xTT_of (List.mem_of_getElem? (i := 213) (by decide +kernel)) (by decide +kernel)
theorem mk_L_17 : Cond.constantLong RL 17 (-9000000000000000002) ∈ xTT := xTT_of (List.mem_of_getElem? (i := 499) (by decide +kernel)) (by decide +kernel)
theorem mk_L_21 : Cond.constantLong RL 21 (-9000000000000000003) ∈ xTT := xTT_of (List.mem_of_getElem? (i := 427) (by decide +kernel)) (by decide +kernel)
theorem mk_L_39 : Cond.constantLong RL 39 (-9000000000000000001) ∈ xTT := xTT_of (List.mem_of_getElem? (i := 453) (by decide +kernel)) (by decide +kernel)
theorem mk_L_102 : Cond.constantLong RL 102 (31) ∈ xTT := xTT_of (List.mem_of_getElem? (i := 468) (by decide +kernel)) (by decide +kernel)
theorem mk_L_155 : Cond.constantLong RL 155 (1000000000000000) ∈ xTT := xTT_of (List.mem_of_getElem? (i := 740) (by decide +kernel)) (by decide +kernel)
theorem mk_L_166 : Cond.constantLong RL 166 (60) ∈ xTT := xTT_of (List.mem_of_getElem? (i := 776) (by decide +kernel)) (by decide +kernel)
theorem mk_L_168 : Cond.constantLong RL 168 (40) ∈ xTT := xTT_of (List.mem_of_getElem? (i := 777) (by decide +kernel)) (by decide +kernel)
theorem mk_L_170 : Cond.constantLong RL 170 (5000) ∈ xTT := xTT_of (List.mem_of_getElem? (i := 778) (by decide +kernel)) (by decide +kernel)
theorem mk_L_176 : Cond.constantLong RL 176 (-9) ∈ xTT := xTT_of (List.mem_of_getElem? (i := 782) (by decide +kernel)) (by decide +kernel)
theorem mk_L_178 : Cond.constantLong RL 178 (2) ∈ xTT := xTT_of (List.mem_of_getElem? (i := 786) (by decide +kernel)) (by decide +kernel)
theorem mk_L_180 : Cond.constantLong RL 180 (3) ∈ xTT := xTT_of (List.mem_of_getElem? (i := 787) (by decide +kernel)) (by decide +kernel)
theorem mk_L_182 : Cond.constantLong RL 182 (1000000000) ∈ xTT := xTT_of (List.mem_of_getElem? (i := 788) (by decide +kernel)) (by decide +kernel)
theorem mk_L_184 : Cond.constantLong RL 184 (10000000) ∈ xTT := xTT_of (List.mem_of_getElem? (i := 789) (by decide +kernel)) (by decide +kernel)
theorem mk_L_186 : Cond.constantLong RL 186 (100000) ∈ xTT := xTT_of (List.mem_of_getElem? (i := 790) (by decide +kernel)) (by decide +kernel)
theorem mk_L_188 : Cond.constantLong RL 188 (70000) ∈ xTT := xTT_of (List.mem_of_getElem? (i := 791) (by decide +kernel)) (by decide +kernel)
theorem mk_L_192 : Cond.constantLong RL 192 (99) ∈ xTT := xTT_of (List.mem_of_getElem? (i := 800) (by decide +kernel)) (by decide +kernel)
theorem mk_L_194 : Cond.constantLong RL 194 (20) ∈ xTT := xTT_of (List.mem_of_getElem? (i := 801) (by decide +kernel)) (by decide +kernel)
theorem mk_L_202 : Cond.constantLong RL 202 (102092000560000) ∈ xTT := xTT_of (List.mem_of_getElem? (i := 820) (by decide +kernel)) (by decide +kernel)
theorem mk_L_239 : Cond.constant RL 239 (83003) ∈ xTT := xTT_of (List.mem_of_getElem? (i := 838) (by decide +kernel)) (by decide +kernel)
theorem mq_X5_7 : Cond.classLink RX5 7 RX4 ∈ xTT := xTT_of (List.mem_of_getElem? (i := 39) (by decide +kernel)) (by decide +kernel)
theorem mn_X5_7 : xNew RX5 7 4 2 := ⟨_, tyX4, rfl, rfl, mw_X4, mq_X5_7, xTT_of (List.mem_of_getElem? (i := 40) (by decide +kernel)) (by decide +kernel), mi_X4, tyX4_ok, by decide +kernel⟩
theorem mq_X5_16 : Cond.classLink RX5 16 RX3 ∈ xTT := xTT_of (List.mem_of_getElem? (i := 54) (by decide +kernel)) (by decide +kernel)
theorem mn_X5_16 : xNew RX5 16 3 2 := ⟨_, tyX3, rfl, rfl, mw_X3, mq_X5_16, xTT_of (List.mem_of_getElem? (i := 55) (by decide +kernel)) (by decide +kernel), mi_X3, tyX3_ok, by decide +kernel⟩
theorem mq_X5_57 : Cond.classLink RX5 57 "java/lang/IllegalArgumentException" ∈ xTT := xTT_of (List.mem_of_getElem? (i := 483) (by decide +kernel)) (by decide +kernel)
theorem mq_X5_68 : Cond.classLink RX5 68 "java/lang/IllegalStateException" ∈ xTT := xTT_of (List.mem_of_getElem? (i := 261) (by decide +kernel)) (by decide +kernel)
theorem mq_X5_155 : Cond.classLink RX5 155 "java/lang/IndexOutOfBoundsException" ∈ xTT := xTT_of (List.mem_of_getElem? (i := 437) (by decide +kernel)) (by decide +kernel)
theorem mq_X0_23 : Cond.classLink RX0 23 RX1 ∈ xTT := xTT_of (List.mem_of_getElem? (i := 121) (by decide +kernel)) (by decide +kernel)
theorem mn_X0_23 : xNew RX0 23 1 3 := ⟨_, tyX1, rfl, rfl, mw_X1, mq_X0_23, xTT_of (List.mem_of_getElem? (i := 122) (by decide +kernel)) (by decide +kernel), mi_X1, tyX1_ok, by decide +kernel⟩
theorem mq_X3_7 : Cond.classLink RX3 7 RX2 ∈ xTT := xTT_of (List.mem_of_getElem? (i := 60) (by decide +kernel)) (by decide +kernel)
theorem mn_X3_7 : xNew RX3 7 2 12 := ⟨_, tyX2, rfl, rfl, mw_X2, mq_X3_7, xTT_of (List.mem_of_getElem? (i := 61) (by decide +kernel)) (by decide +kernel), mi_X2, tyX2_ok, by decide +kernel⟩
theorem mq_X3_16 : Cond.classLink RX3 16 RX0 ∈ xTT := xTT_of (List.mem_of_getElem? (i := 115) (by decide +kernel)) (by decide +kernel)
theorem mn_X3_16 : xNew RX3 16 0 6 := ⟨_, tyX0, rfl, rfl, mw_X0, mq_X3_16, xTT_of (List.mem_of_getElem? (i := 116) (by decide +kernel)) (by decide +kernel), mi_X0, tyX0_ok, by decide +kernel⟩
theorem mq_L_10 : Cond.classLink RL 10 RX5 ∈ xTT := xTT_of (List.mem_of_getElem? (i := 31) (by decide +kernel)) (by decide +kernel)
theorem mn_L_10 : xNew RL 10 5 11 := ⟨_, tyX5, rfl, rfl, mw_X5, mq_L_10, xTT_of (List.mem_of_getElem? (i := 32) (by decide +kernel)) (by decide +kernel), mi_X5, tyX5_ok, by decide +kernel⟩
theorem mq_L_15 : Cond.classLink RL 15 "java/lang/IllegalArgumentException" ∈ xTT := xTT_of (List.mem_of_getElem? (i := 472) (by decide +kernel)) (by decide +kernel)
theorem mq_L_19 : Cond.classLink RL 19 "java/lang/IllegalStateException" ∈ xTT := xTT_of (List.mem_of_getElem? (i := 217) (by decide +kernel)) (by decide +kernel)
theorem mq_L_37 : Cond.classLink RL 37 "java/lang/IndexOutOfBoundsException" ∈ xTT := xTT_of (List.mem_of_getElem? (i := 431) (by decide +kernel)) (by decide +kernel)
theorem ma_int : Cond.arrayClass .int ∈ xTT := xTT_of (List.mem_of_getElem? (i := 53) (by decide +kernel)) (by decide +kernel)
theorem mz_iae : Cond.castable "java/lang/IllegalArgumentException" "java/lang/IllegalArgumentException" ∈ xTT := xTT_of (List.mem_of_getElem? (i := 485) (by decide +kernel)) (by decide +kernel)
theorem mi_iae : Cond.initialized "java/lang/IllegalArgumentException" ∈ xTT := xTT_of (List.mem_of_getElem? (i := 28) (by decide +kernel)) (by decide +kernel)
theorem mz_ise : Cond.castable "java/lang/IllegalStateException" "java/lang/IllegalStateException" ∈ xTT := xTT_of (List.mem_of_getElem? (i := 263) (by decide +kernel)) (by decide +kernel)
theorem mi_ise : Cond.initialized "java/lang/IllegalStateException" ∈ xTT := xTT_of (List.mem_of_getElem? (i := 30) (by decide +kernel)) (by decide +kernel)
theorem mz_ioobe : Cond.castable "java/lang/IndexOutOfBoundsException" "java/lang/IndexOutOfBoundsException" ∈ xTT := xTT_of (List.mem_of_getElem? (i := 439) (by decide +kernel)) (by decide +kernel)
theorem mi_ioobe : Cond.initialized "java/lang/IndexOutOfBoundsException" ∈ xTT := xTT_of (List.mem_of_getElem? (i := 29) (by decide +kernel)) (by decide +kernel)

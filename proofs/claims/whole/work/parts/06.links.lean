def mX3_row : jMeth := (yX3_row, cX3_row, 4, (some .int), RX3, 2, 45)
def mX3_isNot : jMeth := (yX3_isNot, cX3_isNot, 2, (some .boolean), RX3, 0, 0)
def mX3_found : jMeth := (yX3_found, cX3_found, 2, (some .int), RX3, 0, 0)
def mX1_begin : jMeth := (yX1_begin, cX1_begin, 3, none, RX1, 1, 23)
def mArr_fill : jMeth := (yJ7_fill_53178, cJ7_fill_53178, 4, none, RJ7, 0, 0)
def mX3_fine : jMeth := (yX3_fine, cX3_fine, 2, (some .int), RX3, 0, 0)
def mX4_row : jMeth := (yX4_row, cX4_row, 5, (some .int), RX4, 2, 45)
def mX4_isRow : jMeth := (yX4_isRow, cX4_isRow, 1, (some .boolean), RX4, 1, 25)
def mX4_in : jMeth := (yX4_in, cX4_in, 6, (some .boolean), RX4, 0, 0)
def mX4_find : jMeth := (yX4_find, cX4_find, 2, (some .int), RX4, 0, 0)
def mX4_well : jMeth := (yX4_well, cX4_well, 2, (some .int), RX4, 0, 0)
def mX3_set : jMeth := (yX3_set, cX3_set, 5, (some .int), RX3, 1, 22)
def mX1_reaches : jMeth := (yX1_reaches, cX1_reaches, 3, (some .boolean), RX1, 0, 0)
def mX1_cut : jMeth := (yX1_cut, cX1_cut, 2, (some .int), RX1, 0, 0)
def mX4_set : jMeth := (yX4_set, cX4_set, 4, (some .int), RX4, 2, 45)
def mX4_asLane : jMeth := (yX4_asLane, cX4_asLane, 2, (some .int), RX4, 0, 0)
def mX3_copy : jMeth := (yX3_copy, cX3_copy, 8, (some .int), RX3, 1, 26)
def mX4_copy : jMeth := (yX4_copy, cX4_copy, 7, (some .int), RX4, 2, 45)
def mX3_drop : jMeth := (yX3_drop, cX3_drop, 3, (some .int), RX3, 1, 21)
def mX4_drop : jMeth := (yX4_drop, cX4_drop, 3, (some .int), RX4, 2, 45)
def mX3_feed : jMeth := (yX3_feed, cX3_feed, 2, (some .int), RX3, 1, 21)
def mX4_feed : jMeth := (yX4_feed, cX4_feed, 2, (some .int), RX4, 1, 25)
def mX3_kitchen : jMeth := (yX3_kitchen, cX3_kitchen, 1, (some .int), RX3, 6, 130)
def mX2_readInto : jMeth := (yX2_readInto, cX2_readInto, 3, none, RX2, 5, 108)
def mX0_begin : jMeth := (yX0_begin, cX0_begin, 1, none, RX0, 1, 23)
def mX2_step : jMeth := (yX2_step, cX2_step, 3, none, RX2, 2, 41)
def mX2_isFigure : jMeth := (yX2_isFigure, cX2_isFigure, 1, (some .boolean), RX2, 0, 0)
def mX2_stepNumber : jMeth := (yX2_stepNumber, cX2_stepNumber, 1, none, RX2, 1, 21)
def mMath_min : jMeth := (Lib.Math.min.name, Lib.Math.min.code, 2, (some .int), "java/lang/Math", 0, 0)
def mX2_take : jMeth := (yX2_take, cX2_take, 2, none, RX2, 3, 63)
def mX2_takeNumber : jMeth := (yX2_takeNumber, cX2_takeNumber, 4, (some .int), RX2, 3, 63)
def mX2_readSinger : jMeth := (yX2_readSinger, cX2_readSinger, 3, none, RX2, 4, 86)
def mX2_kindOf : jMeth := (yX2_kindOf, cX2_kindOf, 1, (some .int), RX2, 0, 0)
def mX2_readPan : jMeth := (yX2_readPan, cX2_readPan, 3, none, RX2, 4, 86)
def mX0_takeFrom : jMeth := (yX0_takeFrom, cX0_takeFrom, 2, none, RX0, 1, 26)
def mX4_kitchen : jMeth := (yX4_kitchen, cX4_kitchen, 3, (some .int), RX4, 6, 134)
def mX4_readKitchen : jMeth := (yX4_readKitchen, cX4_readKitchen, 3, (some .boolean), RX4, 5, 112)
def mX4_nextToken : jMeth := (yX4_nextToken, cX4_nextToken, 1, none, RX4, 1, 25)
def mX4_takes : jMeth := (yX4_takes, cX4_takes, 2, (some .boolean), RX4, 2, 45)
def mX4_isLetter : jMeth := (yX4_isLetter, cX4_isLetter, 2, (some .boolean), RX4, 0, 0)
def mX4_faults : jMeth := (yX4_faults, cX4_faults, 2, (some .boolean), RX4, 0, 0)
def mX4_takesNumber : jMeth := (yX4_takesNumber, cX4_takesNumber, 5, (some .boolean), RX4, 3, 66)
def mX4_readPan : jMeth := (yX4_readPan, cX4_readPan, 3, (some .boolean), RX4, 4, 90)
def mX4_readSinger : jMeth := (yX4_readSinger, cX4_readSinger, 2, (some .boolean), RX4, 4, 90)
def mX3_fault : jMeth := (yX3_fault, cX3_fault, 1, (some .int), RX3, 0, 0)
def mX4_fault : jMeth := (yX4_fault, cX4_fault, 1, (some .int), RX4, 0, 0)
def mX3_bar : jMeth := (yX3_bar, cX3_bar, 5, (some .int), RX3, 4, 90)
def mX0_can : jMeth := (yX0_can, cX0_can, 3, (some .boolean), RX0, 0, 0)
def mX3_keepAct : jMeth := (yX3_keepAct, cX3_keepAct, 1, none, RX3, 2, 47)
def mX0_keep : jMeth := (yX0_keep, cX0_keep, 2, none, RX0, 1, 26)
def mX0_singBar : jMeth := (yX0_singBar, cX0_singBar, 3, none, RX0, 3, 68)
def mX0_isSet : jMeth := (yX0_isSet, cX0_isSet, 2, (some .boolean), RX0, 0, 0)
def mX0_hear : jMeth := (yX0_hear, cX0_hear, 5, none, RX0, 2, 44)
def mInt_numberOfTrailingZeros : jMeth := (yJ6_numberOfTrailingZeros_0f7a4, cJ6_numberOfTrailingZeros_0f7a4, 2, (some .int), RJ6, 0, 0)
def mX0_judge : jMeth := (yX0_judge, cX0_judge, 5, (some .int), RX0, 1, 20)
def mMath_abs : jMeth := (Lib.Math.abs.name, Lib.Math.abs.code, 1, (some .int), "java/lang/Math", 0, 0)
def mX0_thickBy : jMeth := (yX0_thickBy, cX0_thickBy, 3, (some .int), RX0, 1, 21)
def mMath_max : jMeth := (Lib.Math.max.name, Lib.Math.max.code, 2, (some .int), "java/lang/Math", 0, 0)
def mX0_setPans : jMeth := (yX0_setPans, cX0_setPans, 3, (some .int), RX0, 1, 21)
def mX4_bar : jMeth := (yX4_bar, cX4_bar, 6, (some .int), RX4, 3, 68)
def mX4_canSing : jMeth := (yX4_canSing, cX4_canSing, 3, (some .boolean), RX4, 1, 25)
def mX4_note : jMeth := (yX4_note, cX4_note, 2, none, RX4, 0, 0)
def mX4_oneBar : jMeth := (yX4_oneBar, cX4_oneBar, 2, none, RX4, 2, 47)
def mX4_panHears : jMeth := (yX4_panHears, cX4_panHears, 7, none, RX4, 1, 21)
def mX4_has : jMeth := (yX4_has, cX4_has, 2, (some .boolean), RX4, 0, 0)
def mX4_setPans : jMeth := (yX4_setPans, cX4_setPans, 3, (some .int), RX4, 0, 0)
def mX3_window : jMeth := (yX3_window, cX3_window, 4, (some .int), RX3, 3, 67)
def mX4_window : jMeth := (yX4_window, cX4_window, 4, (some .int), RX4, 2, 46)
def mX4_isPan : jMeth := (yX4_isPan, cX4_isPan, 2, (some .boolean), RX4, 1, 25)
def mX4_isSinger : jMeth := (yX4_isSinger, cX4_isSinger, 2, (some .boolean), RX4, 1, 25)
def mX3_undo : jMeth := (yX3_undo, cX3_undo, 1, (some .int), RX3, 2, 47)
def mX0_bring : jMeth := (yX0_bring, cX0_bring, 2, none, RX0, 1, 26)
def mX4_undo : jMeth := (yX4_undo, cX4_undo, 2, (some .int), RX4, 0, 0)
def mX3_pan : jMeth := (yX3_pan, cX3_pan, 3, (some .int), RX3, 1, 21)
def mX4_pan : jMeth := (yX4_pan, cX4_pan, 3, (some .int), RX4, 2, 46)
def mX3_singer : jMeth := (yX3_singer, cX3_singer, 3, (some .int), RX3, 1, 21)
def mX4_singer : jMeth := (yX4_singer, cX4_singer, 3, (some .int), RX4, 2, 46)
def mX3_alone : jMeth := (yX3_alone, cX3_alone, 6, (some .int), RX3, 6, 136)
def mX3_takeTune : jMeth := (yX3_takeTune, cX3_takeTune, 5, (some .int), RX3, 1, 22)
def mX3_trySolo : jMeth := (yX3_trySolo, cX3_trySolo, 5, none, RX3, 5, 112)
def mX0_tryBar : jMeth := (yX0_tryBar, cX0_tryBar, 3, none, RX0, 4, 90)
def mX4_alone : jMeth := (yX4_alone, cX4_alone, 7, (some .int), RX4, 4, 94)
def mX4_lacks : jMeth := (yX4_lacks, cX4_lacks, 6, (some .int), RX4, 1, 25)
def mX4_putAside : jMeth := (yX4_putAside, cX4_putAside, 2, none, RX4, 0, 0)
def mX4_singAlone : jMeth := (yX4_singAlone, cX4_singAlone, 7, none, RX4, 3, 68)
def mX4_allRest : jMeth := (yX4_allRest, cX4_allRest, 2, none, RX4, 0, 0)
def mX4_takeBack : jMeth := (yX4_takeBack, cX4_takeBack, 2, none, RX4, 0, 0)
def mX3_round : jMeth := (yX3_round, cX3_round, 6, (some .int), RX3, 6, 138)
def mX3_tryRound : jMeth := (yX3_tryRound, cX3_tryRound, 7, none, RX3, 5, 112)
def mX4_round : jMeth := (yX4_round, cX4_round, 7, (some .int), RX4, 4, 96)
def mX4_singRound : jMeth := (yX4_singRound, cX4_singRound, 9, none, RX4, 3, 68)
def mX3_bestRound : jMeth := (yX3_bestRound, cX3_bestRound, 10, (some .int), RX3, 6, 138)
def mInt_bitCount : jMeth := (yJ6_bitCount_0f7a4, cJ6_bitCount_0f7a4, 1, (some .int), RJ6, 0, 0)
def mX4_bestRound : jMeth := (yX4_bestRound, cX4_bestRound, 10, (some .int), RX4, 4, 96)
def mX4_ones : jMeth := (yX4_ones, cX4_ones, 3, (some .int), RX4, 0, 0)
def mX3_song : jMeth := (yX3_song, cX3_song, 4, (some .int), RX3, 6, 141)
def mX3_seekSong : jMeth := (yX3_seekSong, cX3_seekSong, 6, none, RX3, 5, 116)
def mX3_trySong : jMeth := (yX3_trySong, cX3_trySong, 7, (some .int), RX3, 4, 90)
def mX3_noteOf : jMeth := (yX3_noteOf, cX3_noteOf, 3, (some .int), RX3, 0, 0)
def mX3_weighSong : jMeth := (yX3_weighSong, cX3_weighSong, 6, none, RX3, 2, 43)
def mX4_song : jMeth := (yX4_song, cX4_song, 10, (some .int), RX4, 4, 92)
def mX4_singsRow : jMeth := (yX4_singsRow, cX4_singsRow, 5, (some .boolean), RX4, 3, 68)
def mX3_toShut : jMeth := (yX3_toShut, cX3_toShut, 12, (some .int), RX3, 7, 162)
def mX3_setsWithout : jMeth := (yX3_setsWithout, cX3_setsWithout, 5, (some .boolean), RX3, 6, 138)
def mX4_toShut : jMeth := (yX4_toShut, cX4_toShut, 11, (some .int), RX4, 4, 96)
def mX3_modes : jMeth := (yX3_modes, cX3_modes, 12, (some .int), RX3, 6, 136)
def mX4_modes : jMeth := (yX4_modes, cX4_modes, 13, (some .int), RX4, 4, 94)
def mX3_coughs : jMeth := (yX3_coughs, cX3_coughs, 12, (some .int), RX3, 6, 136)
def mX3_weightOf : jMeth := (yX3_weightOf, cX3_weightOf, 4, (some .int), RX3, 1, 23)
def mX3_power : jMeth := (yX3_power, cX3_power, 4, (some .int), RX3, 0, 0)
def mX3_commonDivisor : jMeth := (yX3_commonDivisor, cX3_commonDivisor, 6, (some .int), RX3, 1, 21)
def mX4_coughs : jMeth := (yX4_coughs, cX4_coughs, 14, (some .int), RX4, 4, 94)
def mX3_image : jMeth := (yX3_image, cX3_image, 2, (some .int), RX3, 2, 47)
def mX4_image : jMeth := (yX4_image, cX4_image, 3, (some .int), RX4, 1, 25)
def mX3_restore : jMeth := (yX3_restore, cX3_restore, 2, (some .int), RX3, 2, 47)
def mX4_restore : jMeth := (yX4_restore, cX4_restore, 3, (some .int), RX4, 1, 25)
def mX3_kind : jMeth := (yX3_kind, cX3_kind, 2, (some .int), RX3, 1, 21)
def mX4_kind : jMeth := (yX4_kind, cX4_kind, 2, (some .int), RX4, 2, 46)
def mX3_as : jMeth := (yX3_as, cX3_as, 3, (some .int), RX3, 1, 23)
def mX3_isOf : jMeth := (yX3_isOf, cX3_isOf, 4, (some .boolean), RX3, 0, 0)
def mX4_as : jMeth := (yX4_as, cX4_as, 3, (some .int), RX4, 2, 46)
def mX4_isKind : jMeth := (yX4_isKind, cX4_isKind, 2, (some .boolean), RX4, 0, 0)
def mX3_ask : jMeth := (yX3_ask, cX3_ask, 4, (some .int), RX3, 6, 127)
def mX3_sizeOfPlums : jMeth := (yX3_sizeOfPlums, cX3_sizeOfPlums, 2, (some .int), RX3, 5, 106)
def mX3_leave : jMeth := (yX3_leave, cX3_leave, 2, none, RX3, 0, 0)
def mX3_plumSize : jMeth := (yX3_plumSize, cX3_plumSize, 3, (some .int), RX3, 4, 84)
def mX3_lentSize : jMeth := (yX3_lentSize, cX3_lentSize, 2, (some .int), RX3, 1, 21)
def mX3_markOfPlums : jMeth := (yX3_markOfPlums, cX3_markOfPlums, 2, (some .int), RX3, 3, 63)
def mX3_plumMark : jMeth := (yX3_plumMark, cX3_plumMark, 2, (some .int), RX3, 2, 42)
def mX3_lentMark : jMeth := (yX3_lentMark, cX3_lentMark, 2, (some .int), RX3, 1, 21)
def mX3_sizeOfMarrows : jMeth := (yX3_sizeOfMarrows, cX3_sizeOfMarrows, 2, (some .int), RX3, 3, 63)
def mX3_marrowSize : jMeth := (yX3_marrowSize, cX3_marrowSize, 2, (some .int), RX3, 2, 42)
def mX3_markOfMarrows : jMeth := (yX3_markOfMarrows, cX3_markOfMarrows, 3, (some .int), RX3, 4, 84)
def mX4_ask : jMeth := (yX4_ask, cX4_ask, 3, (some .int), RX4, 7, 152)
def mX4_sizeOf : jMeth := (yX4_sizeOf, cX4_sizeOf, 3, (some .int), RX4, 6, 130)
def mX4_begin : jMeth := (yX4_begin, cX4_begin, 2, none, RX4, 0, 0)
def mX4_plumSize : jMeth := (yX4_plumSize, cX4_plumSize, 3, (some .int), RX4, 5, 108)
def mX4_lent : jMeth := (yX4_lent, cX4_lent, 3, (some .int), RX4, 1, 21)
def mX4_markOf : jMeth := (yX4_markOf, cX4_markOf, 4, (some .int), RX4, 4, 85)
def mX4_plumMark : jMeth := (yX4_plumMark, cX4_plumMark, 2, (some .int), RX4, 2, 43)
def mX4_sizeOfMarrow : jMeth := (yX4_sizeOfMarrow, cX4_sizeOfMarrow, 2, (some .int), RX4, 3, 64)
def mX4_marrowSize : jMeth := (yX4_marrowSize, cX4_marrowSize, 2, (some .int), RX4, 2, 43)
def mX3_trace : jMeth := (yX3_trace, cX3_trace, 2, (some .int), RX3, 1, 21)
def mX4_trace : jMeth := (yX4_trace, cX4_trace, 2, (some .int), RX4, 1, 25)
def mX3_count : jMeth := (yX3_count, cX3_count, 2, (some .int), RX3, 2, 43)
def mX3_rowsThere : jMeth := (yX3_rowsThere, cX3_rowsThere, 3, (some .int), RX3, 0, 0)
def mX4_count : jMeth := (yX4_count, cX4_count, 4, (some .int), RX4, 1, 22)
def mX3_status : jMeth := (yX3_status, cX3_status, 1, (some .int), RX3, 0, 0)
def mX4_status : jMeth := (yX4_status, cX4_status, 1, (some .int), RX4, 0, 0)
theorem lkX3_11 : jFL RX3 11 3 0 := ⟨RX3, TX3, 18, rfl, rfl, by decide, rfl, List.mem_of_getElem? (i := 13) (by decide +kernel)⟩
theorem lkX3_18 : jFL RX3 18 3 1 := ⟨RX3, TX3, 18, rfl, rfl, by decide, rfl, List.mem_of_getElem? (i := 17) (by decide +kernel)⟩
theorem lkX3_25 : jFL RX3 25 3 2 := ⟨RX3, TX3, 18, rfl, rfl, by decide, rfl, List.mem_of_getElem? (i := 21) (by decide +kernel)⟩
theorem lkX3_29 : jFL RX3 29 3 3 := ⟨RX3, TX3, 18, rfl, rfl, by decide, rfl, List.mem_of_getElem? (i := 22) (by decide +kernel)⟩
theorem lkX3_32 : jFL RX3 32 3 4 := ⟨RX3, TX3, 18, rfl, rfl, by decide, rfl, List.mem_of_getElem? (i := 23) (by decide +kernel)⟩
theorem lkX3_38 : jFL RX3 38 3 5 := ⟨RX3, TX3, 18, rfl, rfl, by decide, rfl, List.mem_of_getElem? (i := 26) (by decide +kernel)⟩
theorem lkX3_41 : jFL RX3 41 3 6 := ⟨RX3, TX3, 18, rfl, rfl, by decide, rfl, List.mem_of_getElem? (i := 27) (by decide +kernel)⟩
theorem lkX3_45 : jFL RX3 45 3 7 := ⟨RX3, TX3, 18, rfl, rfl, by decide, rfl, List.mem_of_getElem? (i := 28) (by decide +kernel)⟩
theorem lkX3_48 : jFL RX3 48 3 8 := ⟨RX3, TX3, 18, rfl, rfl, by decide, rfl, List.mem_of_getElem? (i := 29) (by decide +kernel)⟩
theorem lkX3_52 : jFL RX3 52 3 9 := ⟨RX3, TX3, 18, rfl, rfl, by decide, rfl, List.mem_of_getElem? (i := 30) (by decide +kernel)⟩
theorem lkX3_55 : jFL RX3 55 3 10 := ⟨RX3, TX3, 18, rfl, rfl, by decide, rfl, List.mem_of_getElem? (i := 31) (by decide +kernel)⟩
theorem lkX3_58 : jFL RX3 58 3 11 := ⟨RX3, TX3, 18, rfl, rfl, by decide, rfl, List.mem_of_getElem? (i := 32) (by decide +kernel)⟩
theorem lkX3_61 : jFL RX3 61 3 12 := ⟨RX3, TX3, 18, rfl, rfl, by decide, rfl, List.mem_of_getElem? (i := 33) (by decide +kernel)⟩
theorem lkX3_64 : jFL RX3 64 3 13 := ⟨RX3, TX3, 18, rfl, rfl, by decide, rfl, List.mem_of_getElem? (i := 34) (by decide +kernel)⟩
theorem lkX3_67 : jFL RX3 67 3 14 := ⟨RX3, TX3, 18, rfl, rfl, by decide, rfl, List.mem_of_getElem? (i := 35) (by decide +kernel)⟩
theorem lkX3_70 : jFL RX3 70 3 15 := ⟨RX3, TX3, 18, rfl, rfl, by decide, rfl, List.mem_of_getElem? (i := 36) (by decide +kernel)⟩
theorem lkX3_73 : jFL RX3 73 3 16 := ⟨RX3, TX3, 18, rfl, rfl, by decide, rfl, List.mem_of_getElem? (i := 37) (by decide +kernel)⟩
theorem lkX3_76 : jFL RX3 76 3 17 := ⟨RX3, TX3, 18, rfl, rfl, by decide, rfl, List.mem_of_getElem? (i := 38) (by decide +kernel)⟩
theorem lkX2_9 : jFL RX2 9 2 0 := ⟨RX2, TX2, 7, rfl, rfl, by decide, rfl, List.mem_of_getElem? (i := 44) (by decide +kernel)⟩
theorem lkX2_15 : jFL RX2 15 2 1 := ⟨RX2, TX2, 7, rfl, rfl, by decide, rfl, List.mem_of_getElem? (i := 45) (by decide +kernel)⟩
theorem lkX2_19 : jFL RX2 19 2 2 := ⟨RX2, TX2, 7, rfl, rfl, by decide, rfl, List.mem_of_getElem? (i := 46) (by decide +kernel)⟩
theorem lkX2_22 : jFL RX2 22 2 3 := ⟨RX2, TX2, 7, rfl, rfl, by decide, rfl, List.mem_of_getElem? (i := 47) (by decide +kernel)⟩
theorem lkX2_25 : jFL RX2 25 2 4 := ⟨RX2, TX2, 7, rfl, rfl, by decide, rfl, List.mem_of_getElem? (i := 48) (by decide +kernel)⟩
theorem lkX2_28 : jFL RX2 28 2 5 := ⟨RX2, TX2, 7, rfl, rfl, by decide, rfl, List.mem_of_getElem? (i := 49) (by decide +kernel)⟩
theorem lkX2_31 : jFL RX2 31 2 6 := ⟨RX2, TX2, 7, rfl, rfl, by decide, rfl, List.mem_of_getElem? (i := 50) (by decide +kernel)⟩
theorem lkX0_9 : jFL RX0 9 0 0 := ⟨RX0, TX0, 15, rfl, rfl, by decide, rfl, List.mem_of_getElem? (i := 54) (by decide +kernel)⟩
theorem lkX0_15 : jFL RX0 15 0 1 := ⟨RX0, TX0, 15, rfl, rfl, by decide, rfl, List.mem_of_getElem? (i := 55) (by decide +kernel)⟩
theorem lkX0_19 : jFL RX0 19 0 2 := ⟨RX0, TX0, 15, rfl, rfl, by decide, rfl, List.mem_of_getElem? (i := 56) (by decide +kernel)⟩
theorem lkX0_22 : jFL RX0 22 0 3 := ⟨RX0, TX0, 15, rfl, rfl, by decide, rfl, List.mem_of_getElem? (i := 57) (by decide +kernel)⟩
theorem lkX0_26 : jFL RX0 26 0 4 := ⟨RX0, TX0, 15, rfl, rfl, by decide, rfl, List.mem_of_getElem? (i := 58) (by decide +kernel)⟩
theorem lkX0_29 : jFL RX0 29 0 5 := ⟨RX0, TX0, 15, rfl, rfl, by decide, rfl, List.mem_of_getElem? (i := 59) (by decide +kernel)⟩
theorem lkX0_32 : jFL RX0 32 0 6 := ⟨RX0, TX0, 15, rfl, rfl, by decide, rfl, List.mem_of_getElem? (i := 60) (by decide +kernel)⟩
theorem lkX0_35 : jFL RX0 35 0 7 := ⟨RX0, TX0, 15, rfl, rfl, by decide, rfl, List.mem_of_getElem? (i := 61) (by decide +kernel)⟩
theorem lkX0_38 : jFL RX0 38 0 8 := ⟨RX0, TX0, 15, rfl, rfl, by decide, rfl, List.mem_of_getElem? (i := 62) (by decide +kernel)⟩
theorem lkX0_41 : jFL RX0 41 0 9 := ⟨RX0, TX0, 15, rfl, rfl, by decide, rfl, List.mem_of_getElem? (i := 63) (by decide +kernel)⟩
theorem lkX0_44 : jFL RX0 44 0 10 := ⟨RX0, TX0, 15, rfl, rfl, by decide, rfl, List.mem_of_getElem? (i := 64) (by decide +kernel)⟩
theorem lkX0_47 : jFL RX0 47 0 11 := ⟨RX0, TX0, 15, rfl, rfl, by decide, rfl, List.mem_of_getElem? (i := 65) (by decide +kernel)⟩
theorem lkX0_50 : jFL RX0 50 0 12 := ⟨RX0, TX0, 15, rfl, rfl, by decide, rfl, List.mem_of_getElem? (i := 66) (by decide +kernel)⟩
theorem lkX0_53 : jFL RX0 53 0 13 := ⟨RX0, TX0, 15, rfl, rfl, by decide, rfl, List.mem_of_getElem? (i := 67) (by decide +kernel)⟩
theorem lkX0_56 : jFL RX0 56 0 14 := ⟨RX0, TX0, 15, rfl, rfl, by decide, rfl, List.mem_of_getElem? (i := 68) (by decide +kernel)⟩
theorem lkX1_9 : jFL RX1 9 1 0 := ⟨RX1, TX1, 4, rfl, rfl, by decide, rfl, List.mem_of_getElem? (i := 72) (by decide +kernel)⟩
theorem lkX1_15 : jFL RX1 15 1 1 := ⟨RX1, TX1, 4, rfl, rfl, by decide, rfl, List.mem_of_getElem? (i := 73) (by decide +kernel)⟩
theorem lkX1_19 : jFL RX1 19 1 2 := ⟨RX1, TX1, 4, rfl, rfl, by decide, rfl, List.mem_of_getElem? (i := 74) (by decide +kernel)⟩
theorem lkX1_22 : jFL RX1 22 1 3 := ⟨RX1, TX1, 4, rfl, rfl, by decide, rfl, List.mem_of_getElem? (i := 75) (by decide +kernel)⟩
theorem lkX4_7 : jFL RX4 7 4 0 := ⟨RX4, TX4, 26, rfl, rfl, by decide, rfl, List.mem_of_getElem? (i := 80) (by decide +kernel)⟩
theorem lkX4_13 : jFL RX4 13 4 1 := ⟨RX4, TX4, 26, rfl, rfl, by decide, rfl, List.mem_of_getElem? (i := 81) (by decide +kernel)⟩
theorem lkX4_16 : jFL RX4 16 4 2 := ⟨RX4, TX4, 26, rfl, rfl, by decide, rfl, List.mem_of_getElem? (i := 82) (by decide +kernel)⟩
theorem lkX4_19 : jFL RX4 19 4 5 := ⟨RX4, TX4, 26, rfl, rfl, by decide, rfl, List.mem_of_getElem? (i := 83) (by decide +kernel)⟩
theorem lkX4_22 : jFL RX4 22 4 6 := ⟨RX4, TX4, 26, rfl, rfl, by decide, rfl, List.mem_of_getElem? (i := 84) (by decide +kernel)⟩
theorem lkX4_25 : jFL RX4 25 4 7 := ⟨RX4, TX4, 26, rfl, rfl, by decide, rfl, List.mem_of_getElem? (i := 85) (by decide +kernel)⟩
theorem lkX4_28 : jFL RX4 28 4 15 := ⟨RX4, TX4, 26, rfl, rfl, by decide, rfl, List.mem_of_getElem? (i := 86) (by decide +kernel)⟩
theorem lkX4_31 : jFL RX4 31 4 16 := ⟨RX4, TX4, 26, rfl, rfl, by decide, rfl, List.mem_of_getElem? (i := 87) (by decide +kernel)⟩
theorem lkX4_34 : jFL RX4 34 4 17 := ⟨RX4, TX4, 26, rfl, rfl, by decide, rfl, List.mem_of_getElem? (i := 88) (by decide +kernel)⟩
theorem lkX4_37 : jFL RX4 37 4 19 := ⟨RX4, TX4, 26, rfl, rfl, by decide, rfl, List.mem_of_getElem? (i := 89) (by decide +kernel)⟩
theorem lkX4_40 : jFL RX4 40 4 20 := ⟨RX4, TX4, 26, rfl, rfl, by decide, rfl, List.mem_of_getElem? (i := 90) (by decide +kernel)⟩
theorem lkX4_43 : jFL RX4 43 4 22 := ⟨RX4, TX4, 26, rfl, rfl, by decide, rfl, List.mem_of_getElem? (i := 92) (by decide +kernel)⟩
theorem lkX4_47 : jFL RX4 47 4 23 := ⟨RX4, TX4, 26, rfl, rfl, by decide, rfl, List.mem_of_getElem? (i := 93) (by decide +kernel)⟩
theorem lkX4_50 : jFL RX4 50 4 24 := ⟨RX4, TX4, 26, rfl, rfl, by decide, rfl, List.mem_of_getElem? (i := 94) (by decide +kernel)⟩
theorem lkX4_53 : jFL RX4 53 4 3 := ⟨RX4, TX4, 26, rfl, rfl, by decide, rfl, List.mem_of_getElem? (i := 137) (by decide +kernel)⟩
theorem lkX3_96 : jFL RX3 96 1 0 := ⟨RX1, TX1, 4, rfl, rfl, by decide, rfl, List.mem_of_getElem? (i := 147) (by decide +kernel)⟩
theorem lkX3_103 : jFL RX3 103 1 3 := ⟨RX1, TX1, 4, rfl, rfl, by decide, rfl, List.mem_of_getElem? (i := 148) (by decide +kernel)⟩
theorem lkX3_109 : jFL RX3 109 1 1 := ⟨RX1, TX1, 4, rfl, rfl, by decide, rfl, List.mem_of_getElem? (i := 168) (by decide +kernel)⟩
theorem lkX3_118 : jFL RX3 118 1 2 := ⟨RX1, TX1, 4, rfl, rfl, by decide, rfl, List.mem_of_getElem? (i := 181) (by decide +kernel)⟩
theorem lkX3_121 : jFL RX3 121 2 1 := ⟨RX2, TX2, 7, rfl, rfl, by decide, rfl, List.mem_of_getElem? (i := 190) (by decide +kernel)⟩
theorem lkX3_123 : jFL RX3 123 2 0 := ⟨RX2, TX2, 7, rfl, rfl, by decide, rfl, List.mem_of_getElem? (i := 192) (by decide +kernel)⟩
theorem lkX4_84 : jFL RX4 84 4 8 := ⟨RX4, TX4, 26, rfl, rfl, by decide, rfl, List.mem_of_getElem? (i := 198) (by decide +kernel)⟩
theorem lkX3_130 : jFL RX3 130 2 6 := ⟨RX2, TX2, 7, rfl, rfl, by decide, rfl, List.mem_of_getElem? (i := 204) (by decide +kernel)⟩
theorem lkX3_134 : jFL RX3 134 2 2 := ⟨RX2, TX2, 7, rfl, rfl, by decide, rfl, List.mem_of_getElem? (i := 206) (by decide +kernel)⟩
theorem lkX3_140 : jFL RX3 140 0 6 := ⟨RX0, TX0, 15, rfl, rfl, by decide, rfl, List.mem_of_getElem? (i := 207) (by decide +kernel)⟩
theorem lkX2_50 : jFL RX2 50 0 1 := ⟨RX0, TX0, 15, rfl, rfl, by decide, rfl, List.mem_of_getElem? (i := 212) (by decide +kernel)⟩
theorem lkX2_64 : jFL RX2 64 0 3 := ⟨RX0, TX0, 15, rfl, rfl, by decide, rfl, List.mem_of_getElem? (i := 246) (by decide +kernel)⟩
theorem lkX2_67 : jFL RX2 67 0 4 := ⟨RX0, TX0, 15, rfl, rfl, by decide, rfl, List.mem_of_getElem? (i := 247) (by decide +kernel)⟩
theorem lkX2_70 : jFL RX2 70 0 5 := ⟨RX0, TX0, 15, rfl, rfl, by decide, rfl, List.mem_of_getElem? (i := 248) (by decide +kernel)⟩
theorem lkX2_73 : jFL RX2 73 0 2 := ⟨RX0, TX0, 15, rfl, rfl, by decide, rfl, List.mem_of_getElem? (i := 249) (by decide +kernel)⟩
theorem lkX2_76 : jFL RX2 76 0 7 := ⟨RX0, TX0, 15, rfl, rfl, by decide, rfl, List.mem_of_getElem? (i := 257) (by decide +kernel)⟩
theorem lkX2_79 : jFL RX2 79 0 8 := ⟨RX0, TX0, 15, rfl, rfl, by decide, rfl, List.mem_of_getElem? (i := 258) (by decide +kernel)⟩
theorem lkX2_82 : jFL RX2 82 0 9 := ⟨RX0, TX0, 15, rfl, rfl, by decide, rfl, List.mem_of_getElem? (i := 259) (by decide +kernel)⟩
theorem lkX2_85 : jFL RX2 85 0 12 := ⟨RX0, TX0, 15, rfl, rfl, by decide, rfl, List.mem_of_getElem? (i := 260) (by decide +kernel)⟩
theorem lkX2_88 : jFL RX2 88 0 6 := ⟨RX0, TX0, 15, rfl, rfl, by decide, rfl, List.mem_of_getElem? (i := 261) (by decide +kernel)⟩
theorem lkX4_108 : jFL RX4 108 4 14 := ⟨RX4, TX4, 26, rfl, rfl, by decide, rfl, List.mem_of_getElem? (i := 271) (by decide +kernel)⟩
theorem lkX4_138 : jFL RX4 138 4 9 := ⟨RX4, TX4, 26, rfl, rfl, by decide, rfl, List.mem_of_getElem? (i := 272) (by decide +kernel)⟩
theorem lkX4_91 : jFL RX4 91 4 13 := ⟨RX4, TX4, 26, rfl, rfl, by decide, rfl, List.mem_of_getElem? (i := 274) (by decide +kernel)⟩
theorem lkX4_142 : jFL RX4 142 4 4 := ⟨RX4, TX4, 26, rfl, rfl, by decide, rfl, List.mem_of_getElem? (i := 275) (by decide +kernel)⟩
theorem lkX4_146 : jFL RX4 146 4 18 := ⟨RX4, TX4, 26, rfl, rfl, by decide, rfl, List.mem_of_getElem? (i := 276) (by decide +kernel)⟩
theorem lkX4_88 : jFL RX4 88 4 10 := ⟨RX4, TX4, 26, rfl, rfl, by decide, rfl, List.mem_of_getElem? (i := 281) (by decide +kernel)⟩
theorem lkX4_94 : jFL RX4 94 4 11 := ⟨RX4, TX4, 26, rfl, rfl, by decide, rfl, List.mem_of_getElem? (i := 282) (by decide +kernel)⟩
theorem lkX4_97 : jFL RX4 97 4 12 := ⟨RX4, TX4, 26, rfl, rfl, by decide, rfl, List.mem_of_getElem? (i := 287) (by decide +kernel)⟩
theorem lkX3_143 : jFL RX3 143 0 0 := ⟨RX0, TX0, 15, rfl, rfl, by decide, rfl, List.mem_of_getElem? (i := 329) (by decide +kernel)⟩
theorem lkX3_147 : jFL RX3 147 0 2 := ⟨RX0, TX0, 15, rfl, rfl, by decide, rfl, List.mem_of_getElem? (i := 331) (by decide +kernel)⟩
theorem lkX3_164 : jFL RX3 164 0 12 := ⟨RX0, TX0, 15, rfl, rfl, by decide, rfl, List.mem_of_getElem? (i := 412) (by decide +kernel)⟩
theorem lkX3_170 : jFL RX3 170 0 8 := ⟨RX0, TX0, 15, rfl, rfl, by decide, rfl, List.mem_of_getElem? (i := 441) (by decide +kernel)⟩
theorem lkX3_173 : jFL RX3 173 0 9 := ⟨RX0, TX0, 15, rfl, rfl, by decide, rfl, List.mem_of_getElem? (i := 442) (by decide +kernel)⟩
theorem lkX3_176 : jFL RX3 176 0 13 := ⟨RX0, TX0, 15, rfl, rfl, by decide, rfl, List.mem_of_getElem? (i := 443) (by decide +kernel)⟩
theorem lkX3_183 : jFL RX3 183 0 14 := ⟨RX0, TX0, 15, rfl, rfl, by decide, rfl, List.mem_of_getElem? (i := 444) (by decide +kernel)⟩
theorem lkX3_186 : jFL RX3 186 0 3 := ⟨RX0, TX0, 15, rfl, rfl, by decide, rfl, List.mem_of_getElem? (i := 454) (by decide +kernel)⟩
theorem lkX3_189 : jFL RX3 189 0 4 := ⟨RX0, TX0, 15, rfl, rfl, by decide, rfl, List.mem_of_getElem? (i := 455) (by decide +kernel)⟩
theorem lkX3_192 : jFL RX3 192 0 5 := ⟨RX0, TX0, 15, rfl, rfl, by decide, rfl, List.mem_of_getElem? (i := 456) (by decide +kernel)⟩
theorem lkX3_195 : jFL RX3 195 0 11 := ⟨RX0, TX0, 15, rfl, rfl, by decide, rfl, List.mem_of_getElem? (i := 457) (by decide +kernel)⟩
theorem lkX4_205 : jFL RX4 205 4 21 := ⟨RX4, TX4, 26, rfl, rfl, by decide, rfl, List.mem_of_getElem? (i := 566) (by decide +kernel)⟩
theorem lkX3_236 : jFL RX3 236 0 7 := ⟨RX0, TX0, 15, rfl, rfl, by decide, rfl, List.mem_of_getElem? (i := 632) (by decide +kernel)⟩
theorem lkX4_224 : jFL RX4 224 4 25 := ⟨RX4, TX4, 26, rfl, rfl, by decide, rfl, List.mem_of_getElem? (i := 701) (by decide +kernel)⟩
theorem lkX3_257 : jFL RX3 257 0 10 := ⟨RX0, TX0, 15, rfl, rfl, by decide, rfl, List.mem_of_getElem? (i := 746) (by decide +kernel)⟩
theorem lkX3_260 : jFL RX3 260 0 1 := ⟨RX0, TX0, 15, rfl, rfl, by decide, rfl, List.mem_of_getElem? (i := 747) (by decide +kernel)⟩
theorem fwX0_0 : jFW 0 0 := fun _ _ _ h => by cases h; rfl
theorem fwX0_1 : jFW 0 1 := fun _ _ _ h => by cases h; rfl
theorem fwX0_2 : jFW 0 2 := fun _ _ _ h => by cases h; rfl
theorem fwX0_6 : jFW 0 6 := fun _ _ _ h => by cases h; rfl
theorem fwX0_10 : jFW 0 10 := fun _ _ _ h => by cases h; rfl
theorem fwX1_0 : jFW 1 0 := fun _ _ _ h => by cases h; rfl
theorem fwX1_1 : jFW 1 1 := fun _ _ _ h => by cases h; rfl
theorem fwX1_2 : jFW 1 2 := fun _ _ _ h => by cases h; rfl
theorem fwX2_1 : jFW 2 1 := fun _ _ _ h => by cases h; rfl
theorem fwX2_2 : jFW 2 2 := fun _ _ _ h => by cases h; rfl
theorem fwX2_3 : jFW 2 3 := fun _ _ _ h => by cases h; rfl
theorem fwX2_4 : jFW 2 4 := fun _ _ _ h => by cases h; rfl
theorem fwX2_5 : jFW 2 5 := fun _ _ _ h => by cases h; rfl
theorem fwX2_6 : jFW 2 6 := fun _ _ _ h => by cases h; rfl
theorem fwX3_6 : jFW 3 6 := fun _ _ _ h => by cases h; rfl
theorem fwX3_7 : jFW 3 7 := fun _ _ _ h => by cases h; rfl
theorem fwX3_11 : jFW 3 11 := fun _ _ _ h => by cases h; rfl
theorem fwX3_12 : jFW 3 12 := fun _ _ _ h => by cases h; rfl
theorem fwX3_13 : jFW 3 13 := fun _ _ _ h => by cases h; rfl
theorem fwX3_15 : jFW 3 15 := fun _ _ _ h => by cases h; rfl
theorem fwX3_16 : jFW 3 16 := fun _ _ _ h => by cases h; rfl
theorem fwX3_17 : jFW 3 17 := fun _ _ _ h => by cases h; rfl
theorem fwX4_3 : jFW 4 3 := fun _ _ _ h => by cases h; rfl
theorem fwX4_4 : jFW 4 4 := fun _ _ _ h => by cases h; rfl
theorem fwX4_8 : jFW 4 8 := fun _ _ _ h => by cases h; rfl
theorem fwX4_9 : jFW 4 9 := fun _ _ _ h => by cases h; rfl
theorem fwX4_10 : jFW 4 10 := fun _ _ _ h => by cases h; rfl
theorem fwX4_11 : jFW 4 11 := fun _ _ _ h => by cases h; rfl
theorem fwX4_12 : jFW 4 12 := fun _ _ _ h => by cases h; rfl
theorem fwX4_13 : jFW 4 13 := fun _ _ _ h => by cases h; rfl
theorem fwX4_14 : jFW 4 14 := fun _ _ _ h => by cases h; rfl
theorem fwX4_18 : jFW 4 18 := fun _ _ _ h => by cases h; rfl
theorem fwX4_21 : jFW 4 21 := fun _ _ _ h => by cases h; rfl
theorem fwX4_25 : jFW 4 25 := fun _ _ _ h => by cases h; rfl
set_option maxRecDepth 100000 in
theorem cd_mX3_row : Cond.code yX3_row cX3_row 4 (some .int) ∈ wsL_law := List.mem_of_getElem? (i := 98) rfl
set_option maxRecDepth 100000 in
theorem cd_mX3_isNot : Cond.code yX3_isNot cX3_isNot 2 (some .boolean) ∈ wsL_law := List.mem_of_getElem? (i := 102) rfl
set_option maxRecDepth 100000 in
theorem cd_mX3_found : Cond.code yX3_found cX3_found 2 (some .int) ∈ wsL_law := List.mem_of_getElem? (i := 106) rfl
set_option maxRecDepth 100000 in
theorem cd_mX1_begin : Cond.code yX1_begin cX1_begin 3 none ∈ wsL_law := List.mem_of_getElem? (i := 111) rfl
set_option maxRecDepth 100000 in
theorem cd_mArr_fill : Cond.code yJ7_fill_53178 cJ7_fill_53178 4 none ∈ wsL_law := List.mem_of_getElem? (i := 115) rfl
set_option maxRecDepth 100000 in
theorem cd_mX3_fine : Cond.code yX3_fine cX3_fine 2 (some .int) ∈ wsL_law := List.mem_of_getElem? (i := 119) rfl
set_option maxRecDepth 100000 in
theorem cd_mX4_row : Cond.code yX4_row cX4_row 5 (some .int) ∈ wsL_law := List.mem_of_getElem? (i := 123) rfl
set_option maxRecDepth 100000 in
theorem cd_mX4_isRow : Cond.code yX4_isRow cX4_isRow 1 (some .boolean) ∈ wsL_law := List.mem_of_getElem? (i := 128) rfl
set_option maxRecDepth 100000 in
theorem cd_mX4_in : Cond.code yX4_in cX4_in 6 (some .boolean) ∈ wsL_law := List.mem_of_getElem? (i := 132) rfl
set_option maxRecDepth 100000 in
theorem cd_mX4_find : Cond.code yX4_find cX4_find 2 (some .int) ∈ wsL_law := List.mem_of_getElem? (i := 136) rfl
set_option maxRecDepth 100000 in
theorem cd_mX4_well : Cond.code yX4_well cX4_well 2 (some .int) ∈ wsL_law := List.mem_of_getElem? (i := 142) rfl
set_option maxRecDepth 100000 in
theorem cd_mX3_set : Cond.code yX3_set cX3_set 5 (some .int) ∈ wsL_law := List.mem_of_getElem? (i := 146) rfl
set_option maxRecDepth 100000 in
theorem cd_mX1_reaches : Cond.code yX1_reaches cX1_reaches 3 (some .boolean) ∈ wsL_law := List.mem_of_getElem? (i := 152) rfl
set_option maxRecDepth 100000 in
theorem cd_mX1_cut : Cond.code yX1_cut cX1_cut 2 (some .int) ∈ wsL_law := List.mem_of_getElem? (i := 156) rfl
set_option maxRecDepth 100000 in
theorem cd_mX4_set : Cond.code yX4_set cX4_set 4 (some .int) ∈ wsL_law := List.mem_of_getElem? (i := 160) rfl
set_option maxRecDepth 100000 in
theorem cd_mX4_asLane : Cond.code yX4_asLane cX4_asLane 2 (some .int) ∈ wsL_law := List.mem_of_getElem? (i := 163) rfl
set_option maxRecDepth 100000 in
theorem cd_mX3_copy : Cond.code yX3_copy cX3_copy 8 (some .int) ∈ wsL_law := List.mem_of_getElem? (i := 167) rfl
set_option maxRecDepth 100000 in
theorem cd_mX4_copy : Cond.code yX4_copy cX4_copy 7 (some .int) ∈ wsL_law := List.mem_of_getElem? (i := 176) rfl
set_option maxRecDepth 100000 in
theorem cd_mX3_drop : Cond.code yX3_drop cX3_drop 3 (some .int) ∈ wsL_law := List.mem_of_getElem? (i := 180) rfl
set_option maxRecDepth 100000 in
theorem cd_mX4_drop : Cond.code yX4_drop cX4_drop 3 (some .int) ∈ wsL_law := List.mem_of_getElem? (i := 185) rfl
set_option maxRecDepth 100000 in
theorem cd_mX3_feed : Cond.code yX3_feed cX3_feed 2 (some .int) ∈ wsL_law := List.mem_of_getElem? (i := 189) rfl
set_option maxRecDepth 100000 in
theorem cd_mX4_feed : Cond.code yX4_feed cX4_feed 2 (some .int) ∈ wsL_law := List.mem_of_getElem? (i := 196) rfl
set_option maxRecDepth 100000 in
theorem cd_mX3_kitchen : Cond.code yX3_kitchen cX3_kitchen 1 (some .int) ∈ wsL_law := List.mem_of_getElem? (i := 203) rfl
set_option maxRecDepth 100000 in
theorem cd_mX2_readInto : Cond.code yX2_readInto cX2_readInto 3 none ∈ wsL_law := List.mem_of_getElem? (i := 211) rfl
set_option maxRecDepth 100000 in
theorem cd_mX0_begin : Cond.code yX0_begin cX0_begin 1 none ∈ wsL_law := List.mem_of_getElem? (i := 216) rfl
set_option maxRecDepth 100000 in
theorem cd_mX2_step : Cond.code yX2_step cX2_step 3 none ∈ wsL_law := List.mem_of_getElem? (i := 222) rfl
set_option maxRecDepth 100000 in
theorem cd_mX2_isFigure : Cond.code yX2_isFigure cX2_isFigure 1 (some .boolean) ∈ wsL_law := List.mem_of_getElem? (i := 225) rfl
set_option maxRecDepth 100000 in
theorem cd_mX2_stepNumber : Cond.code yX2_stepNumber cX2_stepNumber 1 none ∈ wsL_law := List.mem_of_getElem? (i := 229) rfl
set_option maxRecDepth 100000 in
theorem cd_mMath_min : Cond.code Lib.Math.min.name Lib.Math.min.code 2 (some .int) ∈ wsL_law := List.mem_of_getElem? (i := 233) rfl
set_option maxRecDepth 100000 in
theorem cd_mX2_take : Cond.code yX2_take cX2_take 2 none ∈ wsL_law := List.mem_of_getElem? (i := 237) rfl
set_option maxRecDepth 100000 in
theorem cd_mX2_takeNumber : Cond.code yX2_takeNumber cX2_takeNumber 4 (some .int) ∈ wsL_law := List.mem_of_getElem? (i := 241) rfl
set_option maxRecDepth 100000 in
theorem cd_mX2_readSinger : Cond.code yX2_readSinger cX2_readSinger 3 none ∈ wsL_law := List.mem_of_getElem? (i := 245) rfl
set_option maxRecDepth 100000 in
theorem cd_mX2_kindOf : Cond.code yX2_kindOf cX2_kindOf 1 (some .int) ∈ wsL_law := List.mem_of_getElem? (i := 252) rfl
set_option maxRecDepth 100000 in
theorem cd_mX2_readPan : Cond.code yX2_readPan cX2_readPan 3 none ∈ wsL_law := List.mem_of_getElem? (i := 256) rfl
set_option maxRecDepth 100000 in
theorem cd_mX0_takeFrom : Cond.code yX0_takeFrom cX0_takeFrom 2 none ∈ wsL_law := List.mem_of_getElem? (i := 265) rfl
set_option maxRecDepth 100000 in
theorem cd_mX4_kitchen : Cond.code yX4_kitchen cX4_kitchen 3 (some .int) ∈ wsL_law := List.mem_of_getElem? (i := 270) rfl
set_option maxRecDepth 100000 in
theorem cd_mX4_readKitchen : Cond.code yX4_readKitchen cX4_readKitchen 3 (some .boolean) ∈ wsL_law := List.mem_of_getElem? (i := 280) rfl
set_option maxRecDepth 100000 in
theorem cd_mX4_nextToken : Cond.code yX4_nextToken cX4_nextToken 1 none ∈ wsL_law := List.mem_of_getElem? (i := 286) rfl
set_option maxRecDepth 100000 in
theorem cd_mX4_takes : Cond.code yX4_takes cX4_takes 2 (some .boolean) ∈ wsL_law := List.mem_of_getElem? (i := 295) rfl
set_option maxRecDepth 100000 in
theorem cd_mX4_isLetter : Cond.code yX4_isLetter cX4_isLetter 2 (some .boolean) ∈ wsL_law := List.mem_of_getElem? (i := 299) rfl
set_option maxRecDepth 100000 in
theorem cd_mX4_faults : Cond.code yX4_faults cX4_faults 2 (some .boolean) ∈ wsL_law := List.mem_of_getElem? (i := 303) rfl
set_option maxRecDepth 100000 in
theorem cd_mX4_takesNumber : Cond.code yX4_takesNumber cX4_takesNumber 5 (some .boolean) ∈ wsL_law := List.mem_of_getElem? (i := 307) rfl
set_option maxRecDepth 100000 in
theorem cd_mX4_readPan : Cond.code yX4_readPan cX4_readPan 3 (some .boolean) ∈ wsL_law := List.mem_of_getElem? (i := 311) rfl
set_option maxRecDepth 100000 in
theorem cd_mX4_readSinger : Cond.code yX4_readSinger cX4_readSinger 2 (some .boolean) ∈ wsL_law := List.mem_of_getElem? (i := 316) rfl
set_option maxRecDepth 100000 in
theorem cd_mX3_fault : Cond.code yX3_fault cX3_fault 1 (some .int) ∈ wsL_law := List.mem_of_getElem? (i := 320) rfl
set_option maxRecDepth 100000 in
theorem cd_mX4_fault : Cond.code yX4_fault cX4_fault 1 (some .int) ∈ wsL_law := List.mem_of_getElem? (i := 324) rfl
set_option maxRecDepth 100000 in
theorem cd_mX3_bar : Cond.code yX3_bar cX3_bar 5 (some .int) ∈ wsL_law := List.mem_of_getElem? (i := 328) rfl
set_option maxRecDepth 100000 in
theorem cd_mX0_can : Cond.code yX0_can cX0_can 3 (some .boolean) ∈ wsL_law := List.mem_of_getElem? (i := 335) rfl
set_option maxRecDepth 100000 in
theorem cd_mX3_keepAct : Cond.code yX3_keepAct cX3_keepAct 1 none ∈ wsL_law := List.mem_of_getElem? (i := 339) rfl
set_option maxRecDepth 100000 in
theorem cd_mX0_keep : Cond.code yX0_keep cX0_keep 2 none ∈ wsL_law := List.mem_of_getElem? (i := 344) rfl
set_option maxRecDepth 100000 in
theorem cd_mX0_singBar : Cond.code yX0_singBar cX0_singBar 3 none ∈ wsL_law := List.mem_of_getElem? (i := 348) rfl
set_option maxRecDepth 100000 in
theorem cd_mX0_isSet : Cond.code yX0_isSet cX0_isSet 2 (some .boolean) ∈ wsL_law := List.mem_of_getElem? (i := 352) rfl
set_option maxRecDepth 100000 in
theorem cd_mX0_hear : Cond.code yX0_hear cX0_hear 5 none ∈ wsL_law := List.mem_of_getElem? (i := 356) rfl
set_option maxRecDepth 100000 in
theorem cd_mInt_numberOfTrailingZeros : Cond.code yJ6_numberOfTrailingZeros_0f7a4 cJ6_numberOfTrailingZeros_0f7a4 2 (some .int) ∈ wsL_law := List.mem_of_getElem? (i := 360) rfl
set_option maxRecDepth 100000 in
theorem cd_mX0_judge : Cond.code yX0_judge cX0_judge 5 (some .int) ∈ wsL_law := List.mem_of_getElem? (i := 365) rfl
set_option maxRecDepth 100000 in
theorem cd_mMath_abs : Cond.code Lib.Math.abs.name Lib.Math.abs.code 1 (some .int) ∈ wsL_law := List.mem_of_getElem? (i := 368) rfl
set_option maxRecDepth 100000 in
theorem cd_mX0_thickBy : Cond.code yX0_thickBy cX0_thickBy 3 (some .int) ∈ wsL_law := List.mem_of_getElem? (i := 372) rfl
set_option maxRecDepth 100000 in
theorem cd_mMath_max : Cond.code Lib.Math.max.name Lib.Math.max.code 2 (some .int) ∈ wsL_law := List.mem_of_getElem? (i := 375) rfl
set_option maxRecDepth 100000 in
theorem cd_mX0_setPans : Cond.code yX0_setPans cX0_setPans 3 (some .int) ∈ wsL_law := List.mem_of_getElem? (i := 379) rfl
set_option maxRecDepth 100000 in
theorem cd_mX4_bar : Cond.code yX4_bar cX4_bar 6 (some .int) ∈ wsL_law := List.mem_of_getElem? (i := 383) rfl
set_option maxRecDepth 100000 in
theorem cd_mX4_canSing : Cond.code yX4_canSing cX4_canSing 3 (some .boolean) ∈ wsL_law := List.mem_of_getElem? (i := 388) rfl
set_option maxRecDepth 100000 in
theorem cd_mX4_note : Cond.code yX4_note cX4_note 2 none ∈ wsL_law := List.mem_of_getElem? (i := 392) rfl
set_option maxRecDepth 100000 in
theorem cd_mX4_oneBar : Cond.code yX4_oneBar cX4_oneBar 2 none ∈ wsL_law := List.mem_of_getElem? (i := 396) rfl
set_option maxRecDepth 100000 in
theorem cd_mX4_panHears : Cond.code yX4_panHears cX4_panHears 7 none ∈ wsL_law := List.mem_of_getElem? (i := 400) rfl
set_option maxRecDepth 100000 in
theorem cd_mX4_has : Cond.code yX4_has cX4_has 2 (some .boolean) ∈ wsL_law := List.mem_of_getElem? (i := 403) rfl
set_option maxRecDepth 100000 in
theorem cd_mX4_setPans : Cond.code yX4_setPans cX4_setPans 3 (some .int) ∈ wsL_law := List.mem_of_getElem? (i := 407) rfl
set_option maxRecDepth 100000 in
theorem cd_mX3_window : Cond.code yX3_window cX3_window 4 (some .int) ∈ wsL_law := List.mem_of_getElem? (i := 411) rfl
set_option maxRecDepth 100000 in
theorem cd_mX4_window : Cond.code yX4_window cX4_window 4 (some .int) ∈ wsL_law := List.mem_of_getElem? (i := 416) rfl
set_option maxRecDepth 100000 in
theorem cd_mX4_isPan : Cond.code yX4_isPan cX4_isPan 2 (some .boolean) ∈ wsL_law := List.mem_of_getElem? (i := 420) rfl
set_option maxRecDepth 100000 in
theorem cd_mX4_isSinger : Cond.code yX4_isSinger cX4_isSinger 2 (some .boolean) ∈ wsL_law := List.mem_of_getElem? (i := 424) rfl
set_option maxRecDepth 100000 in
theorem cd_mX3_undo : Cond.code yX3_undo cX3_undo 1 (some .int) ∈ wsL_law := List.mem_of_getElem? (i := 428) rfl
set_option maxRecDepth 100000 in
theorem cd_mX0_bring : Cond.code yX0_bring cX0_bring 2 none ∈ wsL_law := List.mem_of_getElem? (i := 432) rfl
set_option maxRecDepth 100000 in
theorem cd_mX4_undo : Cond.code yX4_undo cX4_undo 2 (some .int) ∈ wsL_law := List.mem_of_getElem? (i := 436) rfl
set_option maxRecDepth 100000 in
theorem cd_mX3_pan : Cond.code yX3_pan cX3_pan 3 (some .int) ∈ wsL_law := List.mem_of_getElem? (i := 440) rfl
set_option maxRecDepth 100000 in
theorem cd_mX4_pan : Cond.code yX4_pan cX4_pan 3 (some .int) ∈ wsL_law := List.mem_of_getElem? (i := 449) rfl
set_option maxRecDepth 100000 in
theorem cd_mX3_singer : Cond.code yX3_singer cX3_singer 3 (some .int) ∈ wsL_law := List.mem_of_getElem? (i := 453) rfl
set_option maxRecDepth 100000 in
theorem cd_mX4_singer : Cond.code yX4_singer cX4_singer 3 (some .int) ∈ wsL_law := List.mem_of_getElem? (i := 461) rfl
set_option maxRecDepth 100000 in
theorem cd_mX3_alone : Cond.code yX3_alone cX3_alone 6 (some .int) ∈ wsL_law := List.mem_of_getElem? (i := 465) rfl
set_option maxRecDepth 100000 in
theorem cd_mX3_takeTune : Cond.code yX3_takeTune cX3_takeTune 5 (some .int) ∈ wsL_law := List.mem_of_getElem? (i := 469) rfl
set_option maxRecDepth 100000 in
theorem cd_mX3_trySolo : Cond.code yX3_trySolo cX3_trySolo 5 none ∈ wsL_law := List.mem_of_getElem? (i := 473) rfl
set_option maxRecDepth 100000 in
theorem cd_mX0_tryBar : Cond.code yX0_tryBar cX0_tryBar 3 none ∈ wsL_law := List.mem_of_getElem? (i := 478) rfl
set_option maxRecDepth 100000 in
theorem cd_mX4_alone : Cond.code yX4_alone cX4_alone 7 (some .int) ∈ wsL_law := List.mem_of_getElem? (i := 484) rfl
set_option maxRecDepth 100000 in
theorem cd_mX4_lacks : Cond.code yX4_lacks cX4_lacks 6 (some .int) ∈ wsL_law := List.mem_of_getElem? (i := 489) rfl
set_option maxRecDepth 100000 in
theorem cd_mX4_putAside : Cond.code yX4_putAside cX4_putAside 2 none ∈ wsL_law := List.mem_of_getElem? (i := 493) rfl
set_option maxRecDepth 100000 in
theorem cd_mX4_singAlone : Cond.code yX4_singAlone cX4_singAlone 7 none ∈ wsL_law := List.mem_of_getElem? (i := 497) rfl
set_option maxRecDepth 100000 in
theorem cd_mX4_allRest : Cond.code yX4_allRest cX4_allRest 2 none ∈ wsL_law := List.mem_of_getElem? (i := 501) rfl
set_option maxRecDepth 100000 in
theorem cd_mX4_takeBack : Cond.code yX4_takeBack cX4_takeBack 2 none ∈ wsL_law := List.mem_of_getElem? (i := 505) rfl
set_option maxRecDepth 100000 in
theorem cd_mX3_round : Cond.code yX3_round cX3_round 6 (some .int) ∈ wsL_law := List.mem_of_getElem? (i := 509) rfl
set_option maxRecDepth 100000 in
theorem cd_mX3_tryRound : Cond.code yX3_tryRound cX3_tryRound 7 none ∈ wsL_law := List.mem_of_getElem? (i := 513) rfl
set_option maxRecDepth 100000 in
theorem cd_mX4_round : Cond.code yX4_round cX4_round 7 (some .int) ∈ wsL_law := List.mem_of_getElem? (i := 517) rfl
set_option maxRecDepth 100000 in
theorem cd_mX4_singRound : Cond.code yX4_singRound cX4_singRound 9 none ∈ wsL_law := List.mem_of_getElem? (i := 522) rfl
set_option maxRecDepth 100000 in
theorem cd_mX3_bestRound : Cond.code yX3_bestRound cX3_bestRound 10 (some .int) ∈ wsL_law := List.mem_of_getElem? (i := 526) rfl
set_option maxRecDepth 100000 in
theorem cd_mInt_bitCount : Cond.code yJ6_bitCount_0f7a4 cJ6_bitCount_0f7a4 1 (some .int) ∈ wsL_law := List.mem_of_getElem? (i := 529) rfl
set_option maxRecDepth 100000 in
theorem cd_mX4_bestRound : Cond.code yX4_bestRound cX4_bestRound 10 (some .int) ∈ wsL_law := List.mem_of_getElem? (i := 536) rfl
set_option maxRecDepth 100000 in
theorem cd_mX4_ones : Cond.code yX4_ones cX4_ones 3 (some .int) ∈ wsL_law := List.mem_of_getElem? (i := 539) rfl
set_option maxRecDepth 100000 in
theorem cd_mX3_song : Cond.code yX3_song cX3_song 4 (some .int) ∈ wsL_law := List.mem_of_getElem? (i := 543) rfl
set_option maxRecDepth 100000 in
theorem cd_mX3_seekSong : Cond.code yX3_seekSong cX3_seekSong 6 none ∈ wsL_law := List.mem_of_getElem? (i := 547) rfl
set_option maxRecDepth 100000 in
theorem cd_mX3_trySong : Cond.code yX3_trySong cX3_trySong 7 (some .int) ∈ wsL_law := List.mem_of_getElem? (i := 551) rfl
set_option maxRecDepth 100000 in
theorem cd_mX3_noteOf : Cond.code yX3_noteOf cX3_noteOf 3 (some .int) ∈ wsL_law := List.mem_of_getElem? (i := 555) rfl
set_option maxRecDepth 100000 in
theorem cd_mX3_weighSong : Cond.code yX3_weighSong cX3_weighSong 6 none ∈ wsL_law := List.mem_of_getElem? (i := 559) rfl
set_option maxRecDepth 100000 in
theorem cd_mX4_song : Cond.code yX4_song cX4_song 10 (some .int) ∈ wsL_law := List.mem_of_getElem? (i := 563) rfl
set_option maxRecDepth 100000 in
theorem cd_mX4_singsRow : Cond.code yX4_singsRow cX4_singsRow 5 (some .boolean) ∈ wsL_law := List.mem_of_getElem? (i := 570) rfl
set_option maxRecDepth 100000 in
theorem cd_mX3_toShut : Cond.code yX3_toShut cX3_toShut 12 (some .int) ∈ wsL_law := List.mem_of_getElem? (i := 574) rfl
set_option maxRecDepth 100000 in
theorem cd_mX3_setsWithout : Cond.code yX3_setsWithout cX3_setsWithout 5 (some .boolean) ∈ wsL_law := List.mem_of_getElem? (i := 579) rfl
set_option maxRecDepth 100000 in
theorem cd_mX4_toShut : Cond.code yX4_toShut cX4_toShut 11 (some .int) ∈ wsL_law := List.mem_of_getElem? (i := 583) rfl
set_option maxRecDepth 100000 in
theorem cd_mX3_modes : Cond.code yX3_modes cX3_modes 12 (some .int) ∈ wsL_law := List.mem_of_getElem? (i := 587) rfl
set_option maxRecDepth 100000 in
theorem cd_mX4_modes : Cond.code yX4_modes cX4_modes 13 (some .int) ∈ wsL_law := List.mem_of_getElem? (i := 591) rfl
set_option maxRecDepth 100000 in
theorem cd_mX3_coughs : Cond.code yX3_coughs cX3_coughs 12 (some .int) ∈ wsL_law := List.mem_of_getElem? (i := 596) rfl
set_option maxRecDepth 100000 in
theorem cd_mX3_weightOf : Cond.code yX3_weightOf cX3_weightOf 4 (some .int) ∈ wsL_law := List.mem_of_getElem? (i := 599) rfl
set_option maxRecDepth 100000 in
theorem cd_mX3_power : Cond.code yX3_power cX3_power 4 (some .int) ∈ wsL_law := List.mem_of_getElem? (i := 602) rfl
set_option maxRecDepth 100000 in
theorem cd_mX3_commonDivisor : Cond.code yX3_commonDivisor cX3_commonDivisor 6 (some .int) ∈ wsL_law := List.mem_of_getElem? (i := 605) rfl
set_option maxRecDepth 100000 in
theorem cd_mX4_coughs : Cond.code yX4_coughs cX4_coughs 14 (some .int) ∈ wsL_law := List.mem_of_getElem? (i := 610) rfl
set_option maxRecDepth 100000 in
theorem cd_mX3_image : Cond.code yX3_image cX3_image 2 (some .int) ∈ wsL_law := List.mem_of_getElem? (i := 615) rfl
set_option maxRecDepth 100000 in
theorem cd_mX4_image : Cond.code yX4_image cX4_image 3 (some .int) ∈ wsL_law := List.mem_of_getElem? (i := 619) rfl
set_option maxRecDepth 100000 in
theorem cd_mX3_restore : Cond.code yX3_restore cX3_restore 2 (some .int) ∈ wsL_law := List.mem_of_getElem? (i := 623) rfl
set_option maxRecDepth 100000 in
theorem cd_mX4_restore : Cond.code yX4_restore cX4_restore 3 (some .int) ∈ wsL_law := List.mem_of_getElem? (i := 627) rfl
set_option maxRecDepth 100000 in
theorem cd_mX3_kind : Cond.code yX3_kind cX3_kind 2 (some .int) ∈ wsL_law := List.mem_of_getElem? (i := 631) rfl
set_option maxRecDepth 100000 in
theorem cd_mX4_kind : Cond.code yX4_kind cX4_kind 2 (some .int) ∈ wsL_law := List.mem_of_getElem? (i := 636) rfl
set_option maxRecDepth 100000 in
theorem cd_mX3_as : Cond.code yX3_as cX3_as 3 (some .int) ∈ wsL_law := List.mem_of_getElem? (i := 640) rfl
set_option maxRecDepth 100000 in
theorem cd_mX3_isOf : Cond.code yX3_isOf cX3_isOf 4 (some .boolean) ∈ wsL_law := List.mem_of_getElem? (i := 643) rfl
set_option maxRecDepth 100000 in
theorem cd_mX4_as : Cond.code yX4_as cX4_as 3 (some .int) ∈ wsL_law := List.mem_of_getElem? (i := 648) rfl
set_option maxRecDepth 100000 in
theorem cd_mX4_isKind : Cond.code yX4_isKind cX4_isKind 2 (some .boolean) ∈ wsL_law := List.mem_of_getElem? (i := 652) rfl
set_option maxRecDepth 100000 in
theorem cd_mX3_ask : Cond.code yX3_ask cX3_ask 4 (some .int) ∈ wsL_law := List.mem_of_getElem? (i := 656) rfl
set_option maxRecDepth 100000 in
theorem cd_mX3_sizeOfPlums : Cond.code yX3_sizeOfPlums cX3_sizeOfPlums 2 (some .int) ∈ wsL_law := List.mem_of_getElem? (i := 660) rfl
set_option maxRecDepth 100000 in
theorem cd_mX3_leave : Cond.code yX3_leave cX3_leave 2 none ∈ wsL_law := List.mem_of_getElem? (i := 664) rfl
set_option maxRecDepth 100000 in
theorem cd_mX3_plumSize : Cond.code yX3_plumSize cX3_plumSize 3 (some .int) ∈ wsL_law := List.mem_of_getElem? (i := 668) rfl
set_option maxRecDepth 100000 in
theorem cd_mX3_lentSize : Cond.code yX3_lentSize cX3_lentSize 2 (some .int) ∈ wsL_law := List.mem_of_getElem? (i := 672) rfl
set_option maxRecDepth 100000 in
theorem cd_mX3_markOfPlums : Cond.code yX3_markOfPlums cX3_markOfPlums 2 (some .int) ∈ wsL_law := List.mem_of_getElem? (i := 676) rfl
set_option maxRecDepth 100000 in
theorem cd_mX3_plumMark : Cond.code yX3_plumMark cX3_plumMark 2 (some .int) ∈ wsL_law := List.mem_of_getElem? (i := 680) rfl
set_option maxRecDepth 100000 in
theorem cd_mX3_lentMark : Cond.code yX3_lentMark cX3_lentMark 2 (some .int) ∈ wsL_law := List.mem_of_getElem? (i := 684) rfl
set_option maxRecDepth 100000 in
theorem cd_mX3_sizeOfMarrows : Cond.code yX3_sizeOfMarrows cX3_sizeOfMarrows 2 (some .int) ∈ wsL_law := List.mem_of_getElem? (i := 688) rfl
set_option maxRecDepth 100000 in
theorem cd_mX3_marrowSize : Cond.code yX3_marrowSize cX3_marrowSize 2 (some .int) ∈ wsL_law := List.mem_of_getElem? (i := 692) rfl
set_option maxRecDepth 100000 in
theorem cd_mX3_markOfMarrows : Cond.code yX3_markOfMarrows cX3_markOfMarrows 3 (some .int) ∈ wsL_law := List.mem_of_getElem? (i := 696) rfl
set_option maxRecDepth 100000 in
theorem cd_mX4_ask : Cond.code yX4_ask cX4_ask 3 (some .int) ∈ wsL_law := List.mem_of_getElem? (i := 700) rfl
set_option maxRecDepth 100000 in
theorem cd_mX4_sizeOf : Cond.code yX4_sizeOf cX4_sizeOf 3 (some .int) ∈ wsL_law := List.mem_of_getElem? (i := 705) rfl
set_option maxRecDepth 100000 in
theorem cd_mX4_begin : Cond.code yX4_begin cX4_begin 2 none ∈ wsL_law := List.mem_of_getElem? (i := 709) rfl
set_option maxRecDepth 100000 in
theorem cd_mX4_plumSize : Cond.code yX4_plumSize cX4_plumSize 3 (some .int) ∈ wsL_law := List.mem_of_getElem? (i := 713) rfl
set_option maxRecDepth 100000 in
theorem cd_mX4_lent : Cond.code yX4_lent cX4_lent 3 (some .int) ∈ wsL_law := List.mem_of_getElem? (i := 717) rfl
set_option maxRecDepth 100000 in
theorem cd_mX4_markOf : Cond.code yX4_markOf cX4_markOf 4 (some .int) ∈ wsL_law := List.mem_of_getElem? (i := 721) rfl
set_option maxRecDepth 100000 in
theorem cd_mX4_plumMark : Cond.code yX4_plumMark cX4_plumMark 2 (some .int) ∈ wsL_law := List.mem_of_getElem? (i := 725) rfl
set_option maxRecDepth 100000 in
theorem cd_mX4_sizeOfMarrow : Cond.code yX4_sizeOfMarrow cX4_sizeOfMarrow 2 (some .int) ∈ wsL_law := List.mem_of_getElem? (i := 729) rfl
set_option maxRecDepth 100000 in
theorem cd_mX4_marrowSize : Cond.code yX4_marrowSize cX4_marrowSize 2 (some .int) ∈ wsL_law := List.mem_of_getElem? (i := 733) rfl
set_option maxRecDepth 100000 in
theorem cd_mX3_trace : Cond.code yX3_trace cX3_trace 2 (some .int) ∈ wsL_law := List.mem_of_getElem? (i := 737) rfl
set_option maxRecDepth 100000 in
theorem cd_mX4_trace : Cond.code yX4_trace cX4_trace 2 (some .int) ∈ wsL_law := List.mem_of_getElem? (i := 741) rfl
set_option maxRecDepth 100000 in
theorem cd_mX3_count : Cond.code yX3_count cX3_count 2 (some .int) ∈ wsL_law := List.mem_of_getElem? (i := 745) rfl
set_option maxRecDepth 100000 in
theorem cd_mX3_rowsThere : Cond.code yX3_rowsThere cX3_rowsThere 3 (some .int) ∈ wsL_law := List.mem_of_getElem? (i := 751) rfl
set_option maxRecDepth 100000 in
theorem cd_mX4_count : Cond.code yX4_count cX4_count 4 (some .int) ∈ wsL_law := List.mem_of_getElem? (i := 755) rfl
set_option maxRecDepth 100000 in
theorem cd_mX3_status : Cond.code yX3_status cX3_status 1 (some .int) ∈ wsL_law := List.mem_of_getElem? (i := 759) rfl
set_option maxRecDepth 100000 in
theorem cd_mX4_status : Cond.code yX4_status cX4_status 1 (some .int) ∈ wsL_law := List.mem_of_getElem? (i := 763) rfl
theorem ckX3_80 : jCS RX3 80 mX3_isNot := ⟨List.mem_of_getElem? (i := 100) (by decide +kernel), List.mem_of_getElem? (i := 101) (by decide +kernel), List.mem_of_getElem? (i := 2) (by decide +kernel), cd_mX3_isNot⟩
theorem ckX3_85 : jCV RX3 85 mX3_found := ⟨List.mem_of_getElem? (i := 103) (by decide +kernel), List.mem_of_getElem? (i := 104) (by decide +kernel), List.mem_of_getElem? (i := 105) (by decide +kernel), List.mem_of_getElem? (i := 2) (by decide +kernel), cd_mX3_found⟩
theorem ckX3_89 : jCV RX3 89 mX1_begin := ⟨List.mem_of_getElem? (i := 108) (by decide +kernel), List.mem_of_getElem? (i := 109) (by decide +kernel), List.mem_of_getElem? (i := 110) (by decide +kernel), List.mem_of_getElem? (i := 40) (by decide +kernel), cd_mX1_begin⟩
theorem ckX1_26 : jCS RX1 26 mArr_fill := ⟨List.mem_of_getElem? (i := 112) (by decide +kernel), List.mem_of_getElem? (i := 113) (by decide +kernel), List.mem_of_getElem? (i := 114) (by decide +kernel), cd_mArr_fill⟩
theorem ckX3_93 : jCV RX3 93 mX3_fine := ⟨List.mem_of_getElem? (i := 116) (by decide +kernel), List.mem_of_getElem? (i := 117) (by decide +kernel), List.mem_of_getElem? (i := 118) (by decide +kernel), List.mem_of_getElem? (i := 2) (by decide +kernel), cd_mX3_fine⟩
theorem ckX4_64 : jCS RX4 64 mX4_isRow := ⟨List.mem_of_getElem? (i := 126) (by decide +kernel), List.mem_of_getElem? (i := 127) (by decide +kernel), List.mem_of_getElem? (i := 5) (by decide +kernel), cd_mX4_isRow⟩
theorem ckX4_60 : jCS RX4 60 mX4_in := ⟨List.mem_of_getElem? (i := 130) (by decide +kernel), List.mem_of_getElem? (i := 131) (by decide +kernel), List.mem_of_getElem? (i := 5) (by decide +kernel), cd_mX4_in⟩
theorem ckX4_71 : jCV RX4 71 mX4_find := ⟨List.mem_of_getElem? (i := 133) (by decide +kernel), List.mem_of_getElem? (i := 134) (by decide +kernel), List.mem_of_getElem? (i := 135) (by decide +kernel), List.mem_of_getElem? (i := 5) (by decide +kernel), cd_mX4_find⟩
theorem ckX4_75 : jCV RX4 75 mX4_well := ⟨List.mem_of_getElem? (i := 139) (by decide +kernel), List.mem_of_getElem? (i := 140) (by decide +kernel), List.mem_of_getElem? (i := 141) (by decide +kernel), List.mem_of_getElem? (i := 5) (by decide +kernel), cd_mX4_well⟩
theorem ckX3_100 : jCV RX3 100 mX1_reaches := ⟨List.mem_of_getElem? (i := 149) (by decide +kernel), List.mem_of_getElem? (i := 150) (by decide +kernel), List.mem_of_getElem? (i := 151) (by decide +kernel), List.mem_of_getElem? (i := 40) (by decide +kernel), cd_mX1_reaches⟩
theorem ckX3_106 : jCV RX3 106 mX1_cut := ⟨List.mem_of_getElem? (i := 153) (by decide +kernel), List.mem_of_getElem? (i := 154) (by decide +kernel), List.mem_of_getElem? (i := 155) (by decide +kernel), List.mem_of_getElem? (i := 40) (by decide +kernel), cd_mX1_cut⟩
theorem ckX4_78 : jCS RX4 78 mX4_asLane := ⟨List.mem_of_getElem? (i := 161) (by decide +kernel), List.mem_of_getElem? (i := 162) (by decide +kernel), List.mem_of_getElem? (i := 5) (by decide +kernel), cd_mX4_asLane⟩
theorem ckX3_126 : jCV RX3 126 mX2_readInto := ⟨List.mem_of_getElem? (i := 208) (by decide +kernel), List.mem_of_getElem? (i := 209) (by decide +kernel), List.mem_of_getElem? (i := 210) (by decide +kernel), List.mem_of_getElem? (i := 16) (by decide +kernel), cd_mX2_readInto⟩
theorem ckX2_34 : jCV RX2 34 mX0_begin := ⟨List.mem_of_getElem? (i := 213) (by decide +kernel), List.mem_of_getElem? (i := 214) (by decide +kernel), List.mem_of_getElem? (i := 215) (by decide +kernel), List.mem_of_getElem? (i := 20) (by decide +kernel), cd_mX0_begin⟩
theorem ckX0_59 : jCS RX0 59 mArr_fill := ⟨List.mem_of_getElem? (i := 218) (by decide +kernel), List.mem_of_getElem? (i := 113) (by decide +kernel), List.mem_of_getElem? (i := 114) (by decide +kernel), cd_mArr_fill⟩
theorem ckX2_39 : jCV RX2 39 mX2_step := ⟨List.mem_of_getElem? (i := 219) (by decide +kernel), List.mem_of_getElem? (i := 220) (by decide +kernel), List.mem_of_getElem? (i := 221) (by decide +kernel), List.mem_of_getElem? (i := 16) (by decide +kernel), cd_mX2_step⟩
theorem ckX2_91 : jCS RX2 91 mX2_isFigure := ⟨List.mem_of_getElem? (i := 223) (by decide +kernel), List.mem_of_getElem? (i := 224) (by decide +kernel), List.mem_of_getElem? (i := 16) (by decide +kernel), cd_mX2_isFigure⟩
theorem ckX2_95 : jCV RX2 95 mX2_stepNumber := ⟨List.mem_of_getElem? (i := 226) (by decide +kernel), List.mem_of_getElem? (i := 227) (by decide +kernel), List.mem_of_getElem? (i := 228) (by decide +kernel), List.mem_of_getElem? (i := 16) (by decide +kernel), cd_mX2_stepNumber⟩
theorem ckX2_98 : jCS RX2 98 mMath_min := ⟨List.mem_of_getElem? (i := 230) (by decide +kernel), List.mem_of_getElem? (i := 231) (by decide +kernel), List.mem_of_getElem? (i := 232) (by decide +kernel), cd_mMath_min⟩
theorem ckX2_42 : jCV RX2 42 mX2_take := ⟨List.mem_of_getElem? (i := 234) (by decide +kernel), List.mem_of_getElem? (i := 235) (by decide +kernel), List.mem_of_getElem? (i := 236) (by decide +kernel), List.mem_of_getElem? (i := 16) (by decide +kernel), cd_mX2_take⟩
theorem ckX2_46 : jCV RX2 46 mX2_takeNumber := ⟨List.mem_of_getElem? (i := 238) (by decide +kernel), List.mem_of_getElem? (i := 239) (by decide +kernel), List.mem_of_getElem? (i := 240) (by decide +kernel), List.mem_of_getElem? (i := 16) (by decide +kernel), cd_mX2_takeNumber⟩
theorem ckX2_53 : jCV RX2 53 mX2_readSinger := ⟨List.mem_of_getElem? (i := 242) (by decide +kernel), List.mem_of_getElem? (i := 243) (by decide +kernel), List.mem_of_getElem? (i := 244) (by decide +kernel), List.mem_of_getElem? (i := 16) (by decide +kernel), cd_mX2_readSinger⟩
theorem ckX2_57 : jCS RX2 57 mX2_kindOf := ⟨List.mem_of_getElem? (i := 250) (by decide +kernel), List.mem_of_getElem? (i := 251) (by decide +kernel), List.mem_of_getElem? (i := 16) (by decide +kernel), cd_mX2_kindOf⟩
theorem ckX2_61 : jCV RX2 61 mX2_readPan := ⟨List.mem_of_getElem? (i := 253) (by decide +kernel), List.mem_of_getElem? (i := 254) (by decide +kernel), List.mem_of_getElem? (i := 255) (by decide +kernel), List.mem_of_getElem? (i := 16) (by decide +kernel), cd_mX2_readPan⟩
theorem ckX3_137 : jCV RX3 137 mX0_takeFrom := ⟨List.mem_of_getElem? (i := 262) (by decide +kernel), List.mem_of_getElem? (i := 263) (by decide +kernel), List.mem_of_getElem? (i := 264) (by decide +kernel), List.mem_of_getElem? (i := 20) (by decide +kernel), cd_mX0_takeFrom⟩
theorem ckX4_135 : jCV RX4 135 mX4_readKitchen := ⟨List.mem_of_getElem? (i := 277) (by decide +kernel), List.mem_of_getElem? (i := 278) (by decide +kernel), List.mem_of_getElem? (i := 279) (by decide +kernel), List.mem_of_getElem? (i := 5) (by decide +kernel), cd_mX4_readKitchen⟩
theorem ckX4_117 : jCV RX4 117 mX4_nextToken := ⟨List.mem_of_getElem? (i := 283) (by decide +kernel), List.mem_of_getElem? (i := 284) (by decide +kernel), List.mem_of_getElem? (i := 285) (by decide +kernel), List.mem_of_getElem? (i := 5) (by decide +kernel), cd_mX4_nextToken⟩
theorem ckX4_120 : jCV RX4 120 mX4_takes := ⟨List.mem_of_getElem? (i := 292) (by decide +kernel), List.mem_of_getElem? (i := 293) (by decide +kernel), List.mem_of_getElem? (i := 294) (by decide +kernel), List.mem_of_getElem? (i := 5) (by decide +kernel), cd_mX4_takes⟩
theorem ckX4_111 : jCV RX4 111 mX4_isLetter := ⟨List.mem_of_getElem? (i := 296) (by decide +kernel), List.mem_of_getElem? (i := 297) (by decide +kernel), List.mem_of_getElem? (i := 298) (by decide +kernel), List.mem_of_getElem? (i := 5) (by decide +kernel), cd_mX4_isLetter⟩
theorem ckX4_114 : jCV RX4 114 mX4_faults := ⟨List.mem_of_getElem? (i := 300) (by decide +kernel), List.mem_of_getElem? (i := 301) (by decide +kernel), List.mem_of_getElem? (i := 302) (by decide +kernel), List.mem_of_getElem? (i := 5) (by decide +kernel), cd_mX4_faults⟩
theorem ckX4_123 : jCV RX4 123 mX4_takesNumber := ⟨List.mem_of_getElem? (i := 304) (by decide +kernel), List.mem_of_getElem? (i := 305) (by decide +kernel), List.mem_of_getElem? (i := 306) (by decide +kernel), List.mem_of_getElem? (i := 5) (by decide +kernel), cd_mX4_takesNumber⟩
theorem ckX4_128 : jCV RX4 128 mX4_readPan := ⟨List.mem_of_getElem? (i := 308) (by decide +kernel), List.mem_of_getElem? (i := 309) (by decide +kernel), List.mem_of_getElem? (i := 310) (by decide +kernel), List.mem_of_getElem? (i := 5) (by decide +kernel), cd_mX4_readPan⟩
theorem ckX4_131 : jCV RX4 131 mX4_readSinger := ⟨List.mem_of_getElem? (i := 313) (by decide +kernel), List.mem_of_getElem? (i := 314) (by decide +kernel), List.mem_of_getElem? (i := 315) (by decide +kernel), List.mem_of_getElem? (i := 5) (by decide +kernel), cd_mX4_readSinger⟩
theorem ckX3_150 : jCV RX3 150 mX0_can := ⟨List.mem_of_getElem? (i := 332) (by decide +kernel), List.mem_of_getElem? (i := 333) (by decide +kernel), List.mem_of_getElem? (i := 334) (by decide +kernel), List.mem_of_getElem? (i := 20) (by decide +kernel), cd_mX0_can⟩
theorem ckX3_153 : jCV RX3 153 mX3_keepAct := ⟨List.mem_of_getElem? (i := 336) (by decide +kernel), List.mem_of_getElem? (i := 337) (by decide +kernel), List.mem_of_getElem? (i := 338) (by decide +kernel), List.mem_of_getElem? (i := 2) (by decide +kernel), cd_mX3_keepAct⟩
theorem ckX3_267 : jCS RX3 267 mMath_min := ⟨List.mem_of_getElem? (i := 340) (by decide +kernel), List.mem_of_getElem? (i := 231) (by decide +kernel), List.mem_of_getElem? (i := 232) (by decide +kernel), cd_mMath_min⟩
theorem ckX3_264 : jCV RX3 264 mX0_keep := ⟨List.mem_of_getElem? (i := 341) (by decide +kernel), List.mem_of_getElem? (i := 342) (by decide +kernel), List.mem_of_getElem? (i := 343) (by decide +kernel), List.mem_of_getElem? (i := 20) (by decide +kernel), cd_mX0_keep⟩
theorem ckX3_156 : jCV RX3 156 mX0_singBar := ⟨List.mem_of_getElem? (i := 345) (by decide +kernel), List.mem_of_getElem? (i := 346) (by decide +kernel), List.mem_of_getElem? (i := 347) (by decide +kernel), List.mem_of_getElem? (i := 20) (by decide +kernel), cd_mX0_singBar⟩
theorem ckX0_72 : jCV RX0 72 mX0_isSet := ⟨List.mem_of_getElem? (i := 349) (by decide +kernel), List.mem_of_getElem? (i := 350) (by decide +kernel), List.mem_of_getElem? (i := 351) (by decide +kernel), List.mem_of_getElem? (i := 20) (by decide +kernel), cd_mX0_isSet⟩
theorem ckX0_84 : jCV RX0 84 mX0_hear := ⟨List.mem_of_getElem? (i := 353) (by decide +kernel), List.mem_of_getElem? (i := 354) (by decide +kernel), List.mem_of_getElem? (i := 355) (by decide +kernel), List.mem_of_getElem? (i := 20) (by decide +kernel), cd_mX0_hear⟩
theorem ckX0_88 : jCS RX0 88 mInt_numberOfTrailingZeros := ⟨List.mem_of_getElem? (i := 357) (by decide +kernel), List.mem_of_getElem? (i := 358) (by decide +kernel), List.mem_of_getElem? (i := 359) (by decide +kernel), cd_mInt_numberOfTrailingZeros⟩
theorem ckX0_94 : jCV RX0 94 mX0_judge := ⟨List.mem_of_getElem? (i := 362) (by decide +kernel), List.mem_of_getElem? (i := 363) (by decide +kernel), List.mem_of_getElem? (i := 364) (by decide +kernel), List.mem_of_getElem? (i := 20) (by decide +kernel), cd_mX0_judge⟩
theorem ckX0_102 : jCS RX0 102 mMath_abs := ⟨List.mem_of_getElem? (i := 366) (by decide +kernel), List.mem_of_getElem? (i := 367) (by decide +kernel), List.mem_of_getElem? (i := 232) (by decide +kernel), cd_mMath_abs⟩
theorem ckX0_98 : jCV RX0 98 mX0_thickBy := ⟨List.mem_of_getElem? (i := 369) (by decide +kernel), List.mem_of_getElem? (i := 370) (by decide +kernel), List.mem_of_getElem? (i := 371) (by decide +kernel), List.mem_of_getElem? (i := 20) (by decide +kernel), cd_mX0_thickBy⟩
theorem ckX0_107 : jCS RX0 107 mMath_max := ⟨List.mem_of_getElem? (i := 373) (by decide +kernel), List.mem_of_getElem? (i := 374) (by decide +kernel), List.mem_of_getElem? (i := 232) (by decide +kernel), cd_mMath_max⟩
theorem ckX3_160 : jCV RX3 160 mX0_setPans := ⟨List.mem_of_getElem? (i := 376) (by decide +kernel), List.mem_of_getElem? (i := 377) (by decide +kernel), List.mem_of_getElem? (i := 378) (by decide +kernel), List.mem_of_getElem? (i := 20) (by decide +kernel), cd_mX0_setPans⟩
theorem ckX4_158 : jCV RX4 158 mX4_canSing := ⟨List.mem_of_getElem? (i := 385) (by decide +kernel), List.mem_of_getElem? (i := 386) (by decide +kernel), List.mem_of_getElem? (i := 387) (by decide +kernel), List.mem_of_getElem? (i := 5) (by decide +kernel), cd_mX4_canSing⟩
theorem ckX4_161 : jCV RX4 161 mX4_note := ⟨List.mem_of_getElem? (i := 389) (by decide +kernel), List.mem_of_getElem? (i := 390) (by decide +kernel), List.mem_of_getElem? (i := 391) (by decide +kernel), List.mem_of_getElem? (i := 5) (by decide +kernel), cd_mX4_note⟩
theorem ckX4_164 : jCV RX4 164 mX4_oneBar := ⟨List.mem_of_getElem? (i := 393) (by decide +kernel), List.mem_of_getElem? (i := 394) (by decide +kernel), List.mem_of_getElem? (i := 395) (by decide +kernel), List.mem_of_getElem? (i := 5) (by decide +kernel), cd_mX4_oneBar⟩
theorem ckX4_153 : jCV RX4 153 mX4_panHears := ⟨List.mem_of_getElem? (i := 397) (by decide +kernel), List.mem_of_getElem? (i := 398) (by decide +kernel), List.mem_of_getElem? (i := 399) (by decide +kernel), List.mem_of_getElem? (i := 5) (by decide +kernel), cd_mX4_panHears⟩
theorem ckX4_149 : jCS RX4 149 mX4_has := ⟨List.mem_of_getElem? (i := 401) (by decide +kernel), List.mem_of_getElem? (i := 402) (by decide +kernel), List.mem_of_getElem? (i := 5) (by decide +kernel), cd_mX4_has⟩
theorem ckX4_167 : jCV RX4 167 mX4_setPans := ⟨List.mem_of_getElem? (i := 404) (by decide +kernel), List.mem_of_getElem? (i := 405) (by decide +kernel), List.mem_of_getElem? (i := 406) (by decide +kernel), List.mem_of_getElem? (i := 5) (by decide +kernel), cd_mX4_setPans⟩
theorem ckX4_171 : jCV RX4 171 mX4_isPan := ⟨List.mem_of_getElem? (i := 417) (by decide +kernel), List.mem_of_getElem? (i := 418) (by decide +kernel), List.mem_of_getElem? (i := 419) (by decide +kernel), List.mem_of_getElem? (i := 5) (by decide +kernel), cd_mX4_isPan⟩
theorem ckX4_174 : jCV RX4 174 mX4_isSinger := ⟨List.mem_of_getElem? (i := 421) (by decide +kernel), List.mem_of_getElem? (i := 422) (by decide +kernel), List.mem_of_getElem? (i := 423) (by decide +kernel), List.mem_of_getElem? (i := 5) (by decide +kernel), cd_mX4_isSinger⟩
theorem ckX3_167 : jCV RX3 167 mX0_bring := ⟨List.mem_of_getElem? (i := 429) (by decide +kernel), List.mem_of_getElem? (i := 430) (by decide +kernel), List.mem_of_getElem? (i := 431) (by decide +kernel), List.mem_of_getElem? (i := 20) (by decide +kernel), cd_mX0_bring⟩
theorem ckX3_179 : jCV RX3 179 mX0_isSet := ⟨List.mem_of_getElem? (i := 445) (by decide +kernel), List.mem_of_getElem? (i := 350) (by decide +kernel), List.mem_of_getElem? (i := 351) (by decide +kernel), List.mem_of_getElem? (i := 20) (by decide +kernel), cd_mX0_isSet⟩
theorem ckX3_198 : jCV RX3 198 mX3_takeTune := ⟨List.mem_of_getElem? (i := 466) (by decide +kernel), List.mem_of_getElem? (i := 467) (by decide +kernel), List.mem_of_getElem? (i := 468) (by decide +kernel), List.mem_of_getElem? (i := 2) (by decide +kernel), cd_mX3_takeTune⟩
theorem ckX3_202 : jCV RX3 202 mX3_trySolo := ⟨List.mem_of_getElem? (i := 470) (by decide +kernel), List.mem_of_getElem? (i := 471) (by decide +kernel), List.mem_of_getElem? (i := 472) (by decide +kernel), List.mem_of_getElem? (i := 2) (by decide +kernel), cd_mX3_trySolo⟩
theorem ckX3_272 : jCS RX3 272 mArr_fill := ⟨List.mem_of_getElem? (i := 474) (by decide +kernel), List.mem_of_getElem? (i := 113) (by decide +kernel), List.mem_of_getElem? (i := 114) (by decide +kernel), cd_mArr_fill⟩
theorem ckX3_278 : jCV RX3 278 mX0_tryBar := ⟨List.mem_of_getElem? (i := 475) (by decide +kernel), List.mem_of_getElem? (i := 476) (by decide +kernel), List.mem_of_getElem? (i := 477) (by decide +kernel), List.mem_of_getElem? (i := 20) (by decide +kernel), cd_mX0_tryBar⟩
theorem ckX0_76 : jCV RX0 76 mX0_can := ⟨List.mem_of_getElem? (i := 479) (by decide +kernel), List.mem_of_getElem? (i := 333) (by decide +kernel), List.mem_of_getElem? (i := 334) (by decide +kernel), List.mem_of_getElem? (i := 20) (by decide +kernel), cd_mX0_can⟩
theorem ckX0_80 : jCV RX0 80 mX0_singBar := ⟨List.mem_of_getElem? (i := 480) (by decide +kernel), List.mem_of_getElem? (i := 346) (by decide +kernel), List.mem_of_getElem? (i := 347) (by decide +kernel), List.mem_of_getElem? (i := 20) (by decide +kernel), cd_mX0_singBar⟩
theorem ckX4_182 : jCV RX4 182 mX4_lacks := ⟨List.mem_of_getElem? (i := 486) (by decide +kernel), List.mem_of_getElem? (i := 487) (by decide +kernel), List.mem_of_getElem? (i := 488) (by decide +kernel), List.mem_of_getElem? (i := 5) (by decide +kernel), cd_mX4_lacks⟩
theorem ckX4_186 : jCV RX4 186 mX4_putAside := ⟨List.mem_of_getElem? (i := 490) (by decide +kernel), List.mem_of_getElem? (i := 491) (by decide +kernel), List.mem_of_getElem? (i := 492) (by decide +kernel), List.mem_of_getElem? (i := 5) (by decide +kernel), cd_mX4_putAside⟩
theorem ckX4_189 : jCV RX4 189 mX4_singAlone := ⟨List.mem_of_getElem? (i := 494) (by decide +kernel), List.mem_of_getElem? (i := 495) (by decide +kernel), List.mem_of_getElem? (i := 496) (by decide +kernel), List.mem_of_getElem? (i := 5) (by decide +kernel), cd_mX4_singAlone⟩
theorem ckX4_177 : jCV RX4 177 mX4_allRest := ⟨List.mem_of_getElem? (i := 498) (by decide +kernel), List.mem_of_getElem? (i := 499) (by decide +kernel), List.mem_of_getElem? (i := 500) (by decide +kernel), List.mem_of_getElem? (i := 5) (by decide +kernel), cd_mX4_allRest⟩
theorem ckX4_193 : jCV RX4 193 mX4_takeBack := ⟨List.mem_of_getElem? (i := 502) (by decide +kernel), List.mem_of_getElem? (i := 503) (by decide +kernel), List.mem_of_getElem? (i := 504) (by decide +kernel), List.mem_of_getElem? (i := 5) (by decide +kernel), cd_mX4_takeBack⟩
theorem ckX3_206 : jCV RX3 206 mX3_tryRound := ⟨List.mem_of_getElem? (i := 510) (by decide +kernel), List.mem_of_getElem? (i := 511) (by decide +kernel), List.mem_of_getElem? (i := 512) (by decide +kernel), List.mem_of_getElem? (i := 2) (by decide +kernel), cd_mX3_tryRound⟩
theorem ckX4_198 : jCV RX4 198 mX4_singRound := ⟨List.mem_of_getElem? (i := 519) (by decide +kernel), List.mem_of_getElem? (i := 520) (by decide +kernel), List.mem_of_getElem? (i := 521) (by decide +kernel), List.mem_of_getElem? (i := 5) (by decide +kernel), cd_mX4_singRound⟩
theorem ckX3_209 : jCS RX3 209 mInt_bitCount := ⟨List.mem_of_getElem? (i := 527) (by decide +kernel), List.mem_of_getElem? (i := 528) (by decide +kernel), List.mem_of_getElem? (i := 359) (by decide +kernel), cd_mInt_bitCount⟩
theorem ckX4_202 : jCS RX4 202 mX4_ones := ⟨List.mem_of_getElem? (i := 537) (by decide +kernel), List.mem_of_getElem? (i := 538) (by decide +kernel), List.mem_of_getElem? (i := 5) (by decide +kernel), cd_mX4_ones⟩
theorem ckX3_214 : jCV RX3 214 mX3_seekSong := ⟨List.mem_of_getElem? (i := 544) (by decide +kernel), List.mem_of_getElem? (i := 545) (by decide +kernel), List.mem_of_getElem? (i := 546) (by decide +kernel), List.mem_of_getElem? (i := 2) (by decide +kernel), cd_mX3_seekSong⟩
theorem ckX3_281 : jCV RX3 281 mX3_trySong := ⟨List.mem_of_getElem? (i := 548) (by decide +kernel), List.mem_of_getElem? (i := 549) (by decide +kernel), List.mem_of_getElem? (i := 550) (by decide +kernel), List.mem_of_getElem? (i := 2) (by decide +kernel), cd_mX3_trySong⟩
theorem ckX3_287 : jCS RX3 287 mInt_numberOfTrailingZeros := ⟨List.mem_of_getElem? (i := 552) (by decide +kernel), List.mem_of_getElem? (i := 358) (by decide +kernel), List.mem_of_getElem? (i := 359) (by decide +kernel), cd_mInt_numberOfTrailingZeros⟩
theorem ckX3_217 : jCS RX3 217 mX3_noteOf := ⟨List.mem_of_getElem? (i := 553) (by decide +kernel), List.mem_of_getElem? (i := 554) (by decide +kernel), List.mem_of_getElem? (i := 2) (by decide +kernel), cd_mX3_noteOf⟩
theorem ckX3_284 : jCV RX3 284 mX3_weighSong := ⟨List.mem_of_getElem? (i := 556) (by decide +kernel), List.mem_of_getElem? (i := 557) (by decide +kernel), List.mem_of_getElem? (i := 558) (by decide +kernel), List.mem_of_getElem? (i := 2) (by decide +kernel), cd_mX3_weighSong⟩
theorem ckX4_212 : jCV RX4 212 mX4_singsRow := ⟨List.mem_of_getElem? (i := 567) (by decide +kernel), List.mem_of_getElem? (i := 568) (by decide +kernel), List.mem_of_getElem? (i := 569) (by decide +kernel), List.mem_of_getElem? (i := 5) (by decide +kernel), cd_mX4_singsRow⟩
theorem ckX3_222 : jCV RX3 222 mX3_setsWithout := ⟨List.mem_of_getElem? (i := 576) (by decide +kernel), List.mem_of_getElem? (i := 577) (by decide +kernel), List.mem_of_getElem? (i := 578) (by decide +kernel), List.mem_of_getElem? (i := 2) (by decide +kernel), cd_mX3_setsWithout⟩
theorem ckX3_226 : jCS RX3 226 mX3_weightOf := ⟨List.mem_of_getElem? (i := 597) (by decide +kernel), List.mem_of_getElem? (i := 598) (by decide +kernel), List.mem_of_getElem? (i := 2) (by decide +kernel), cd_mX3_weightOf⟩
theorem ckX3_229 : jCS RX3 229 mX3_power := ⟨List.mem_of_getElem? (i := 600) (by decide +kernel), List.mem_of_getElem? (i := 601) (by decide +kernel), List.mem_of_getElem? (i := 2) (by decide +kernel), cd_mX3_power⟩
theorem ckX3_233 : jCS RX3 233 mX3_commonDivisor := ⟨List.mem_of_getElem? (i := 603) (by decide +kernel), List.mem_of_getElem? (i := 604) (by decide +kernel), List.mem_of_getElem? (i := 2) (by decide +kernel), cd_mX3_commonDivisor⟩
theorem ckX3_290 : jCS RX3 290 mMath_max := ⟨List.mem_of_getElem? (i := 606) (by decide +kernel), List.mem_of_getElem? (i := 374) (by decide +kernel), List.mem_of_getElem? (i := 232) (by decide +kernel), cd_mMath_max⟩
theorem ckX3_239 : jCS RX3 239 mX3_isOf := ⟨List.mem_of_getElem? (i := 641) (by decide +kernel), List.mem_of_getElem? (i := 642) (by decide +kernel), List.mem_of_getElem? (i := 2) (by decide +kernel), cd_mX3_isOf⟩
theorem ckX4_221 : jCS RX4 221 mX4_isKind := ⟨List.mem_of_getElem? (i := 650) (by decide +kernel), List.mem_of_getElem? (i := 651) (by decide +kernel), List.mem_of_getElem? (i := 5) (by decide +kernel), cd_mX4_isKind⟩
theorem ckX3_242 : jCV RX3 242 mX3_sizeOfPlums := ⟨List.mem_of_getElem? (i := 657) (by decide +kernel), List.mem_of_getElem? (i := 658) (by decide +kernel), List.mem_of_getElem? (i := 659) (by decide +kernel), List.mem_of_getElem? (i := 2) (by decide +kernel), cd_mX3_sizeOfPlums⟩
theorem ckX3_296 : jCV RX3 296 mX3_leave := ⟨List.mem_of_getElem? (i := 661) (by decide +kernel), List.mem_of_getElem? (i := 662) (by decide +kernel), List.mem_of_getElem? (i := 663) (by decide +kernel), List.mem_of_getElem? (i := 2) (by decide +kernel), cd_mX3_leave⟩
theorem ckX3_300 : jCV RX3 300 mX3_plumSize := ⟨List.mem_of_getElem? (i := 665) (by decide +kernel), List.mem_of_getElem? (i := 666) (by decide +kernel), List.mem_of_getElem? (i := 667) (by decide +kernel), List.mem_of_getElem? (i := 2) (by decide +kernel), cd_mX3_plumSize⟩
theorem ckX3_303 : jCV RX3 303 mX3_lentSize := ⟨List.mem_of_getElem? (i := 669) (by decide +kernel), List.mem_of_getElem? (i := 670) (by decide +kernel), List.mem_of_getElem? (i := 671) (by decide +kernel), List.mem_of_getElem? (i := 2) (by decide +kernel), cd_mX3_lentSize⟩
theorem ckX3_248 : jCV RX3 248 mX3_markOfPlums := ⟨List.mem_of_getElem? (i := 673) (by decide +kernel), List.mem_of_getElem? (i := 674) (by decide +kernel), List.mem_of_getElem? (i := 675) (by decide +kernel), List.mem_of_getElem? (i := 2) (by decide +kernel), cd_mX3_markOfPlums⟩
theorem ckX3_309 : jCV RX3 309 mX3_plumMark := ⟨List.mem_of_getElem? (i := 677) (by decide +kernel), List.mem_of_getElem? (i := 678) (by decide +kernel), List.mem_of_getElem? (i := 679) (by decide +kernel), List.mem_of_getElem? (i := 2) (by decide +kernel), cd_mX3_plumMark⟩
theorem ckX3_312 : jCV RX3 312 mX3_lentMark := ⟨List.mem_of_getElem? (i := 681) (by decide +kernel), List.mem_of_getElem? (i := 682) (by decide +kernel), List.mem_of_getElem? (i := 683) (by decide +kernel), List.mem_of_getElem? (i := 2) (by decide +kernel), cd_mX3_lentMark⟩
theorem ckX3_245 : jCV RX3 245 mX3_sizeOfMarrows := ⟨List.mem_of_getElem? (i := 685) (by decide +kernel), List.mem_of_getElem? (i := 686) (by decide +kernel), List.mem_of_getElem? (i := 687) (by decide +kernel), List.mem_of_getElem? (i := 2) (by decide +kernel), cd_mX3_sizeOfMarrows⟩
theorem ckX3_306 : jCV RX3 306 mX3_marrowSize := ⟨List.mem_of_getElem? (i := 689) (by decide +kernel), List.mem_of_getElem? (i := 690) (by decide +kernel), List.mem_of_getElem? (i := 691) (by decide +kernel), List.mem_of_getElem? (i := 2) (by decide +kernel), cd_mX3_marrowSize⟩
theorem ckX3_251 : jCV RX3 251 mX3_markOfMarrows := ⟨List.mem_of_getElem? (i := 693) (by decide +kernel), List.mem_of_getElem? (i := 694) (by decide +kernel), List.mem_of_getElem? (i := 695) (by decide +kernel), List.mem_of_getElem? (i := 2) (by decide +kernel), cd_mX3_markOfMarrows⟩
theorem ckX4_248 : jCV RX4 248 mX4_sizeOf := ⟨List.mem_of_getElem? (i := 702) (by decide +kernel), List.mem_of_getElem? (i := 703) (by decide +kernel), List.mem_of_getElem? (i := 704) (by decide +kernel), List.mem_of_getElem? (i := 5) (by decide +kernel), cd_mX4_sizeOf⟩
theorem ckX4_227 : jCV RX4 227 mX4_begin := ⟨List.mem_of_getElem? (i := 706) (by decide +kernel), List.mem_of_getElem? (i := 707) (by decide +kernel), List.mem_of_getElem? (i := 708) (by decide +kernel), List.mem_of_getElem? (i := 5) (by decide +kernel), cd_mX4_begin⟩
theorem ckX4_245 : jCV RX4 245 mX4_plumSize := ⟨List.mem_of_getElem? (i := 710) (by decide +kernel), List.mem_of_getElem? (i := 711) (by decide +kernel), List.mem_of_getElem? (i := 712) (by decide +kernel), List.mem_of_getElem? (i := 5) (by decide +kernel), cd_mX4_plumSize⟩
theorem ckX4_230 : jCV RX4 230 mX4_lent := ⟨List.mem_of_getElem? (i := 714) (by decide +kernel), List.mem_of_getElem? (i := 715) (by decide +kernel), List.mem_of_getElem? (i := 716) (by decide +kernel), List.mem_of_getElem? (i := 5) (by decide +kernel), cd_mX4_lent⟩
theorem ckX4_242 : jCV RX4 242 mX4_markOf := ⟨List.mem_of_getElem? (i := 718) (by decide +kernel), List.mem_of_getElem? (i := 719) (by decide +kernel), List.mem_of_getElem? (i := 720) (by decide +kernel), List.mem_of_getElem? (i := 5) (by decide +kernel), cd_mX4_markOf⟩
theorem ckX4_236 : jCV RX4 236 mX4_plumMark := ⟨List.mem_of_getElem? (i := 722) (by decide +kernel), List.mem_of_getElem? (i := 723) (by decide +kernel), List.mem_of_getElem? (i := 724) (by decide +kernel), List.mem_of_getElem? (i := 5) (by decide +kernel), cd_mX4_plumMark⟩
theorem ckX4_239 : jCV RX4 239 mX4_sizeOfMarrow := ⟨List.mem_of_getElem? (i := 726) (by decide +kernel), List.mem_of_getElem? (i := 727) (by decide +kernel), List.mem_of_getElem? (i := 728) (by decide +kernel), List.mem_of_getElem? (i := 5) (by decide +kernel), cd_mX4_sizeOfMarrow⟩
theorem ckX4_233 : jCV RX4 233 mX4_marrowSize := ⟨List.mem_of_getElem? (i := 730) (by decide +kernel), List.mem_of_getElem? (i := 731) (by decide +kernel), List.mem_of_getElem? (i := 732) (by decide +kernel), List.mem_of_getElem? (i := 5) (by decide +kernel), cd_mX4_marrowSize⟩
theorem ckX3_254 : jCV RX3 254 mX3_rowsThere := ⟨List.mem_of_getElem? (i := 748) (by decide +kernel), List.mem_of_getElem? (i := 749) (by decide +kernel), List.mem_of_getElem? (i := 750) (by decide +kernel), List.mem_of_getElem? (i := 2) (by decide +kernel), cd_mX3_rowsThere⟩
theorem kkX3_84 : Cond.constant RX3 84 (-1000001) ∈ wsL_law := List.mem_of_getElem? (i := 99) (by decide +kernel)
theorem kkX3_263 : Cond.constant RX3 263 (-1000010) ∈ wsL_law := List.mem_of_getElem? (i := 107) (by decide +kernel)
theorem kkX4_70 : Cond.constant RX4 70 (-1000001) ∈ wsL_law := List.mem_of_getElem? (i := 125) (by decide +kernel)
theorem kkX4_57 : Cond.constant RX4 57 (-1000010) ∈ wsL_law := List.mem_of_getElem? (i := 138) (by decide +kernel)
theorem kkX3_122 : Cond.constant RX3 122 (-1000003) ∈ wsL_law := List.mem_of_getElem? (i := 191) (by decide +kernel)
theorem kkX4_87 : Cond.constant RX4 87 (-1000003) ∈ wsL_law := List.mem_of_getElem? (i := 199) (by decide +kernel)
theorem kkX3_133 : Cond.constant RX3 133 (-1000100) ∈ wsL_law := List.mem_of_getElem? (i := 205) (by decide +kernel)
theorem kkX0_65 : Cond.constant RX0 65 (-1000000) ∈ wsL_law := List.mem_of_getElem? (i := 217) (by decide +kernel)
theorem kkX4_141 : Cond.constant RX4 141 (-1000100) ∈ wsL_law := List.mem_of_getElem? (i := 273) (by decide +kernel)
theorem kkX4_127 : Cond.constant RX4 127 (-1000000) ∈ wsL_law := List.mem_of_getElem? (i := 312) (by decide +kernel)
theorem kkX3_146 : Cond.constant RX3 146 (-1000002) ∈ wsL_law := List.mem_of_getElem? (i := 330) (by decide +kernel)
theorem kkJ6_264 : Cond.constant RJ6 264 (65536) ∈ wsL_law := List.mem_of_getElem? (i := 361) (by decide +kernel)
theorem kkX4_157 : Cond.constant RX4 157 (-1000002) ∈ wsL_law := List.mem_of_getElem? (i := 384) (by decide +kernel)
theorem kkJ6_265 : Cond.constant RJ6 265 (1431655765) ∈ wsL_law := List.mem_of_getElem? (i := 530) (by decide +kernel)
theorem kkJ6_266 : Cond.constant RJ6 266 (858993459) ∈ wsL_law := List.mem_of_getElem? (i := 531) (by decide +kernel)
theorem kkJ6_267 : Cond.constant RJ6 267 (252645135) ∈ wsL_law := List.mem_of_getElem? (i := 532) (by decide +kernel)
theorem kkX3_221 : Cond.constant RX3 221 (-1000000) ∈ wsL_law := List.mem_of_getElem? (i := 575) (by decide +kernel)
theorem kkX4_68 : Cond.constantLong RX4 68 (2) ∈ wsL_law := List.mem_of_getElem? (i := 124) (by decide +kernel)
theorem kkX4_58 : Cond.constantLong RX4 58 (7) ∈ wsL_law := List.mem_of_getElem? (i := 129) (by decide +kernel)
theorem kkX4_82 : Cond.constantLong RX4 82 (255) ∈ wsL_law := List.mem_of_getElem? (i := 197) (by decide +kernel)
theorem kkX4_100 : Cond.constantLong RX4 100 (48) ∈ wsL_law := List.mem_of_getElem? (i := 288) (by decide +kernel)
theorem kkX4_102 : Cond.constantLong RX4 102 (57) ∈ wsL_law := List.mem_of_getElem? (i := 289) (by decide +kernel)
theorem kkX4_104 : Cond.constantLong RX4 104 (97) ∈ wsL_law := List.mem_of_getElem? (i := 290) (by decide +kernel)
theorem kkX4_106 : Cond.constantLong RX4 106 (122) ∈ wsL_law := List.mem_of_getElem? (i := 291) (by decide +kernel)
theorem kkX4_180 : Cond.constantLong RX4 180 (16) ∈ wsL_law := List.mem_of_getElem? (i := 485) (by decide +kernel)
theorem kkX4_196 : Cond.constantLong RX4 196 (8) ∈ wsL_law := List.mem_of_getElem? (i := 518) (by decide +kernel)
theorem kkX4_208 : Cond.constantLong RX4 208 (4) ∈ wsL_law := List.mem_of_getElem? (i := 564) (by decide +kernel)
theorem kkX4_210 : Cond.constantLong RX4 210 (-1) ∈ wsL_law := List.mem_of_getElem? (i := 565) (by decide +kernel)
theorem kkX4_215 : Cond.constantLong RX4 215 (20) ∈ wsL_law := List.mem_of_getElem? (i := 592) (by decide +kernel)
theorem kkX4_217 : Cond.constantLong RX4 217 (10) ∈ wsL_law := List.mem_of_getElem? (i := 611) (by decide +kernel)
theorem kkX4_219 : Cond.constantLong RX4 219 (5) ∈ wsL_law := List.mem_of_getElem? (i := 649) (by decide +kernel)
theorem ckX3_112 : Cond.methodLink RX3 112 arraycopyName ∈ wsL_law := List.mem_of_getElem? (i := 169) (by decide +kernel)
theorem ckX0_66 : Cond.methodLink RX0 66 arraycopyName ∈ wsL_law := List.mem_of_getElem? (i := 266) (by decide +kernel)
theorem lkX3_293 : Cond.fieldLink RX3 293 "JamSongs" "NEAREST" "[I" ∈ wsL_law := List.mem_of_getElem? (i := 644) (by decide +kernel)

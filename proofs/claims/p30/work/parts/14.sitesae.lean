abbrev mJ0_length_8abf5 : aM := (yJ0_length_8abf5, cJ0_length_8abf5, 1, (some .int))
theorem tc_J0_length_8abf5 : Cond.code yJ0_length_8abf5 cJ0_length_8abf5 1 (some .int) ∈ aTb := tm_3_4 (List.mem_of_getElem? (i := 1) rfl) rfl
abbrev mJ0_charAt_5068e : aM := (yJ0_charAt_5068e, cJ0_charAt_5068e, 2, (some .char))
theorem tc_J0_charAt_5068e : Cond.code yJ0_charAt_5068e cJ0_charAt_5068e 2 (some .char) ∈ aTb := tm_3_5 (List.mem_of_getElem? (i := 3) rfl) rfl
abbrev mJ0_coder_7d493 : aM := (yJ0_coder_7d493, cJ0_coder_7d493, 1, (some .byte))
theorem tc_J0_coder_7d493 : Cond.code yJ0_coder_7d493 cJ0_coder_7d493 1 (some .byte) ∈ aTb := tm_3_4 (List.mem_of_getElem? (i := 5) rfl) rfl
abbrev mJ0_isLatin1_aae02 : aM := (yJ0_isLatin1_aae02, cJ0_isLatin1_aae02, 1, (some .boolean))
theorem tc_J0_isLatin1_aae02 : Cond.code yJ0_isLatin1_aae02 cJ0_isLatin1_aae02 1 (some .boolean) ∈ aTb := tm_3_5 (List.mem_of_getElem? (i := 7) rfl) rfl
abbrev mJ0_checkIndex_df160 : aM := (yJ0_checkIndex_df160, cJ0_checkIndex_df160, 2, none)
theorem tc_J0_checkIndex_df160 : Cond.code yJ0_checkIndex_df160 cJ0_checkIndex_df160 2 none ∈ aTb := tm_3_6 (List.mem_of_getElem? (i := 5) rfl) rfl
abbrev mJ1_charAt_3b067 : aM := (yJ1_charAt_3b067, cJ1_charAt_3b067, 2, (some .char))
theorem tc_J1_charAt_3b067 : Cond.code yJ1_charAt_3b067 cJ1_charAt_3b067 2 (some .char) ∈ aTb := tm_3_6 (List.mem_of_getElem? (i := 2) rfl) rfl
abbrev mJ7_rangeCheck_23922 : aM := (yJ7_rangeCheck_23922, cJ7_rangeCheck_23922, 3, none)
theorem tc_J7_rangeCheck_23922 : Cond.code yJ7_rangeCheck_23922 cJ7_rangeCheck_23922 3 none ∈ aTb := tm_4_28 (List.mem_of_getElem? (i := 5) rfl) rfl
abbrev mJ7_fill_d0a16 : aM := (yJ7_fill_d0a16, cJ7_fill_d0a16, 5, none)
theorem tc_J7_fill_d0a16 : Cond.code yJ7_fill_d0a16 cJ7_fill_d0a16 5 none ∈ aTb := tm_4_5 (List.mem_of_getElem? (i := 6) rfl) rfl
abbrev mJ7_fill_bad5a : aM := (yJ7_fill_bad5a, cJ7_fill_bad5a, 6, none)
theorem tc_J7_fill_bad5a : Cond.code yJ7_fill_bad5a cJ7_fill_bad5a 6 none ∈ aTb := tm_4_28 (List.mem_of_getElem? (i := 2) rfl) rfl
abbrev mJ7_fill_53178 : aM := (yJ7_fill_53178, cJ7_fill_53178, 4, none)
theorem tc_J7_fill_53178 : Cond.code yJ7_fill_53178 cJ7_fill_53178 4 none ∈ aTb := tm_1_4 (List.mem_of_getElem? (i := 7) rfl) rfl
abbrev mJ7_copyOf_59c91 : aM := (yJ7_copyOf_59c91, cJ7_copyOf_59c91, 3, (some (.array .int)))
theorem tc_J7_copyOf_59c91 : Cond.code yJ7_copyOf_59c91 cJ7_copyOf_59c91 3 (some (.array .int)) ∈ aTb := tm_3_21 (List.mem_of_getElem? (i := 4) rfl) rfl
abbrev mJ3_checkIndex_8e157 : aM := (yJ3_checkIndex_8e157, cJ3_checkIndex_8e157, 3, (some .int))
theorem tc_J3_checkIndex_8e157 : Cond.code yJ3_checkIndex_8e157 cJ3_checkIndex_8e157 3 (some .int) ∈ aTb := tm_3_7 (List.mem_of_getElem? (i := 2) rfl) rfl
theorem ts_X10_refuse : Cond.selects RX10 yX10_refuse yX10_refuse ∈ aTb := aTb_sel (y := yX10_refuse) 0 (by decide +kernel) (by decide +kernel)
theorem ts_X10_codeChanged : Cond.selects RX10 yX10_codeChanged yX10_codeChanged ∈ aTb := aTb_sel (y := yX10_codeChanged) 1 (by decide +kernel) (by decide +kernel)
theorem ts_X10_accept : Cond.selects RX10 yX10_accept yX10_accept ∈ aTb := aTb_sel (y := yX10_accept) 2 (by decide +kernel) (by decide +kernel)
theorem ts_X7_findTokens : Cond.selects RX7 yX7_findTokens yX7_findTokens ∈ aTb := aTb_sel (y := yX7_findTokens) 3 (by decide +kernel) (by decide +kernel)
theorem ts_X7_skipBlanks : Cond.selects RX7 yX7_skipBlanks yX7_skipBlanks ∈ aTb := aTb_sel (y := yX7_skipBlanks) 4 (by decide +kernel) (by decide +kernel)
theorem ts_X7_stopOf : Cond.selects RX7 yX7_stopOf yX7_stopOf ∈ aTb := aTb_sel (y := yX7_stopOf) 5 (by decide +kernel) (by decide +kernel)
theorem ts_X7_kindOf : Cond.selects RX7 yX7_kindOf yX7_kindOf ∈ aTb := aTb_sel (y := yX7_kindOf) 6 (by decide +kernel) (by decide +kernel)
theorem ts_X7_wordKind : Cond.selects RX7 yX7_wordKind yX7_wordKind ∈ aTb := aTb_sel (y := yX7_wordKind) 7 (by decide +kernel) (by decide +kernel)
theorem ts_X7_partKind : Cond.selects RX7 yX7_partKind yX7_partKind ∈ aTb := aTb_sel (y := yX7_partKind) 8 (by decide +kernel) (by decide +kernel)
theorem ts_X7_numberAt : Cond.selects RX7 yX7_numberAt yX7_numberAt ∈ aTb := aTb_sel (y := yX7_numberAt) 9 (by decide +kernel) (by decide +kernel)
theorem ts_X7_takeClauses : Cond.selects RX7 yX7_takeClauses yX7_takeClauses ∈ aTb := aTb_sel (y := yX7_takeClauses) 10 (by decide +kernel) (by decide +kernel)
theorem ts_X7_takeClause : Cond.selects RX7 yX7_takeClause yX7_takeClause ∈ aTb := aTb_sel (y := yX7_takeClause) 11 (by decide +kernel) (by decide +kernel)
theorem ts_X7_fail : Cond.selects RX7 yX7_fail yX7_fail ∈ aTb := aTb_sel (y := yX7_fail) 12 (by decide +kernel) (by decide +kernel)
theorem ts_X7_advance : Cond.selects RX7 yX7_advance yX7_advance ∈ aTb := aTb_sel (y := yX7_advance) 13 (by decide +kernel) (by decide +kernel)
theorem ts_X7_takeSum : Cond.selects RX7 yX7_takeSum yX7_takeSum ∈ aTb := aTb_sel (y := yX7_takeSum) 14 (by decide +kernel) (by decide +kernel)
theorem ts_X7_takeTerm : Cond.selects RX7 yX7_takeTerm yX7_takeTerm ∈ aTb := aTb_sel (y := yX7_takeTerm) 15 (by decide +kernel) (by decide +kernel)
theorem ts_X7_takePart : Cond.selects RX7 yX7_takePart yX7_takePart ∈ aTb := aTb_sel (y := yX7_takePart) 16 (by decide +kernel) (by decide +kernel)
theorem ts_X7_takeSign : Cond.selects RX7 yX7_takeSign yX7_takeSign ∈ aTb := aTb_sel (y := yX7_takeSign) 17 (by decide +kernel) (by decide +kernel)
theorem ts_X7_step : Cond.selects RX7 yX7_step yX7_step ∈ aTb := aTb_sel (y := yX7_step) 18 (by decide +kernel) (by decide +kernel)
theorem ts_X7_takeTest : Cond.selects RX7 yX7_takeTest yX7_takeTest ∈ aTb := aTb_sel (y := yX7_takeTest) 19 (by decide +kernel) (by decide +kernel)
theorem ts_X7_takeBoth : Cond.selects RX7 yX7_takeBoth yX7_takeBoth ∈ aTb := aTb_sel (y := yX7_takeBoth) 20 (by decide +kernel) (by decide +kernel)
theorem ts_X7_takePlain : Cond.selects RX7 yX7_takePlain yX7_takePlain ∈ aTb := aTb_sel (y := yX7_takePlain) 21 (by decide +kernel) (by decide +kernel)
theorem ts_X7_takeBracketed : Cond.selects RX7 yX7_takeBracketed yX7_takeBracketed ∈ aTb := aTb_sel (y := yX7_takeBracketed) 22 (by decide +kernel) (by decide +kernel)
theorem ts_X7_takeComparison : Cond.selects RX7 yX7_takeComparison yX7_takeComparison ∈ aTb := aTb_sel (y := yX7_takeComparison) 23 (by decide +kernel) (by decide +kernel)
theorem ts_X7_openSkip : Cond.selects RX7 yX7_openSkip yX7_openSkip ∈ aTb := aTb_sel (y := yX7_openSkip) 24 (by decide +kernel) (by decide +kernel)
theorem ts_X7_closeSkip : Cond.selects RX7 yX7_closeSkip yX7_closeSkip ∈ aTb := aTb_sel (y := yX7_closeSkip) 25 (by decide +kernel) (by decide +kernel)
theorem ts_X0_fillWords : Cond.selects RX0 yX0_fillWords yX0_fillWords ∈ aTb := aTb_sel (y := yX0_fillWords) 26 (by decide +kernel) (by decide +kernel)
theorem ts_X0_isSo : Cond.selects RX0 yX0_isSo yX0_isSo ∈ aTb := aTb_sel (y := yX0_isSo) 27 (by decide +kernel) (by decide +kernel)
theorem ts_X0_works : Cond.selects RX0 yX0_works yX0_works ∈ aTb := aTb_sel (y := yX0_works) 28 (by decide +kernel) (by decide +kernel)
theorem ts_X0_join : Cond.selects RX0 yX0_join yX0_join ∈ aTb := aTb_sel (y := yX0_join) 29 (by decide +kernel) (by decide +kernel)
theorem ts_X4_fillLasting : Cond.selects RX4 yX4_fillLasting yX4_fillLasting ∈ aTb := aTb_sel (y := yX4_fillLasting) 30 (by decide +kernel) (by decide +kernel)
theorem ts_X5_fillBest : Cond.selects RX5 yX5_fillBest yX5_fillBest ∈ aTb := aTb_sel (y := yX5_fillBest) 31 (by decide +kernel) (by decide +kernel)
theorem ts_X4_fillMean : Cond.selects RX4 yX4_fillMean yX4_fillMean ∈ aTb := aTb_sel (y := yX4_fillMean) 32 (by decide +kernel) (by decide +kernel)
theorem ts_X4_meanOf : Cond.selects RX4 yX4_meanOf yX4_meanOf ∈ aTb := aTb_sel (y := yX4_meanOf) 33 (by decide +kernel) (by decide +kernel)
theorem ts_X4_fillRichest : Cond.selects RX4 yX4_fillRichest yX4_fillRichest ∈ aTb := aTb_sel (y := yX4_fillRichest) 34 (by decide +kernel) (by decide +kernel)
theorem ts_X4_isBetter : Cond.selects RX4 yX4_isBetter yX4_isBetter ∈ aTb := aTb_sel (y := yX4_isBetter) 35 (by decide +kernel) (by decide +kernel)
theorem ts_X4_lastsBy : Cond.selects RX4 yX4_lastsBy yX4_lastsBy ∈ aTb := aTb_sel (y := yX4_lastsBy) 36 (by decide +kernel) (by decide +kernel)
theorem ts_X2_search : Cond.selects RX2 yX2_search yX2_search ∈ aTb := aTb_sel (y := yX2_search) 37 (by decide +kernel) (by decide +kernel)
theorem ts_X2_note : Cond.selects RX2 yX2_note yX2_note ∈ aTb := aTb_sel (y := yX2_note) 38 (by decide +kernel) (by decide +kernel)
theorem ts_X2_turnOn : Cond.selects RX2 yX2_turnOn yX2_turnOn ∈ aTb := aTb_sel (y := yX2_turnOn) 39 (by decide +kernel) (by decide +kernel)
theorem ts_X10_isRowTo : Cond.selects RX10 yX10_isRowTo yX10_isRowTo ∈ aTb := aTb_sel (y := yX10_isRowTo) 40 (by decide +kernel) (by decide +kernel)
theorem ts_X8_isMet : Cond.selects RX8 yX8_isMet yX8_isMet ∈ aTb := aTb_sel (y := yX8_isMet) 41 (by decide +kernel) (by decide +kernel)
theorem ts_X8_spread : Cond.selects RX8 yX8_spread yX8_spread ∈ aTb := aTb_sel (y := yX8_spread) 42 (by decide +kernel) (by decide +kernel)
theorem ts_X4_firstDoubt : Cond.selects RX4 yX4_firstDoubt yX4_firstDoubt ∈ aTb := aTb_sel (y := yX4_firstDoubt) 43 (by decide +kernel) (by decide +kernel)
theorem ts_X3_countWays : Cond.selects RX3 yX3_countWays yX3_countWays ∈ aTb := aTb_sel (y := yX3_countWays) 44 (by decide +kernel) (by decide +kernel)
theorem ts_X3_spreadUp : Cond.selects RX3 yX3_spreadUp yX3_spreadUp ∈ aTb := aTb_sel (y := yX3_spreadUp) 45 (by decide +kernel) (by decide +kernel)
theorem ts_X3_findLeast : Cond.selects RX3 yX3_findLeast yX3_findLeast ∈ aTb := aTb_sel (y := yX3_findLeast) 46 (by decide +kernel) (by decide +kernel)
theorem ts_X3_findOpen : Cond.selects RX3 yX3_findOpen yX3_findOpen ∈ aTb := aTb_sel (y := yX3_findOpen) 47 (by decide +kernel) (by decide +kernel)
theorem ts_X3_goesOn : Cond.selects RX3 yX3_goesOn yX3_goesOn ∈ aTb := aTb_sel (y := yX3_goesOn) 48 (by decide +kernel) (by decide +kernel)
theorem ts_X3_spreadDown : Cond.selects RX3 yX3_spreadDown yX3_spreadDown ∈ aTb := aTb_sel (y := yX3_spreadDown) 49 (by decide +kernel) (by decide +kernel)
theorem ts_X3_findStates : Cond.selects RX3 yX3_findStates yX3_findStates ∈ aTb := aTb_sel (y := yX3_findStates) 50 (by decide +kernel) (by decide +kernel)
theorem ts_X10_drawNight : Cond.selects RX10 yX10_drawNight yX10_drawNight ∈ aTb := aTb_sel (y := yX10_drawNight) 51 (by decide +kernel) (by decide +kernel)
theorem ts_X11_empties : Cond.selects RX11 yX11_empties yX11_empties ∈ aTb := aTb_sel (y := yX11_empties) 52 (by decide +kernel) (by decide +kernel)
theorem ts_X11_refuses : Cond.selects RX11 yX11_refuses yX11_refuses ∈ aTb := aTb_sel (y := yX11_refuses) 53 (by decide +kernel) (by decide +kernel)
theorem ts_X11_good : Cond.selects RX11 yX11_good yX11_good ∈ aTb := aTb_sel (y := yX11_good) 54 (by decide +kernel) (by decide +kernel)
theorem ts_X11_isLamp : Cond.selects RX11 yX11_isLamp yX11_isLamp ∈ aTb := aTb_sel (y := yX11_isLamp) 55 (by decide +kernel) (by decide +kernel)
theorem ts_X11_isState : Cond.selects RX11 yX11_isState yX11_isState ∈ aTb := aTb_sel (y := yX11_isState) 56 (by decide +kernel) (by decide +kernel)
theorem ts_X11_states : Cond.selects RX11 yX11_states yX11_states ∈ aTb := aTb_sel (y := yX11_states) 57 (by decide +kernel) (by decide +kernel)
theorem ts_X11_isNews : Cond.selects RX11 yX11_isNews yX11_isNews ∈ aTb := aTb_sel (y := yX11_isNews) 58 (by decide +kernel) (by decide +kernel)
theorem ts_X11_readOf : Cond.selects RX11 yX11_readOf yX11_readOf ∈ aTb := aTb_sel (y := yX11_readOf) 59 (by decide +kernel) (by decide +kernel)
theorem ts_X11_readMany : Cond.selects RX11 yX11_readMany yX11_readMany ∈ aTb := aTb_sel (y := yX11_readMany) 60 (by decide +kernel) (by decide +kernel)
theorem ts_X11_reads : Cond.selects RX11 yX11_reads yX11_reads ∈ aTb := aTb_sel (y := yX11_reads) 61 (by decide +kernel) (by decide +kernel)
theorem ts_X11_splits : Cond.selects RX11 yX11_splits yX11_splits ∈ aTb := aTb_sel (y := yX11_splits) 62 (by decide +kernel) (by decide +kernel)
theorem ts_X11_wordOf : Cond.selects RX11 yX11_wordOf yX11_wordOf ∈ aTb := aTb_sel (y := yX11_wordOf) 63 (by decide +kernel) (by decide +kernel)
theorem ts_X11_readClause : Cond.selects RX11 yX11_readClause yX11_readClause ∈ aTb := aTb_sel (y := yX11_readClause) 64 (by decide +kernel) (by decide +kernel)
theorem ts_X11_must : Cond.selects RX11 yX11_must yX11_must ∈ aTb := aTb_sel (y := yX11_must) 65 (by decide +kernel) (by decide +kernel)
theorem ts_X11_takes0 : Cond.selects RX11 yX11_takes0 yX11_takes0 ∈ aTb := aTb_sel (y := yX11_takes0) 66 (by decide +kernel) (by decide +kernel)
theorem ts_X11_fine : Cond.selects RX11 yX11_fine yX11_fine ∈ aTb := aTb_sel (y := yX11_fine) 67 (by decide +kernel) (by decide +kernel)
theorem ts_X11_faults : Cond.selects RX11 yX11_faults yX11_faults ∈ aTb := aTb_sel (y := yX11_faults) 68 (by decide +kernel) (by decide +kernel)
theorem ts_X11_readSum : Cond.selects RX11 yX11_readSum yX11_readSum ∈ aTb := aTb_sel (y := yX11_readSum) 69 (by decide +kernel) (by decide +kernel)
theorem ts_X11_readTerm : Cond.selects RX11 yX11_readTerm yX11_readTerm ∈ aTb := aTb_sel (y := yX11_readTerm) 70 (by decide +kernel) (by decide +kernel)
theorem ts_X11_readPart : Cond.selects RX11 yX11_readPart yX11_readPart ∈ aTb := aTb_sel (y := yX11_readPart) 71 (by decide +kernel) (by decide +kernel)
theorem ts_X11_leaf : Cond.selects RX11 yX11_leaf yX11_leaf ∈ aTb := aTb_sel (y := yX11_leaf) 72 (by decide +kernel) (by decide +kernel)
theorem ts_X11_readTest : Cond.selects RX11 yX11_readTest yX11_readTest ∈ aTb := aTb_sel (y := yX11_readTest) 73 (by decide +kernel) (by decide +kernel)
theorem ts_X11_readBoth : Cond.selects RX11 yX11_readBoth yX11_readBoth ∈ aTb := aTb_sel (y := yX11_readBoth) 74 (by decide +kernel) (by decide +kernel)
theorem ts_X11_readPlain : Cond.selects RX11 yX11_readPlain yX11_readPlain ∈ aTb := aTb_sel (y := yX11_readPlain) 75 (by decide +kernel) (by decide +kernel)
theorem ts_X11_asksOf : Cond.selects RX11 yX11_asksOf yX11_asksOf ∈ aTb := aTb_sel (y := yX11_asksOf) 76 (by decide +kernel) (by decide +kernel)
theorem ts_X11_toldBy : Cond.selects RX11 yX11_toldBy yX11_toldBy ∈ aTb := aTb_sel (y := yX11_toldBy) 77 (by decide +kernel) (by decide +kernel)
theorem ts_X11_sumOf : Cond.selects RX11 yX11_sumOf yX11_sumOf ∈ aTb := aTb_sel (y := yX11_sumOf) 78 (by decide +kernel) (by decide +kernel)
theorem ts_X11_termOf : Cond.selects RX11 yX11_termOf yX11_termOf ∈ aTb := aTb_sel (y := yX11_termOf) 79 (by decide +kernel) (by decide +kernel)
theorem ts_X11_partOf : Cond.selects RX11 yX11_partOf yX11_partOf ∈ aTb := aTb_sel (y := yX11_partOf) 80 (by decide +kernel) (by decide +kernel)
theorem ts_X11_passes0 : Cond.selects RX11 yX11_passes0 yX11_passes0 ∈ aTb := aTb_sel (y := yX11_passes0) 81 (by decide +kernel) (by decide +kernel)
theorem ts_X11_codeAt : Cond.selects RX11 yX11_codeAt yX11_codeAt ∈ aTb := aTb_sel (y := yX11_codeAt) 82 (by decide +kernel) (by decide +kernel)
theorem ts_X11_bounded : Cond.selects RX11 yX11_bounded yX11_bounded ∈ aTb := aTb_sel (y := yX11_bounded) 83 (by decide +kernel) (by decide +kernel)
theorem ts_X11_testOf : Cond.selects RX11 yX11_testOf yX11_testOf ∈ aTb := aTb_sel (y := yX11_testOf) 84 (by decide +kernel) (by decide +kernel)
theorem ts_X11_bothOf : Cond.selects RX11 yX11_bothOf yX11_bothOf ∈ aTb := aTb_sel (y := yX11_bothOf) 85 (by decide +kernel) (by decide +kernel)
theorem ts_X11_plainOf : Cond.selects RX11 yX11_plainOf yX11_plainOf ∈ aTb := aTb_sel (y := yX11_plainOf) 86 (by decide +kernel) (by decide +kernel)
theorem ts_X11_positiveOf : Cond.selects RX11 yX11_positiveOf yX11_positiveOf ∈ aTb := aTb_sel (y := yX11_positiveOf) 87 (by decide +kernel) (by decide +kernel)
theorem ts_X11_looks : Cond.selects RX11 yX11_looks yX11_looks ∈ aTb := aTb_sel (y := yX11_looks) 88 (by decide +kernel) (by decide +kernel)
theorem ts_X11_lasts0 : Cond.selects RX11 yX11_lasts0 yX11_lasts0 ∈ aTb := aTb_sel (y := yX11_lasts0) 89 (by decide +kernel) (by decide +kernel)
theorem ts_X11_lastingOf : Cond.selects RX11 yX11_lastingOf yX11_lastingOf ∈ aTb := aTb_sel (y := yX11_lastingOf) 90 (by decide +kernel) (by decide +kernel)
theorem ts_X11_canCome : Cond.selects RX11 yX11_canCome yX11_canCome ∈ aTb := aTb_sel (y := yX11_canCome) 91 (by decide +kernel) (by decide +kernel)
theorem ts_X11_meanOf : Cond.selects RX11 yX11_meanOf yX11_meanOf ∈ aTb := aTb_sel (y := yX11_meanOf) 92 (by decide +kernel) (by decide +kernel)
theorem ts_X11_dark : Cond.selects RX11 yX11_dark yX11_dark ∈ aTb := aTb_sel (y := yX11_dark) 93 (by decide +kernel) (by decide +kernel)
theorem ts_X11_power : Cond.selects RX11 yX11_power yX11_power ∈ aTb := aTb_sel (y := yX11_power) 94 (by decide +kernel) (by decide +kernel)
theorem ts_X11_meanIn : Cond.selects RX11 yX11_meanIn yX11_meanIn ∈ aTb := aTb_sel (y := yX11_meanIn) 95 (by decide +kernel) (by decide +kernel)
theorem ts_X11_nextOf : Cond.selects RX11 yX11_nextOf yX11_nextOf ∈ aTb := aTb_sel (y := yX11_nextOf) 96 (by decide +kernel) (by decide +kernel)
theorem ts_X11_isBetter : Cond.selects RX11 yX11_isBetter yX11_isBetter ∈ aTb := aTb_sel (y := yX11_isBetter) 97 (by decide +kernel) (by decide +kernel)
theorem ts_X11_oilOf : Cond.selects RX11 yX11_oilOf yX11_oilOf ∈ aTb := aTb_sel (y := yX11_oilOf) 98 (by decide +kernel) (by decide +kernel)
theorem ts_X11_reaches : Cond.selects RX11 yX11_reaches yX11_reaches ∈ aTb := aTb_sel (y := yX11_reaches) 99 (by decide +kernel) (by decide +kernel)
theorem ts_X11_failing0 : Cond.selects RX11 yX11_failing0 yX11_failing0 ∈ aTb := aTb_sel (y := yX11_failing0) 100 (by decide +kernel) (by decide +kernel)
theorem ts_X11_codes0 : Cond.selects RX11 yX11_codes0 yX11_codes0 ∈ aTb := aTb_sel (y := yX11_codes0) 101 (by decide +kernel) (by decide +kernel)
theorem ts_X11_rowsOf : Cond.selects RX11 yX11_rowsOf yX11_rowsOf ∈ aTb := aTb_sel (y := yX11_rowsOf) 102 (by decide +kernel) (by decide +kernel)
theorem ts_X11_plans : Cond.selects RX11 yX11_plans yX11_plans ∈ aTb := aTb_sel (y := yX11_plans) 103 (by decide +kernel) (by decide +kernel)
theorem fX10_10 : aFd RX10 10 10 0 := ⟨RX10, TX10, cl_10, by decide, tb_321⟩
theorem gX10_10 : aPd RX10 10 10 0 := ⟨RX10, TX10, cl_10, by decide, tb_321, by decide⟩
theorem fX10_16 : aFd RX10 16 10 1 := ⟨RX10, TX10, cl_10, by decide, tb_322⟩
theorem gX10_16 : aPd RX10 16 10 1 := ⟨RX10, TX10, cl_10, by decide, tb_322, by decide⟩
theorem fX10_23 : aFd RX10 23 10 2 := ⟨RX10, TX10, cl_10, by decide, tb_323⟩
theorem gX10_23 : aPd RX10 23 10 2 := ⟨RX10, TX10, cl_10, by decide, tb_323, by decide⟩
theorem fX10_32 : aFd RX10 32 10 3 := ⟨RX10, TX10, cl_10, by decide, tb_324⟩
theorem gX10_32 : aPd RX10 32 10 3 := ⟨RX10, TX10, cl_10, by decide, tb_324, by decide⟩
theorem fX10_39 : aFd RX10 39 10 4 := ⟨RX10, TX10, cl_10, by decide, tb_325⟩
theorem gX10_39 : aPd RX10 39 10 4 := ⟨RX10, TX10, cl_10, by decide, tb_325, by decide⟩
theorem fX10_48 : aFd RX10 48 10 5 := ⟨RX10, TX10, cl_10, by decide, tb_326⟩
theorem gX10_48 : aPd RX10 48 10 5 := ⟨RX10, TX10, cl_10, by decide, tb_326, by decide⟩
theorem fX10_57 : aFd RX10 57 10 6 := ⟨RX10, TX10, cl_10, by decide, tb_327⟩
theorem gX10_57 : aPd RX10 57 10 6 := ⟨RX10, TX10, cl_10, by decide, tb_327, by decide⟩
theorem fX10_64 : aFd RX10 64 10 7 := ⟨RX10, TX10, cl_10, by decide, tb_328⟩
theorem gX10_64 : aPd RX10 64 10 7 := ⟨RX10, TX10, cl_10, by decide, tb_328, by decide⟩
theorem fX10_71 : aFd RX10 71 10 8 := ⟨RX10, TX10, cl_10, by decide, tb_329⟩
theorem gX10_71 : aPd RX10 71 10 8 := ⟨RX10, TX10, cl_10, by decide, tb_329, by decide⟩
theorem fX10_75 : aFd RX10 75 10 9 := ⟨RX10, TX10, cl_10, by decide, tb_330⟩
theorem gX10_75 : aPd RX10 75 10 9 := ⟨RX10, TX10, cl_10, by decide, tb_330, by decide⟩
theorem fX10_79 : aFd RX10 79 10 10 := ⟨RX10, TX10, cl_10, by decide, tb_331⟩
theorem gX10_79 : aPd RX10 79 10 10 := ⟨RX10, TX10, cl_10, by decide, tb_331, by decide⟩
theorem fX10_82 : aFd RX10 82 10 11 := ⟨RX10, TX10, cl_10, by decide, tb_332⟩
theorem gX10_82 : aPd RX10 82 10 11 := ⟨RX10, TX10, cl_10, by decide, tb_332, by decide⟩
theorem fX10_85 : aFd RX10 85 10 14 := ⟨RX10, TX10, cl_10, by decide, tb_335⟩
theorem gX10_85 : aPd RX10 85 10 14 := ⟨RX10, TX10, cl_10, by decide, tb_335, by decide⟩
theorem fX10_93 : aFd RX10 93 1 5 := ⟨RX1, TX1, cl_1, by decide, tb_56⟩
theorem gX10_93 : aPd RX10 93 1 5 := ⟨RX1, TX1, cl_1, by decide, tb_56, by decide⟩
theorem fX10_96 : aFd RX10 96 1 7 := ⟨RX1, TX1, cl_1, by decide, tb_65⟩
theorem gX10_96 : aPd RX10 96 1 7 := ⟨RX1, TX1, cl_1, by decide, tb_65, by decide⟩
theorem fX10_99 : aFd RX10 99 1 0 := ⟨RX1, TX1, cl_1, by decide, tb_41⟩
theorem fX10_117 : aFd RX10 117 1 6 := ⟨RX1, TX1, cl_1, by decide, tb_62⟩
theorem gX10_117 : aPd RX10 117 1 6 := ⟨RX1, TX1, cl_1, by decide, tb_62, by decide⟩
theorem gX10_124 : aPd RX10 124 4 10 := ⟨RX4, TX4, cl_4, by decide, tb_215, by decide⟩
theorem gX10_128 : aPd RX10 128 3 3 := ⟨RX3, TX3, cl_3, by decide, tb_271, by decide⟩
theorem fX10_137 : aFd RX10 137 1 1 := ⟨RX1, TX1, cl_1, by decide, tb_47⟩
theorem fX10_148 : aFd RX10 148 9 1 := ⟨RX9, TX9, cl_9, by decide, tb_113⟩
theorem gX10_148 : aPd RX10 148 9 1 := ⟨RX9, TX9, cl_9, by decide, tb_113, by decide⟩
theorem fX10_164 : aFd RX10 164 10 15 := ⟨RX10, TX10, cl_10, by decide, tb_336⟩
theorem gX10_164 : aPd RX10 164 10 15 := ⟨RX10, TX10, cl_10, by decide, tb_336, by decide⟩
theorem fX10_170 : aFd RX10 170 1 9 := ⟨RX1, TX1, cl_1, by decide, tb_71⟩
theorem gX10_170 : aPd RX10 170 1 9 := ⟨RX1, TX1, cl_1, by decide, tb_71, by decide⟩
theorem fX10_177 : aFd RX10 177 1 2 := ⟨RX1, TX1, cl_1, by decide, tb_49⟩
theorem fX10_181 : aFd RX10 181 7 0 := ⟨RX7, TX7, cl_7, by decide, tb_127⟩
theorem fX10_219 : aFd RX10 219 4 2 := ⟨RX4, TX4, cl_4, by decide, tb_205⟩
theorem fX10_236 : aFd RX10 236 1 8 := ⟨RX1, TX1, cl_1, by decide, tb_70⟩
theorem gX10_236 : aPd RX10 236 1 8 := ⟨RX1, TX1, cl_1, by decide, tb_70, by decide⟩
theorem fX10_239 : aFd RX10 239 1 10 := ⟨RX1, TX1, cl_1, by decide, tb_74⟩
theorem gX10_239 : aPd RX10 239 1 10 := ⟨RX1, TX1, cl_1, by decide, tb_74, by decide⟩
theorem fX10_247 : aFd RX10 247 1 3 := ⟨RX1, TX1, cl_1, by decide, tb_51⟩
theorem fX10_256 : aFd RX10 256 10 12 := ⟨RX10, TX10, cl_10, by decide, tb_333⟩
theorem gX10_256 : aPd RX10 256 10 12 := ⟨RX10, TX10, cl_10, by decide, tb_333, by decide⟩
theorem fX10_275 : aFd RX10 275 1 11 := ⟨RX1, TX1, cl_1, by decide, tb_77⟩
theorem gX10_275 : aPd RX10 275 1 11 := ⟨RX1, TX1, cl_1, by decide, tb_77, by decide⟩
theorem fX10_278 : aFd RX10 278 1 4 := ⟨RX1, TX1, cl_1, by decide, tb_54⟩
theorem fX10_284 : aFd RX10 284 3 1 := ⟨RX3, TX3, cl_3, by decide, tb_267⟩
theorem fX10_287 : aFd RX10 287 3 2 := ⟨RX3, TX3, cl_3, by decide, tb_269⟩
theorem fX10_290 : aFd RX10 290 3 0 := ⟨RX3, TX3, cl_3, by decide, tb_265⟩
theorem fX10_298 : aFd RX10 298 10 13 := ⟨RX10, TX10, cl_10, by decide, tb_334⟩
theorem gX10_298 : aPd RX10 298 10 13 := ⟨RX10, TX10, cl_10, by decide, tb_334, by decide⟩
theorem fX10_304 : aFd RX10 304 10 16 := ⟨RX10, TX10, cl_10, by decide, tb_337⟩
theorem gX10_304 : aPd RX10 304 10 16 := ⟨RX10, TX10, cl_10, by decide, tb_337, by decide⟩
theorem fX0_11 : aFd RX0 11 0 0 := ⟨RX0, TX0, cl_0, by decide, tb_170⟩
theorem gX0_11 : aPd RX0 11 0 0 := ⟨RX0, TX0, cl_0, by decide, tb_170, by decide⟩
theorem fX0_17 : aFd RX0 17 0 1 := ⟨RX0, TX0, cl_0, by decide, tb_171⟩
theorem gX0_17 : aPd RX0 17 0 1 := ⟨RX0, TX0, cl_0, by decide, tb_171, by decide⟩
theorem fX0_25 : aFd RX0 25 6 2 := ⟨RX6, TX6, cl_6, by decide, tb_673⟩
theorem fX0_29 : aFd RX0 29 6 1 := ⟨RX6, TX6, cl_6, by decide, tb_671⟩
theorem fX0_32 : aFd RX0 32 6 0 := ⟨RX6, TX6, cl_6, by decide, tb_669⟩
theorem fX0_42 : aFd RX0 42 1 6 := ⟨RX1, TX1, cl_1, by decide, tb_61⟩
theorem fX0_64 : aFd RX0 64 1 5 := ⟨RX1, TX1, cl_1, by decide, tb_58⟩
theorem fX1_9 : aFd RX1 9 1 0 := ⟨RX1, TX1, cl_1, by decide, tb_40⟩
theorem gX1_9 : aPd RX1 9 1 0 := ⟨RX1, TX1, cl_1, by decide, tb_40, by decide⟩
theorem fX1_15 : aFd RX1 15 1 1 := ⟨RX1, TX1, cl_1, by decide, tb_43⟩
theorem gX1_15 : aPd RX1 15 1 1 := ⟨RX1, TX1, cl_1, by decide, tb_43, by decide⟩
theorem fX1_20 : aFd RX1 20 1 2 := ⟨RX1, TX1, cl_1, by decide, tb_48⟩
theorem gX1_20 : aPd RX1 20 1 2 := ⟨RX1, TX1, cl_1, by decide, tb_48, by decide⟩
theorem fX1_24 : aFd RX1 24 1 3 := ⟨RX1, TX1, cl_1, by decide, tb_50⟩
theorem gX1_24 : aPd RX1 24 1 3 := ⟨RX1, TX1, cl_1, by decide, tb_50, by decide⟩
theorem fX1_27 : aFd RX1 27 1 4 := ⟨RX1, TX1, cl_1, by decide, tb_52⟩
theorem gX1_27 : aPd RX1 27 1 4 := ⟨RX1, TX1, cl_1, by decide, tb_52, by decide⟩
theorem fX1_30 : aFd RX1 30 1 5 := ⟨RX1, TX1, cl_1, by decide, tb_55⟩
theorem gX1_30 : aPd RX1 30 1 5 := ⟨RX1, TX1, cl_1, by decide, tb_55, by decide⟩
theorem fX1_34 : aFd RX1 34 1 6 := ⟨RX1, TX1, cl_1, by decide, tb_60⟩
theorem gX1_34 : aPd RX1 34 1 6 := ⟨RX1, TX1, cl_1, by decide, tb_60, by decide⟩
theorem fX1_47 : aFd RX1 47 1 7 := ⟨RX1, TX1, cl_1, by decide, tb_68⟩
theorem gX1_47 : aPd RX1 47 1 7 := ⟨RX1, TX1, cl_1, by decide, tb_68, by decide⟩
theorem fX1_58 : aFd RX1 58 1 8 := ⟨RX1, TX1, cl_1, by decide, tb_69⟩
theorem gX1_58 : aPd RX1 58 1 8 := ⟨RX1, TX1, cl_1, by decide, tb_69, by decide⟩
theorem fX1_61 : aFd RX1 61 1 10 := ⟨RX1, TX1, cl_1, by decide, tb_73⟩
theorem gX1_61 : aPd RX1 61 1 10 := ⟨RX1, TX1, cl_1, by decide, tb_73, by decide⟩
theorem fX1_64 : aFd RX1 64 1 11 := ⟨RX1, TX1, cl_1, by decide, tb_76⟩
theorem gX1_64 : aPd RX1 64 1 11 := ⟨RX1, TX1, cl_1, by decide, tb_76, by decide⟩
theorem fX1_73 : aFd RX1 73 1 9 := ⟨RX1, TX1, cl_1, by decide, tb_72⟩
theorem gX1_73 : aPd RX1 73 1 9 := ⟨RX1, TX1, cl_1, by decide, tb_72, by decide⟩
theorem fX2_14 : aFd RX2 14 2 0 := ⟨RX2, TX2, cl_2, by decide, tb_301⟩
theorem gX2_14 : aPd RX2 14 2 0 := ⟨RX2, TX2, cl_2, by decide, tb_301, by decide⟩
theorem fX2_18 : aFd RX2 18 2 1 := ⟨RX2, TX2, cl_2, by decide, tb_302⟩
theorem gX2_18 : aPd RX2 18 2 1 := ⟨RX2, TX2, cl_2, by decide, tb_302, by decide⟩
theorem fX2_22 : aFd RX2 22 2 2 := ⟨RX2, TX2, cl_2, by decide, tb_303⟩
theorem gX2_22 : aPd RX2 22 2 2 := ⟨RX2, TX2, cl_2, by decide, tb_303, by decide⟩
theorem fX2_25 : aFd RX2 25 2 3 := ⟨RX2, TX2, cl_2, by decide, tb_304⟩
theorem gX2_25 : aPd RX2 25 2 3 := ⟨RX2, TX2, cl_2, by decide, tb_304, by decide⟩
theorem fX2_28 : aFd RX2 28 2 4 := ⟨RX2, TX2, cl_2, by decide, tb_305⟩
theorem gX2_28 : aPd RX2 28 2 4 := ⟨RX2, TX2, cl_2, by decide, tb_305, by decide⟩
theorem fX2_31 : aFd RX2 31 2 5 := ⟨RX2, TX2, cl_2, by decide, tb_306⟩
theorem gX2_31 : aPd RX2 31 2 5 := ⟨RX2, TX2, cl_2, by decide, tb_306, by decide⟩
theorem fX2_63 : aFd RX2 63 5 0 := ⟨RX5, TX5, cl_5, by decide, tb_192⟩
theorem fX3_9 : aFd RX3 9 3 0 := ⟨RX3, TX3, cl_3, by decide, tb_264⟩
theorem gX3_9 : aPd RX3 9 3 0 := ⟨RX3, TX3, cl_3, by decide, tb_264, by decide⟩
theorem fX3_15 : aFd RX3 15 3 6 := ⟨RX3, TX3, cl_3, by decide, tb_274⟩
theorem gX3_15 : aPd RX3 15 3 6 := ⟨RX3, TX3, cl_3, by decide, tb_274, by decide⟩
theorem fX3_19 : aFd RX3 19 3 7 := ⟨RX3, TX3, cl_3, by decide, tb_275⟩
theorem gX3_19 : aPd RX3 19 3 7 := ⟨RX3, TX3, cl_3, by decide, tb_275, by decide⟩
theorem fX3_22 : aFd RX3 22 3 4 := ⟨RX3, TX3, cl_3, by decide, tb_272⟩
theorem gX3_22 : aPd RX3 22 3 4 := ⟨RX3, TX3, cl_3, by decide, tb_272, by decide⟩
theorem fX3_26 : aFd RX3 26 4 0 := ⟨RX4, TX4, cl_4, by decide, tb_199⟩
theorem fX3_32 : aFd RX3 32 3 5 := ⟨RX3, TX3, cl_3, by decide, tb_273⟩
theorem gX3_32 : aPd RX3 32 3 5 := ⟨RX3, TX3, cl_3, by decide, tb_273, by decide⟩
theorem fX3_33 : aFd RX3 33 3 3 := ⟨RX3, TX3, cl_3, by decide, tb_270⟩
theorem gX3_33 : aPd RX3 33 3 3 := ⟨RX3, TX3, cl_3, by decide, tb_270, by decide⟩
theorem fX3_46 : aFd RX3 46 3 1 := ⟨RX3, TX3, cl_3, by decide, tb_266⟩
theorem gX3_46 : aPd RX3 46 3 1 := ⟨RX3, TX3, cl_3, by decide, tb_266, by decide⟩
theorem fX3_68 : aFd RX3 68 1 11 := ⟨RX1, TX1, cl_1, by decide, tb_75⟩
theorem fX3_71 : aFd RX3 71 1 5 := ⟨RX1, TX1, cl_1, by decide, tb_57⟩
theorem fX3_78 : aFd RX3 78 1 1 := ⟨RX1, TX1, cl_1, by decide, tb_44⟩
theorem fX3_81 : aFd RX3 81 1 4 := ⟨RX1, TX1, cl_1, by decide, tb_53⟩
theorem fX3_84 : aFd RX3 84 1 7 := ⟨RX1, TX1, cl_1, by decide, tb_66⟩
theorem fX3_87 : aFd RX3 87 4 1 := ⟨RX4, TX4, cl_4, by decide, tb_203⟩
theorem gX3_98 : aPd RX3 98 3 2 := ⟨RX3, TX3, cl_3, by decide, tb_268, by decide⟩
theorem fX4_9 : aFd RX4 9 4 1 := ⟨RX4, TX4, cl_4, by decide, tb_202⟩
theorem gX4_9 : aPd RX4 9 4 1 := ⟨RX4, TX4, cl_4, by decide, tb_202, by decide⟩
theorem fX4_15 : aFd RX4 15 4 2 := ⟨RX4, TX4, cl_4, by decide, tb_204⟩
theorem gX4_15 : aPd RX4 15 4 2 := ⟨RX4, TX4, cl_4, by decide, tb_204, by decide⟩
theorem fX4_18 : aFd RX4 18 4 3 := ⟨RX4, TX4, cl_4, by decide, tb_206⟩
theorem gX4_18 : aPd RX4 18 4 3 := ⟨RX4, TX4, cl_4, by decide, tb_206, by decide⟩
theorem fX4_26 : aFd RX4 26 4 4 := ⟨RX4, TX4, cl_4, by decide, tb_208⟩
theorem gX4_26 : aPd RX4 26 4 4 := ⟨RX4, TX4, cl_4, by decide, tb_208, by decide⟩
theorem fX4_30 : aFd RX4 30 4 5 := ⟨RX4, TX4, cl_4, by decide, tb_209⟩
theorem gX4_30 : aPd RX4 30 4 5 := ⟨RX4, TX4, cl_4, by decide, tb_209, by decide⟩
theorem fX4_33 : aFd RX4 33 4 6 := ⟨RX4, TX4, cl_4, by decide, tb_210⟩
theorem gX4_33 : aPd RX4 33 4 6 := ⟨RX4, TX4, cl_4, by decide, tb_210, by decide⟩
theorem fX4_37 : aFd RX4 37 4 7 := ⟨RX4, TX4, cl_4, by decide, tb_211⟩
theorem gX4_37 : aPd RX4 37 4 7 := ⟨RX4, TX4, cl_4, by decide, tb_211, by decide⟩
theorem fX4_40 : aFd RX4 40 4 8 := ⟨RX4, TX4, cl_4, by decide, tb_212⟩
theorem gX4_40 : aPd RX4 40 4 8 := ⟨RX4, TX4, cl_4, by decide, tb_212, by decide⟩
theorem fX4_43 : aFd RX4 43 4 9 := ⟨RX4, TX4, cl_4, by decide, tb_213⟩
theorem gX4_43 : aPd RX4 43 4 9 := ⟨RX4, TX4, cl_4, by decide, tb_213, by decide⟩
theorem fX4_47 : aFd RX4 47 4 0 := ⟨RX4, TX4, cl_4, by decide, tb_200⟩
theorem gX4_47 : aPd RX4 47 4 0 := ⟨RX4, TX4, cl_4, by decide, tb_200, by decide⟩
theorem fX4_51 : aFd RX4 51 4 10 := ⟨RX4, TX4, cl_4, by decide, tb_214⟩
theorem gX4_51 : aPd RX4 51 4 10 := ⟨RX4, TX4, cl_4, by decide, tb_214, by decide⟩
theorem fX4_55 : aFd RX4 55 4 11 := ⟨RX4, TX4, cl_4, by decide, tb_216⟩
theorem gX4_55 : aPd RX4 55 4 11 := ⟨RX4, TX4, cl_4, by decide, tb_216, by decide⟩
theorem fX4_58 : aFd RX4 58 4 12 := ⟨RX4, TX4, cl_4, by decide, tb_217⟩
theorem gX4_58 : aPd RX4 58 4 12 := ⟨RX4, TX4, cl_4, by decide, tb_217, by decide⟩
theorem fX4_67 : aFd RX4 67 5 0 := ⟨RX5, TX5, cl_5, by decide, tb_191⟩
theorem fX4_70 : aFd RX4 70 1 1 := ⟨RX1, TX1, cl_1, by decide, tb_46⟩
theorem fX4_79 : aFd RX4 79 1 7 := ⟨RX1, TX1, cl_1, by decide, tb_67⟩
theorem fX4_83 : aFd RX4 83 1 6 := ⟨RX1, TX1, cl_1, by decide, tb_64⟩
theorem fX4_146 : aFd RX4 146 1 5 := ⟨RX1, TX1, cl_1, by decide, tb_59⟩
theorem fX4_149 : aFd RX4 149 1 0 := ⟨RX1, TX1, cl_1, by decide, tb_42⟩
theorem fX5_9 : aFd RX5 9 5 1 := ⟨RX5, TX5, cl_5, by decide, tb_193⟩
theorem gX5_9 : aPd RX5 9 5 1 := ⟨RX5, TX5, cl_5, by decide, tb_193, by decide⟩
theorem fX5_15 : aFd RX5 15 5 0 := ⟨RX5, TX5, cl_5, by decide, tb_190⟩
theorem gX5_15 : aPd RX5 15 5 0 := ⟨RX5, TX5, cl_5, by decide, tb_190, by decide⟩
theorem gX6_7 : aPd RX6 7 6 0 := ⟨RX6, TX6, cl_6, by decide, tb_668, by decide⟩
theorem gX6_13 : aPd RX6 13 6 1 := ⟨RX6, TX6, cl_6, by decide, tb_670, by decide⟩
theorem gX6_16 : aPd RX6 16 6 2 := ⟨RX6, TX6, cl_6, by decide, tb_672, by decide⟩
theorem gX7_9 : aPd RX7 9 7 0 := ⟨RX7, TX7, cl_7, by decide, tb_126, by decide⟩
theorem fX7_15 : aFd RX7 15 7 2 := ⟨RX7, TX7, cl_7, by decide, tb_129⟩
theorem gX7_15 : aPd RX7 15 7 2 := ⟨RX7, TX7, cl_7, by decide, tb_129, by decide⟩
theorem fX7_19 : aFd RX7 19 7 3 := ⟨RX7, TX7, cl_7, by decide, tb_130⟩
theorem gX7_19 : aPd RX7 19 7 3 := ⟨RX7, TX7, cl_7, by decide, tb_130, by decide⟩
theorem fX7_22 : aFd RX7 22 7 4 := ⟨RX7, TX7, cl_7, by decide, tb_131⟩
theorem gX7_22 : aPd RX7 22 7 4 := ⟨RX7, TX7, cl_7, by decide, tb_131, by decide⟩
theorem fX7_25 : aFd RX7 25 7 5 := ⟨RX7, TX7, cl_7, by decide, tb_132⟩
theorem gX7_25 : aPd RX7 25 7 5 := ⟨RX7, TX7, cl_7, by decide, tb_132, by decide⟩
theorem fX7_28 : aFd RX7 28 7 1 := ⟨RX7, TX7, cl_7, by decide, tb_128⟩
theorem gX7_28 : aPd RX7 28 7 1 := ⟨RX7, TX7, cl_7, by decide, tb_128, by decide⟩
theorem fX7_35 : aFd RX7 35 7 7 := ⟨RX7, TX7, cl_7, by decide, tb_134⟩
theorem gX7_35 : aPd RX7 35 7 7 := ⟨RX7, TX7, cl_7, by decide, tb_134, by decide⟩
theorem fX7_38 : aFd RX7 38 7 8 := ⟨RX7, TX7, cl_7, by decide, tb_135⟩
theorem gX7_38 : aPd RX7 38 7 8 := ⟨RX7, TX7, cl_7, by decide, tb_135, by decide⟩
theorem fX7_41 : aFd RX7 41 7 9 := ⟨RX7, TX7, cl_7, by decide, tb_136⟩
theorem gX7_41 : aPd RX7 41 7 9 := ⟨RX7, TX7, cl_7, by decide, tb_136, by decide⟩
theorem fX7_44 : aFd RX7 44 7 10 := ⟨RX7, TX7, cl_7, by decide, tb_137⟩
theorem gX7_44 : aPd RX7 44 7 10 := ⟨RX7, TX7, cl_7, by decide, tb_137, by decide⟩
theorem fX7_47 : aFd RX7 47 7 11 := ⟨RX7, TX7, cl_7, by decide, tb_138⟩
theorem gX7_47 : aPd RX7 47 7 11 := ⟨RX7, TX7, cl_7, by decide, tb_138, by decide⟩
theorem fX7_116 : aFd RX7 116 7 6 := ⟨RX7, TX7, cl_7, by decide, tb_133⟩
theorem gX7_116 : aPd RX7 116 7 6 := ⟨RX7, TX7, cl_7, by decide, tb_133, by decide⟩
theorem fX7_128 : aFd RX7 128 9 1 := ⟨RX9, TX9, cl_9, by decide, tb_114⟩
theorem fX8_9 : aFd RX8 9 8 1 := ⟨RX8, TX8, cl_8, by decide, tb_252⟩
theorem gX8_9 : aPd RX8 9 8 1 := ⟨RX8, TX8, cl_8, by decide, tb_252, by decide⟩
theorem fX8_15 : aFd RX8 15 8 0 := ⟨RX8, TX8, cl_8, by decide, tb_251⟩
theorem gX8_15 : aPd RX8 15 8 0 := ⟨RX8, TX8, cl_8, by decide, tb_251, by decide⟩
theorem fX8_43 : aFd RX8 43 4 0 := ⟨RX4, TX4, cl_4, by decide, tb_201⟩
theorem fX8_47 : aFd RX8 47 1 1 := ⟨RX1, TX1, cl_1, by decide, tb_45⟩
theorem fX8_53 : aFd RX8 53 1 6 := ⟨RX1, TX1, cl_1, by decide, tb_63⟩
theorem fX8_57 : aFd RX8 57 4 3 := ⟨RX4, TX4, cl_4, by decide, tb_207⟩
theorem fX9_9 : aFd RX9 9 9 0 := ⟨RX9, TX9, cl_9, by decide, tb_111⟩
theorem gX9_9 : aPd RX9 9 9 0 := ⟨RX9, TX9, cl_9, by decide, tb_111, by decide⟩
theorem fX9_15 : aFd RX9 15 9 1 := ⟨RX9, TX9, cl_9, by decide, tb_112⟩
theorem gX9_15 : aPd RX9 15 9 1 := ⟨RX9, TX9, cl_9, by decide, tb_112, by decide⟩
theorem fX11_3 : aFd RX11 3 11 0 := ⟨RX11, TX11, cl_11, by decide, tb_1092⟩
theorem gX11_3 : aPd RX11 3 11 0 := ⟨RX11, TX11, cl_11, by decide, tb_1092, by decide⟩
theorem fX11_7 : aFd RX11 7 11 2 := ⟨RX11, TX11, cl_11, by decide, tb_1094⟩
theorem gX11_7 : aPd RX11 7 11 2 := ⟨RX11, TX11, cl_11, by decide, tb_1094, by decide⟩
theorem fX11_11 : aFd RX11 11 11 1 := ⟨RX11, TX11, cl_11, by decide, tb_1093⟩
theorem gX11_11 : aPd RX11 11 11 1 := ⟨RX11, TX11, cl_11, by decide, tb_1093, by decide⟩
theorem fX11_20 : aFd RX11 20 11 3 := ⟨RX11, TX11, cl_11, by decide, tb_1095⟩
theorem gX11_20 : aPd RX11 20 11 3 := ⟨RX11, TX11, cl_11, by decide, tb_1095, by decide⟩
theorem fX11_23 : aFd RX11 23 11 4 := ⟨RX11, TX11, cl_11, by decide, tb_1096⟩
theorem gX11_23 : aPd RX11 23 11 4 := ⟨RX11, TX11, cl_11, by decide, tb_1096, by decide⟩
theorem fX11_26 : aFd RX11 26 11 5 := ⟨RX11, TX11, cl_11, by decide, tb_1097⟩
theorem gX11_26 : aPd RX11 26 11 5 := ⟨RX11, TX11, cl_11, by decide, tb_1097, by decide⟩
theorem fX11_30 : aFd RX11 30 11 7 := ⟨RX11, TX11, cl_11, by decide, tb_1099⟩
theorem gX11_30 : aPd RX11 30 11 7 := ⟨RX11, TX11, cl_11, by decide, tb_1099, by decide⟩
theorem fX11_34 : aFd RX11 34 11 8 := ⟨RX11, TX11, cl_11, by decide, tb_1100⟩
theorem gX11_34 : aPd RX11 34 11 8 := ⟨RX11, TX11, cl_11, by decide, tb_1100, by decide⟩
theorem fX11_37 : aFd RX11 37 11 9 := ⟨RX11, TX11, cl_11, by decide, tb_1101⟩
theorem gX11_37 : aPd RX11 37 11 9 := ⟨RX11, TX11, cl_11, by decide, tb_1101, by decide⟩
theorem fX11_40 : aFd RX11 40 11 11 := ⟨RX11, TX11, cl_11, by decide, tb_1103⟩
theorem gX11_40 : aPd RX11 40 11 11 := ⟨RX11, TX11, cl_11, by decide, tb_1103, by decide⟩
theorem fX11_43 : aFd RX11 43 11 12 := ⟨RX11, TX11, cl_11, by decide, tb_1104⟩
theorem gX11_43 : aPd RX11 43 11 12 := ⟨RX11, TX11, cl_11, by decide, tb_1104, by decide⟩
theorem fX11_46 : aFd RX11 46 11 13 := ⟨RX11, TX11, cl_11, by decide, tb_1105⟩
theorem gX11_46 : aPd RX11 46 11 13 := ⟨RX11, TX11, cl_11, by decide, tb_1105, by decide⟩
theorem fX11_49 : aFd RX11 49 11 14 := ⟨RX11, TX11, cl_11, by decide, tb_1106⟩
theorem gX11_49 : aPd RX11 49 11 14 := ⟨RX11, TX11, cl_11, by decide, tb_1106, by decide⟩
theorem fX11_52 : aFd RX11 52 11 22 := ⟨RX11, TX11, cl_11, by decide, tb_1114⟩
theorem gX11_52 : aPd RX11 52 11 22 := ⟨RX11, TX11, cl_11, by decide, tb_1114, by decide⟩
theorem fX11_55 : aFd RX11 55 11 23 := ⟨RX11, TX11, cl_11, by decide, tb_1115⟩
theorem gX11_55 : aPd RX11 55 11 23 := ⟨RX11, TX11, cl_11, by decide, tb_1115, by decide⟩
theorem fX11_58 : aFd RX11 58 11 24 := ⟨RX11, TX11, cl_11, by decide, tb_1116⟩
theorem gX11_58 : aPd RX11 58 11 24 := ⟨RX11, TX11, cl_11, by decide, tb_1116, by decide⟩
theorem fX11_62 : aFd RX11 62 11 25 := ⟨RX11, TX11, cl_11, by decide, tb_1117⟩
theorem gX11_62 : aPd RX11 62 11 25 := ⟨RX11, TX11, cl_11, by decide, tb_1117, by decide⟩
theorem fX11_65 : aFd RX11 65 11 26 := ⟨RX11, TX11, cl_11, by decide, tb_1118⟩
theorem gX11_65 : aPd RX11 65 11 26 := ⟨RX11, TX11, cl_11, by decide, tb_1118, by decide⟩
theorem fX11_68 : aFd RX11 68 11 27 := ⟨RX11, TX11, cl_11, by decide, tb_1119⟩
theorem gX11_68 : aPd RX11 68 11 27 := ⟨RX11, TX11, cl_11, by decide, tb_1119, by decide⟩
theorem fX11_71 : aFd RX11 71 11 29 := ⟨RX11, TX11, cl_11, by decide, tb_1121⟩
theorem gX11_71 : aPd RX11 71 11 29 := ⟨RX11, TX11, cl_11, by decide, tb_1121, by decide⟩
theorem fX11_74 : aFd RX11 74 11 30 := ⟨RX11, TX11, cl_11, by decide, tb_1122⟩
theorem gX11_74 : aPd RX11 74 11 30 := ⟨RX11, TX11, cl_11, by decide, tb_1122, by decide⟩
theorem fX11_77 : aFd RX11 77 11 32 := ⟨RX11, TX11, cl_11, by decide, tb_1124⟩
theorem gX11_77 : aPd RX11 77 11 32 := ⟨RX11, TX11, cl_11, by decide, tb_1124, by decide⟩
theorem fX11_80 : aFd RX11 80 11 34 := ⟨RX11, TX11, cl_11, by decide, tb_1126⟩
theorem gX11_80 : aPd RX11 80 11 34 := ⟨RX11, TX11, cl_11, by decide, tb_1126, by decide⟩
theorem fX11_83 : aFd RX11 83 11 35 := ⟨RX11, TX11, cl_11, by decide, tb_1127⟩
theorem gX11_83 : aPd RX11 83 11 35 := ⟨RX11, TX11, cl_11, by decide, tb_1127, by decide⟩
theorem fX11_86 : aFd RX11 86 11 36 := ⟨RX11, TX11, cl_11, by decide, tb_1128⟩
theorem gX11_86 : aPd RX11 86 11 36 := ⟨RX11, TX11, cl_11, by decide, tb_1128, by decide⟩
theorem fX11_89 : aFd RX11 89 11 37 := ⟨RX11, TX11, cl_11, by decide, tb_1129⟩
theorem gX11_89 : aPd RX11 89 11 37 := ⟨RX11, TX11, cl_11, by decide, tb_1129, by decide⟩
theorem fX11_92 : aFd RX11 92 11 38 := ⟨RX11, TX11, cl_11, by decide, tb_1130⟩
theorem gX11_92 : aPd RX11 92 11 38 := ⟨RX11, TX11, cl_11, by decide, tb_1130, by decide⟩
theorem fX11_95 : aFd RX11 95 11 39 := ⟨RX11, TX11, cl_11, by decide, tb_1131⟩
theorem gX11_95 : aPd RX11 95 11 39 := ⟨RX11, TX11, cl_11, by decide, tb_1131, by decide⟩
theorem fX11_129 : aFd RX11 129 11 10 := ⟨RX11, TX11, cl_11, by decide, tb_1102⟩
theorem gX11_129 : aPd RX11 129 11 10 := ⟨RX11, TX11, cl_11, by decide, tb_1102, by decide⟩
theorem fX11_136 : aFd RX11 136 11 6 := ⟨RX11, TX11, cl_11, by decide, tb_1098⟩
theorem gX11_136 : aPd RX11 136 11 6 := ⟨RX11, TX11, cl_11, by decide, tb_1098, by decide⟩
theorem fX11_142 : aFd RX11 142 11 15 := ⟨RX11, TX11, cl_11, by decide, tb_1107⟩
theorem gX11_142 : aPd RX11 142 11 15 := ⟨RX11, TX11, cl_11, by decide, tb_1107, by decide⟩
theorem fX11_155 : aFd RX11 155 11 18 := ⟨RX11, TX11, cl_11, by decide, tb_1110⟩
theorem gX11_155 : aPd RX11 155 11 18 := ⟨RX11, TX11, cl_11, by decide, tb_1110, by decide⟩
theorem fX11_162 : aFd RX11 162 11 16 := ⟨RX11, TX11, cl_11, by decide, tb_1108⟩
theorem gX11_162 : aPd RX11 162 11 16 := ⟨RX11, TX11, cl_11, by decide, tb_1108, by decide⟩
theorem fX11_171 : aFd RX11 171 11 17 := ⟨RX11, TX11, cl_11, by decide, tb_1109⟩
theorem gX11_171 : aPd RX11 171 11 17 := ⟨RX11, TX11, cl_11, by decide, tb_1109, by decide⟩
theorem fX11_212 : aFd RX11 212 11 20 := ⟨RX11, TX11, cl_11, by decide, tb_1112⟩
theorem gX11_212 : aPd RX11 212 11 20 := ⟨RX11, TX11, cl_11, by decide, tb_1112, by decide⟩
theorem fX11_215 : aFd RX11 215 11 19 := ⟨RX11, TX11, cl_11, by decide, tb_1111⟩
theorem gX11_215 : aPd RX11 215 11 19 := ⟨RX11, TX11, cl_11, by decide, tb_1111, by decide⟩
theorem fX11_225 : aFd RX11 225 11 21 := ⟨RX11, TX11, cl_11, by decide, tb_1113⟩
theorem gX11_225 : aPd RX11 225 11 21 := ⟨RX11, TX11, cl_11, by decide, tb_1113, by decide⟩
theorem fX11_318 : aFd RX11 318 11 28 := ⟨RX11, TX11, cl_11, by decide, tb_1120⟩
theorem gX11_318 : aPd RX11 318 11 28 := ⟨RX11, TX11, cl_11, by decide, tb_1120, by decide⟩
theorem fX11_324 : aFd RX11 324 11 31 := ⟨RX11, TX11, cl_11, by decide, tb_1123⟩
theorem gX11_324 : aPd RX11 324 11 31 := ⟨RX11, TX11, cl_11, by decide, tb_1123, by decide⟩
theorem fX11_334 : aFd RX11 334 11 33 := ⟨RX11, TX11, cl_11, by decide, tb_1125⟩
theorem gX11_334 : aPd RX11 334 11 33 := ⟨RX11, TX11, cl_11, by decide, tb_1125, by decide⟩
theorem fX11_344 : aFd RX11 344 11 41 := ⟨RX11, TX11, cl_11, by decide, tb_1133⟩
theorem gX11_344 : aPd RX11 344 11 41 := ⟨RX11, TX11, cl_11, by decide, tb_1133, by decide⟩
theorem fX11_347 : aFd RX11 347 11 40 := ⟨RX11, TX11, cl_11, by decide, tb_1132⟩
theorem gX11_347 : aPd RX11 347 11 40 := ⟨RX11, TX11, cl_11, by decide, tb_1132, by decide⟩
theorem sX10_9 : aSI RX10 9 mX1_init 0 := ⟨⟨tc_X1_init, tb_31, tb_2, ⟨by decide, by decide, by decide +kernel⟩, by decide⟩, rfl, rfl, tb_32⟩
theorem sX10_22 : aSN RX10 22 mX9_init 0 := ⟨⟨tc_X9_init, ⟨_, List.mem_of_getElem? (i := 0) rfl, rfl, rfl, rfl⟩, tb_4, ⟨by decide, by decide, by decide +kernel⟩, by decide⟩, rfl, rfl, tb_108⟩
theorem sX10_29 : aSI RX10 29 mX7_init 1 := ⟨⟨tc_X7_init, tb_122, tb_5, ⟨by decide, by decide, by decide +kernel⟩, by decide⟩, rfl, rfl, tb_123⟩
theorem sX10_38 : aSN RX10 38 mX0_init 0 := ⟨⟨tc_X0_init, ⟨_, List.mem_of_getElem? (i := 1) rfl, rfl, rfl, rfl⟩, tb_6, ⟨by decide, by decide, by decide +kernel⟩, by decide⟩, rfl, rfl, tb_167⟩
theorem sX10_45 : aSI RX10 45 mX4_init 1 := ⟨⟨tc_X4_init, tb_180, tb_7, ⟨by decide, by decide, by decide +kernel⟩, by decide⟩, rfl, rfl, tb_181⟩
theorem sX10_54 : aSI RX10 54 mX8_init 1 := ⟨⟨tc_X8_init, tb_247, tb_9, ⟨by decide, by decide, by decide +kernel⟩, by decide⟩, rfl, rfl, tb_248⟩
theorem sX10_63 : aSI RX10 63 mX3_init 1 := ⟨⟨tc_X3_init, tb_260, tb_10, ⟨by decide, by decide, by decide +kernel⟩, by decide⟩, rfl, rfl, tb_261⟩
theorem sX10_70 : aSN RX10 70 mX2_init 0 := ⟨⟨tc_X2_init, ⟨_, List.mem_of_getElem? (i := 2) rfl, rfl, rfl, rfl⟩, tb_11, ⟨by decide, by decide, by decide +kernel⟩, by decide⟩, rfl, rfl, tb_296⟩
theorem sX10_89 : aSV RX10 89 mX10_refuse 1 10 := ⟨⟨tc_X10_refuse, tb_377, tb_1, ⟨by decide, by decide, by decide +kernel⟩, by decide⟩, tb_379, ts_X10_refuse, _, _, rfl⟩
theorem sX10_102 : aSS RX10 102 mJ7_fill_53178 2 := ⟨⟨tc_J7_fill_53178, tb_381, tb_3, ⟨by decide, by decide, by decide +kernel⟩, by decide⟩, tb_38⟩
theorem sX10_108 : aSV RX10 108 mX1_forget 0 1 := ⟨⟨tc_X1_forget, tb_382, tb_2, ⟨by decide, by decide, by decide +kernel⟩, by decide⟩, tb_383, tb_384, _, _, rfl⟩
theorem sX10_111 : aSV RX10 111 mX10_codeChanged 0 10 := ⟨⟨tc_X10_codeChanged, tb_386, tb_1, ⟨by decide, by decide, by decide +kernel⟩, by decide⟩, tb_388, ts_X10_codeChanged, _, _, rfl⟩
theorem sX10_114 : aSV RX10 114 mX10_accept 1 10 := ⟨⟨tc_X10_accept, tb_394, tb_1, ⟨by decide, by decide, by decide +kernel⟩, by decide⟩, tb_396, ts_X10_accept, _, _, rfl⟩
theorem sX10_120 : aSV RX10 120 mX1_isLamp 1 1 := ⟨⟨tc_X1_isLamp, tb_406, tb_2, ⟨by decide, by decide, by decide +kernel⟩, by decide⟩, tb_407, tb_408, _, _, rfl⟩
theorem sX10_131 : aSV RX10 131 mX1_isState 1 1 := ⟨⟨tc_X1_isState, tb_418, tb_2, ⟨by decide, by decide, by decide +kernel⟩, by decide⟩, tb_419, tb_420, _, _, rfl⟩
theorem sX10_134 : aSV RX10 134 mX1_isNews 1 1 := ⟨⟨tc_X1_isNews, tb_426, tb_2, ⟨by decide, by decide, by decide +kernel⟩, by decide⟩, tb_427, tb_428, _, _, rfl⟩
theorem sX10_140 : aSV RX10 140 mX9_hasRoom 0 9 := ⟨⟨tc_X9_hasRoom, tb_438, tb_4, ⟨by decide, by decide, by decide +kernel⟩, by decide⟩, tb_439, tb_440, _, _, rfl⟩
theorem sX10_144 : aSV RX10 144 mX9_put 1 9 := ⟨⟨tc_X9_put, tb_442, tb_4, ⟨by decide, by decide, by decide +kernel⟩, by decide⟩, tb_443, tb_444, _, _, rfl⟩
theorem sX10_151 : aSV RX10 151 mX1_full 0 1 := ⟨⟨tc_X1_full, tb_454, tb_2, ⟨by decide, by decide, by decide +kernel⟩, by decide⟩, tb_423, tb_424, _, _, rfl⟩
theorem sX10_155 : aSV RX10 155 mX9_byteAt 1 9 := ⟨⟨tc_X9_byteAt, tb_455, tb_4, ⟨by decide, by decide, by decide +kernel⟩, by decide⟩, tb_456, tb_457, _, _, rfl⟩
theorem sX10_167 : aSV RX10 167 mX1_readCount 0 1 := ⟨⟨tc_X1_readCount, tb_462, tb_2, ⟨by decide, by decide, by decide +kernel⟩, by decide⟩, tb_463, tb_464, _, _, rfl⟩
theorem sX10_173 : aSV RX10 173 mX7_understand 0 7 := ⟨⟨tc_X7_understand, tb_474, tb_5, ⟨by decide, by decide, by decide +kernel⟩, by decide⟩, tb_475, tb_476, _, _, rfl⟩
theorem sX10_184 : aSV RX10 184 mX0_ask 3 0 := ⟨⟨tc_X0_ask, tb_690, tb_6, ⟨by decide, by decide, by decide +kernel⟩, by decide⟩, tb_691, tb_692, _, _, rfl⟩
theorem sX10_188 : aSS RX10 188 mX10_isManner 1 := ⟨⟨tc_X10_isManner, tb_724, tb_1, ⟨by decide, by decide, by decide +kernel⟩, by decide⟩, tb_725⟩
theorem sX10_191 : aSV RX10 191 mX4_prepare 1 4 := ⟨⟨tc_X4_prepare, tb_727, tb_7, ⟨by decide, by decide, by decide +kernel⟩, by decide⟩, tb_728, tb_729, _, _, rfl⟩
theorem sX10_194 : aSV RX10 194 mX4_choose 3 4 := ⟨⟨tc_X4_choose, tb_775, tb_7, ⟨by decide, by decide, by decide +kernel⟩, by decide⟩, tb_776, tb_777, _, _, rfl⟩
theorem sX10_198 : aSV RX10 198 mX1_countWays 2 1 := ⟨⟨tc_X1_countWays, tb_793, tb_2, ⟨by decide, by decide, by decide +kernel⟩, by decide⟩, tb_794, tb_795, _, _, rfl⟩
theorem sX10_201 : aSV RX10 201 mX4_lastingOf 1 4 := ⟨⟨tc_X4_lastingOf, tb_802, tb_7, ⟨by decide, by decide, by decide +kernel⟩, by decide⟩, tb_803, tb_804, _, _, rfl⟩
theorem sX10_206 : aSV RX10 206 mX4_meanPart 2 4 := ⟨⟨tc_X4_meanPart, tb_811, tb_7, ⟨by decide, by decide, by decide +kernel⟩, by decide⟩, tb_812, tb_813, _, _, rfl⟩
theorem sX10_210 : aSV RX10 210 mX1_countReached 0 1 := ⟨⟨tc_X1_countReached, tb_822, tb_2, ⟨by decide, by decide, by decide +kernel⟩, by decide⟩, tb_823, tb_824, _, _, rfl⟩
theorem sX10_213 : aSV RX10 213 mX1_isReached 1 1 := ⟨⟨tc_X1_isReached, tb_830, tb_2, ⟨by decide, by decide, by decide +kernel⟩, by decide⟩, tb_827, tb_828, _, _, rfl⟩
theorem sX10_216 : aSV RX10 216 mX4_findFailing 0 4 := ⟨⟨tc_X4_findFailing, tb_835, tb_7, ⟨by decide, by decide, by decide +kernel⟩, by decide⟩, tb_836, tb_837, _, _, rfl⟩
theorem sX10_222 : aSV RX10 222 mX4_lastingWithout 1 4 := ⟨⟨tc_X4_lastingWithout, tb_847, tb_7, ⟨by decide, by decide, by decide +kernel⟩, by decide⟩, tb_848, tb_849, _, _, rfl⟩
theorem sX10_225 : aSS RX10 225 mX2_isSearched 3 := ⟨⟨tc_X2_isSearched, tb_855, tb_11, ⟨by decide, by decide, by decide +kernel⟩, by decide⟩, tb_856⟩
theorem sX10_229 : aSV RX10 229 mX2_countCodes 3 2 := ⟨⟨tc_X2_countCodes, tb_858, tb_11, ⟨by decide, by decide, by decide +kernel⟩, by decide⟩, tb_859, tb_860, _, _, rfl⟩
theorem sX10_232 : aSV RX10 232 mX2_copyFirst 4 2 := ⟨⟨tc_X2_copyFirst, tb_890, tb_11, ⟨by decide, by decide, by decide +kernel⟩, by decide⟩, tb_891, tb_892, _, _, rfl⟩
theorem sX10_242 : aSS RX10 242 mJ6_bitCount_0f7a4 1 := ⟨⟨tc_J6_bitCount_0f7a4, tb_899, tb_20, ⟨by decide, by decide, by decide +kernel⟩, by decide⟩, tb_699⟩

theorem tc_X0_ask : Cond.code yX0_ask cX0_ask 10 (some .int) ∈ aTb := tm_3_26 (List.mem_of_getElem? (i := 5) rfl) rfl
abbrev mX0_isSo : aM := (yX0_isSo, cX0_isSo, 4, (some .boolean))
theorem tc_X0_isSo : Cond.code yX0_isSo cX0_isSo 4 (some .boolean) ∈ aTb := tm_3_28 (List.mem_of_getElem? (i := 3) rfl) rfl
abbrev mX0_works : aM := (yX0_works, cX0_works, 9, (some .boolean))
theorem tc_X0_works : Cond.code yX0_works cX0_works 9 (some .boolean) ∈ aTb := tm_3_28 (List.mem_of_getElem? (i := 7) rfl) rfl
abbrev mX0_join : aM := (yX0_join, cX0_join, 9, (some .boolean))
theorem tc_X0_join : Cond.code yX0_join cX0_join 9 (some .boolean) ∈ aTb := tm_3_29 (List.mem_of_getElem? (i := 5) rfl) rfl
abbrev mX0_fillWords : aM := (yX0_fillWords, cX0_fillWords, 8, none)
theorem tc_X0_fillWords : Cond.code yX0_fillWords cX0_fillWords 8 none ∈ aTb := tm_3_27 (List.mem_of_getElem? (i := 1) rfl) rfl
abbrev mX1_init : aM := (yX1_init, cX1_init, 1, none)
theorem tc_X1_init : Cond.code yX1_init cX1_init 1 none ∈ aTb := tm_1_4 (List.mem_of_getElem? (i := 1) rfl) rfl
abbrev mX1_full : aM := (yX1_full, cX1_full, 1, (some .int))
theorem tc_X1_full : Cond.code yX1_full cX1_full 1 (some .int) ∈ aTb := tm_2_23 (List.mem_of_getElem? (i := 1) rfl) rfl
abbrev mX1_isLamp : aM := (yX1_isLamp, cX1_isLamp, 2, (some .boolean))
theorem tc_X1_isLamp : Cond.code yX1_isLamp cX1_isLamp 2 (some .boolean) ∈ aTb := tm_2_21 (List.mem_of_getElem? (i := 1) rfl) rfl
abbrev mX1_isState : aM := (yX1_isState, cX1_isState, 2, (some .boolean))
theorem tc_X1_isState : Cond.code yX1_isState cX1_isState 2 (some .boolean) ∈ aTb := tm_2_22 (List.mem_of_getElem? (i := 5) rfl) rfl
abbrev mX1_isNews : aM := (yX1_isNews, cX1_isNews, 2, (some .boolean))
theorem tc_X1_isNews : Cond.code yX1_isNews cX1_isNews 2 (some .boolean) ∈ aTb := tm_2_23 (List.mem_of_getElem? (i := 5) rfl) rfl
abbrev mX1_isReached : aM := (yX1_isReached, cX1_isReached, 2, (some .boolean))
theorem tc_X1_isReached : Cond.code yX1_isReached cX1_isReached 2 (some .boolean) ∈ aTb := tm_4_13 (List.mem_of_getElem? (i := 5) rfl) rfl
abbrev mX1_canLight : aM := (yX1_canLight, cX1_canLight, 3, (some .boolean))
theorem tc_X1_canLight : Cond.code yX1_canLight cX1_canLight 3 (some .boolean) ∈ aTb := tm_4_6 (List.mem_of_getElem? (i := 2) rfl) rfl
abbrev mX1_newsBit : aM := (yX1_newsBit, cX1_newsBit, 2, (some .int))
theorem tc_X1_newsBit : Cond.code yX1_newsBit cX1_newsBit 2 (some .int) ∈ aTb := tm_5_1 (List.mem_of_getElem? (i := 2) rfl) rfl
abbrev mX1_readCount : aM := (yX1_readCount, cX1_readCount, 4, (some .int))
theorem tc_X1_readCount : Cond.code yX1_readCount cX1_readCount 4 (some .int) ∈ aTb := tm_2_28 (List.mem_of_getElem? (i := 1) rfl) rfl
abbrev mX1_countReached : aM := (yX1_countReached, cX1_countReached, 4, (some .int))
theorem tc_X1_countReached : Cond.code yX1_countReached cX1_countReached 4 (some .int) ∈ aTb := tm_4_13 (List.mem_of_getElem? (i := 1) rfl) rfl
abbrev mX1_countWays : aM := (yX1_countWays, cX1_countWays, 6, (some .int))
theorem tc_X1_countWays : Cond.code yX1_countWays cX1_countWays 6 (some .int) ∈ aTb := tm_4_9 (List.mem_of_getElem? (i := 4) rfl) rfl
abbrev mX1_forget : aM := (yX1_forget, cX1_forget, 1, none)
theorem tc_X1_forget : Cond.code yX1_forget cX1_forget 1 none ∈ aTb := tm_2_18 (List.mem_of_getElem? (i := 1) rfl) rfl
abbrev mX1_copyFrom : aM := (yX1_copyFrom, cX1_copyFrom, 3, none)
theorem tc_X1_copyFrom : Cond.code yX1_copyFrom cX1_copyFrom 3 none ∈ aTb := tm_5_13 (List.mem_of_getElem? (i := 4) rfl) rfl
abbrev mX2_init : aM := (yX2_init, cX2_init, 1, none)
theorem tc_X2_init : Cond.code yX2_init cX2_init 1 none ∈ aTb := tm_2_7 (List.mem_of_getElem? (i := 1) rfl) rfl
abbrev mX2_isSearched : aM := (yX2_isSearched, cX2_isSearched, 3, (some .boolean))
theorem tc_X2_isSearched : Cond.code yX2_isSearched cX2_isSearched 3 (some .boolean) ∈ aTb := tm_4_17 (List.mem_of_getElem? (i := 1) rfl) rfl
abbrev mX2_countCodes : aM := (yX2_countCodes, cX2_countCodes, 5, (some .int))
theorem tc_X2_countCodes : Cond.code yX2_countCodes cX2_countCodes 5 (some .int) ∈ aTb := tm_4_17 (List.mem_of_getElem? (i := 5) rfl) rfl
abbrev mX2_copyFirst : aM := (yX2_copyFirst, cX2_copyFirst, 5, none)
theorem tc_X2_copyFirst : Cond.code yX2_copyFirst cX2_copyFirst 5 none ∈ aTb := tm_4_21 (List.mem_of_getElem? (i := 5) rfl) rfl
abbrev mX2_pairOf : aM := (yX2_pairOf, cX2_pairOf, 2, (some .int))
theorem tc_X2_pairOf : Cond.code yX2_pairOf cX2_pairOf 2 (some .int) ∈ aTb := tm_4_18 (List.mem_of_getElem? (i := 0) rfl) rfl
abbrev mX2_search : aM := (yX2_search, cX2_search, 7, none)
theorem tc_X2_search : Cond.code yX2_search cX2_search 7 none ∈ aTb := tm_4_18 (List.mem_of_getElem? (i := 4) rfl) rfl
abbrev mX2_note : aM := (yX2_note, cX2_note, 6, none)
theorem tc_X2_note : Cond.code yX2_note cX2_note 6 none ∈ aTb := tm_4_19 (List.mem_of_getElem? (i := 6) rfl) rfl
abbrev mX2_namings : aM := (yX2_namings, cX2_namings, 4, (some .int))
theorem tc_X2_namings : Cond.code yX2_namings cX2_namings 4 (some .int) ∈ aTb := tm_4_19 (List.mem_of_getElem? (i := 2) rfl) rfl
abbrev mX2_turnOn : aM := (yX2_turnOn, cX2_turnOn, 5, (some .boolean))
theorem tc_X2_turnOn : Cond.code yX2_turnOn cX2_turnOn 5 (some .boolean) ∈ aTb := tm_4_20 (List.mem_of_getElem? (i := 3) rfl) rfl
abbrev mX3_init : aM := (yX3_init, cX3_init, 2, none)
theorem tc_X3_init : Cond.code yX3_init cX3_init 2 none ∈ aTb := tm_2_2 (List.mem_of_getElem? (i := 6) rfl) rfl
abbrev mX3_solve : aM := (yX3_solve, cX3_solve, 1, none)
theorem tc_X3_solve : Cond.code yX3_solve cX3_solve 1 none ∈ aTb := tm_5_5 (List.mem_of_getElem? (i := 4) rfl) rfl
abbrev mX3_countWays : aM := (yX3_countWays, cX3_countWays, 4, none)
theorem tc_X3_countWays : Cond.code yX3_countWays cX3_countWays 4 none ∈ aTb := tm_5_6 (List.mem_of_getElem? (i := 1) rfl) rfl
abbrev mX3_spreadUp : aM := (yX3_spreadUp, cX3_spreadUp, 4, none)
theorem tc_X3_spreadUp : Cond.code yX3_spreadUp cX3_spreadUp 4 none ∈ aTb := tm_5_6 (List.mem_of_getElem? (i := 7) rfl) rfl
abbrev mX3_findLeast : aM := (yX3_findLeast, cX3_findLeast, 6, none)
theorem tc_X3_findLeast : Cond.code yX3_findLeast cX3_findLeast 6 none ∈ aTb := tm_5_7 (List.mem_of_getElem? (i := 3) rfl) rfl
abbrev mX3_findOpen : aM := (yX3_findOpen, cX3_findOpen, 4, none)
theorem tc_X3_findOpen : Cond.code yX3_findOpen cX3_findOpen 4 none ∈ aTb := tm_5_8 (List.mem_of_getElem? (i := 3) rfl) rfl
abbrev mX3_spreadDown : aM := (yX3_spreadDown, cX3_spreadDown, 5, none)
theorem tc_X3_spreadDown : Cond.code yX3_spreadDown cX3_spreadDown 5 none ∈ aTb := tm_5_9 (List.mem_of_getElem? (i := 3) rfl) rfl
abbrev mX3_goesOn : aM := (yX3_goesOn, cX3_goesOn, 3, (some .boolean))
theorem tc_X3_goesOn : Cond.code yX3_goesOn cX3_goesOn 3 (some .boolean) ∈ aTb := tm_5_8 (List.mem_of_getElem? (i := 7) rfl) rfl
abbrev mX3_findStates : aM := (yX3_findStates, cX3_findStates, 5, none)
theorem tc_X3_findStates : Cond.code yX3_findStates cX3_findStates 5 none ∈ aTb := tm_5_9 (List.mem_of_getElem? (i := 7) rfl) rfl
abbrev mX4_init : aM := (yX4_init, cX4_init, 2, none)
theorem tc_X4_init : Cond.code yX4_init cX4_init 2 none ∈ aTb := tm_1_22 (List.mem_of_getElem? (i := 6) rfl) rfl
abbrev mX4_forgetTables : aM := (yX4_forgetTables, cX4_forgetTables, 1, none)
theorem tc_X4_forgetTables : Cond.code yX4_forgetTables cX4_forgetTables 1 none ∈ aTb := tm_2_19 (List.mem_of_getElem? (i := 1) rfl) rfl
abbrev mX4_oilOf : aM := (yX4_oilOf, cX4_oilOf, 2, (some .int))
theorem tc_X4_oilOf : Cond.code yX4_oilOf cX4_oilOf 2 (some .int) ∈ aTb := tm_4_24 (List.mem_of_getElem? (i := 3) rfl) rfl
abbrev mX4_lastingOf : aM := (yX4_lastingOf, cX4_lastingOf, 2, (some .int))
theorem tc_X4_lastingOf : Cond.code yX4_lastingOf cX4_lastingOf 2 (some .int) ∈ aTb := tm_4_10 (List.mem_of_getElem? (i := 5) rfl) rfl
abbrev mX4_lastingWithout : aM := (yX4_lastingWithout, cX4_lastingWithout, 2, (some .int))
theorem tc_X4_lastingWithout : Cond.code yX4_lastingWithout cX4_lastingWithout 2 (some .int) ∈ aTb := tm_4_16 (List.mem_of_getElem? (i := 2) rfl) rfl
abbrev mX4_meanPart : aM := (yX4_meanPart, cX4_meanPart, 9, (some .long))
theorem tc_X4_meanPart : Cond.code yX4_meanPart cX4_meanPart 9 (some .long) ∈ aTb := tm_4_11 (List.mem_of_getElem? (i := 6) rfl) rfl
abbrev mX4_choose : aM := (yX4_choose, cX4_choose, 4, (some .int))
theorem tc_X4_choose : Cond.code yX4_choose cX4_choose 4 (some .int) ∈ aTb := tm_4_7 (List.mem_of_getElem? (i := 2) rfl) rfl
abbrev mX4_chooseAll : aM := (yX4_chooseAll, cX4_chooseAll, 6, none)
theorem tc_X4_chooseAll : Cond.code yX4_chooseAll cX4_chooseAll 6 none ∈ aTb := tm_4_7 (List.mem_of_getElem? (i := 6) rfl) rfl
abbrev mX4_wouldLight : aM := (yX4_wouldLight, cX4_wouldLight, 5, (some .boolean))
theorem tc_X4_wouldLight : Cond.code yX4_wouldLight cX4_wouldLight 5 (some .boolean) ∈ aTb := tm_4_26 (List.mem_of_getElem? (i := 0) rfl) rfl
abbrev mX4_findFailing : aM := (yX4_findFailing, cX4_findFailing, 5, (some .int))
theorem tc_X4_findFailing : Cond.code yX4_findFailing cX4_findFailing 5 (some .int) ∈ aTb := tm_4_14 (List.mem_of_getElem? (i := 6) rfl) rfl
abbrev mX4_findSafe : aM := (yX4_findSafe, cX4_findSafe, 4, (some .int))
theorem tc_X4_findSafe : Cond.code yX4_findSafe cX4_findSafe 4 (some .int) ∈ aTb := tm_5_2 (List.mem_of_getElem? (i := 2) rfl) rfl
abbrev mX4_firstDoubt : aM := (yX4_firstDoubt, cX4_firstDoubt, 5, (some .int))
theorem tc_X4_firstDoubt : Cond.code yX4_firstDoubt cX4_firstDoubt 5 (some .int) ∈ aTb := tm_5_2 (List.mem_of_getElem? (i := 6) rfl) rfl
abbrev mX4_lastsBy : aM := (yX4_lastsBy, cX4_lastsBy, 2, (some .int))
theorem tc_X4_lastsBy : Cond.code yX4_lastsBy cX4_lastsBy 2 (some .int) ∈ aTb := tm_4_15 (List.mem_of_getElem? (i := 2) rfl) rfl
abbrev mX4_isBetter : aM := (yX4_isBetter, cX4_isBetter, 4, (some .boolean))
theorem tc_X4_isBetter : Cond.code yX4_isBetter cX4_isBetter 4 (some .boolean) ∈ aTb := tm_4_8 (List.mem_of_getElem? (i := 3) rfl) rfl
abbrev mX4_prepare : aM := (yX4_prepare, cX4_prepare, 2, none)
theorem tc_X4_prepare : Cond.code yX4_prepare cX4_prepare 2 none ∈ aTb := tm_4_1 (List.mem_of_getElem? (i := 2) rfl) rfl
abbrev mX4_fillOil : aM := (yX4_fillOil, cX4_fillOil, 4, none)
theorem tc_X4_fillOil : Cond.code yX4_fillOil cX4_fillOil 4 none ∈ aTb := tm_4_1 (List.mem_of_getElem? (i := 6) rfl) rfl
abbrev mX4_fillLasting : aM := (yX4_fillLasting, cX4_fillLasting, 1, none)
theorem tc_X4_fillLasting : Cond.code yX4_fillLasting cX4_fillLasting 1 none ∈ aTb := tm_4_2 (List.mem_of_getElem? (i := 2) rfl) rfl
abbrev mX4_fillMean : aM := (yX4_fillMean, cX4_fillMean, 2, none)
theorem tc_X4_fillMean : Cond.code yX4_fillMean cX4_fillMean 2 none ∈ aTb := tm_4_4 (List.mem_of_getElem? (i := 2) rfl) rfl
abbrev mX4_meanOf : aM := (yX4_meanOf, cX4_meanOf, 6, (some .long))
theorem tc_X4_meanOf : Cond.code yX4_meanOf cX4_meanOf 6 (some .long) ∈ aTb := tm_4_4 (List.mem_of_getElem? (i := 6) rfl) rfl
abbrev mX4_fillRichest : aM := (yX4_fillRichest, cX4_fillRichest, 5, none)
theorem tc_X4_fillRichest : Cond.code yX4_fillRichest cX4_fillRichest 5 none ∈ aTb := tm_4_5 (List.mem_of_getElem? (i := 2) rfl) rfl
abbrev mX4_commonDivisor : aM := (yX4_commonDivisor, cX4_commonDivisor, 7, (some .long))
theorem tc_X4_commonDivisor : Cond.code yX4_commonDivisor cX4_commonDivisor 7 (some .long) ∈ aTb := tm_4_12 (List.mem_of_getElem? (i := 1) rfl) rfl
abbrev mX5_init : aM := (yX5_init, cX5_init, 2, none)
theorem tc_X5_init : Cond.code yX5_init cX5_init 2 none ∈ aTb := tm_1_23 (List.mem_of_getElem? (i := 4) rfl) rfl
abbrev mX5_fill : aM := (yX5_fill, cX5_fill, 9, none)
theorem tc_X5_fill : Cond.code yX5_fill cX5_fill 9 none ∈ aTb := tm_4_2 (List.mem_of_getElem? (i := 7) rfl) rfl
abbrev mX5_fillBest : aM := (yX5_fillBest, cX5_fillBest, 7, none)
theorem tc_X5_fillBest : Cond.code yX5_fillBest cX5_fillBest 7 none ∈ aTb := tm_4_3 (List.mem_of_getElem? (i := 4) rfl) rfl
abbrev mX6_init : aM := (yX6_init, cX6_init, 4, none)
theorem tc_X6_init : Cond.code yX6_init cX6_init 4 none ∈ aTb := tm_3_23 (List.mem_of_getElem? (i := 2) rfl) rfl
abbrev mX7_init : aM := (yX7_init, cX7_init, 2, none)
theorem tc_X7_init : Cond.code yX7_init cX7_init 2 none ∈ aTb := tm_1_15 (List.mem_of_getElem? (i := 4) rfl) rfl
abbrev mX7_understand : aM := (yX7_understand, cX7_understand, 1, (some (.object "LitCoast$Law")))
theorem tc_X7_understand : Cond.code yX7_understand cX7_understand 1 (some (.object "LitCoast$Law")) ∈ aTb := tm_2_29 (List.mem_of_getElem? (i := 5) rfl) rfl
abbrev mX7_takeClauses : aM := (yX7_takeClauses, cX7_takeClauses, 2, (some .boolean))
theorem tc_X7_takeClauses : Cond.code yX7_takeClauses cX7_takeClauses 2 (some .boolean) ∈ aTb := tm_3_13 (List.mem_of_getElem? (i := 0) rfl) rfl
abbrev mX7_takeClause : aM := (yX7_takeClause, cX7_takeClause, 1, (some .boolean))
theorem tc_X7_takeClause : Cond.code yX7_takeClause cX7_takeClause 1 (some .boolean) ∈ aTb := tm_3_13 (List.mem_of_getElem? (i := 4) rfl) rfl
abbrev mX7_takeTest : aM := (yX7_takeTest, cX7_takeTest, 4, (some .boolean))
theorem tc_X7_takeTest : Cond.code yX7_takeTest cX7_takeTest 4 (some .boolean) ∈ aTb := tm_3_17 (List.mem_of_getElem? (i := 7) rfl) rfl
abbrev mX7_takeBoth : aM := (yX7_takeBoth, cX7_takeBoth, 4, (some .boolean))
theorem tc_X7_takeBoth : Cond.code yX7_takeBoth cX7_takeBoth 4 (some .boolean) ∈ aTb := tm_3_18 (List.mem_of_getElem? (i := 3) rfl) rfl
abbrev mX7_takePlain : aM := (yX7_takePlain, cX7_takePlain, 4, (some .boolean))
theorem tc_X7_takePlain : Cond.code yX7_takePlain cX7_takePlain 4 (some .boolean) ∈ aTb := tm_3_18 (List.mem_of_getElem? (i := 7) rfl) rfl
abbrev mX7_takeBracketed : aM := (yX7_takeBracketed, cX7_takeBracketed, 2, (some .boolean))
theorem tc_X7_takeBracketed : Cond.code yX7_takeBracketed cX7_takeBracketed 2 (some .boolean) ∈ aTb := tm_3_19 (List.mem_of_getElem? (i := 3) rfl) rfl
abbrev mX7_takeComparison : aM := (yX7_takeComparison, cX7_takeComparison, 3, (some .boolean))
theorem tc_X7_takeComparison : Cond.code yX7_takeComparison cX7_takeComparison 3 (some .boolean) ∈ aTb := tm_3_19 (List.mem_of_getElem? (i := 7) rfl) rfl
abbrev mX7_takeSum : aM := (yX7_takeSum, cX7_takeSum, 4, (some .boolean))
theorem tc_X7_takeSum : Cond.code yX7_takeSum cX7_takeSum 4 (some .boolean) ∈ aTb := tm_3_15 (List.mem_of_getElem? (i := 0) rfl) rfl
abbrev mX7_takeTerm : aM := (yX7_takeTerm, cX7_takeTerm, 4, (some .boolean))
theorem tc_X7_takeTerm : Cond.code yX7_takeTerm cX7_takeTerm 4 (some .boolean) ∈ aTb := tm_3_15 (List.mem_of_getElem? (i := 4) rfl) rfl
abbrev mX7_takePart : aM := (yX7_takePart, cX7_takePart, 3, (some .boolean))
theorem tc_X7_takePart : Cond.code yX7_takePart cX7_takePart 3 (some .boolean) ∈ aTb := tm_3_16 (List.mem_of_getElem? (i := 0) rfl) rfl
abbrev mX7_takeSign : aM := (yX7_takeSign, cX7_takeSign, 2, (some .boolean))
theorem tc_X7_takeSign : Cond.code yX7_takeSign cX7_takeSign 2 (some .boolean) ∈ aTb := tm_3_16 (List.mem_of_getElem? (i := 4) rfl) rfl
abbrev mX7_fail : aM := (yX7_fail, cX7_fail, 1, (some .boolean))
theorem tc_X7_fail : Cond.code yX7_fail cX7_fail 1 (some .boolean) ∈ aTb := tm_3_14 (List.mem_of_getElem? (i := 0) rfl) rfl
abbrev mX7_step : aM := (yX7_step, cX7_step, 2, none)
theorem tc_X7_step : Cond.code yX7_step cX7_step 2 none ∈ aTb := tm_3_17 (List.mem_of_getElem? (i := 0) rfl) rfl
abbrev mX7_openSkip : aM := (yX7_openSkip, cX7_openSkip, 2, (some .int))
theorem tc_X7_openSkip : Cond.code yX7_openSkip cX7_openSkip 2 (some .int) ∈ aTb := tm_3_20 (List.mem_of_getElem? (i := 3) rfl) rfl
abbrev mX7_closeSkip : aM := (yX7_closeSkip, cX7_closeSkip, 2, none)
theorem tc_X7_closeSkip : Cond.code yX7_closeSkip cX7_closeSkip 2 none ∈ aTb := tm_3_20 (List.mem_of_getElem? (i := 7) rfl) rfl
abbrev mX7_stepOf : aM := (yX7_stepOf, cX7_stepOf, 1, (some .int))
theorem tc_X7_stepOf : Cond.code yX7_stepOf cX7_stepOf 1 (some .int) ∈ aTb := tm_3_17 (List.mem_of_getElem? (i := 3) rfl) rfl
abbrev mX7_advance : aM := (yX7_advance, cX7_advance, 1, none)
theorem tc_X7_advance : Cond.code yX7_advance cX7_advance 1 none ∈ aTb := tm_3_14 (List.mem_of_getElem? (i := 4) rfl) rfl
abbrev mX7_findTokens : aM := (yX7_findTokens, cX7_findTokens, 3, none)
theorem tc_X7_findTokens : Cond.code yX7_findTokens cX7_findTokens 3 none ∈ aTb := tm_3_0 (List.mem_of_getElem? (i := 1) rfl) rfl
abbrev mX7_skipBlanks : aM := (yX7_skipBlanks, cX7_skipBlanks, 3, (some .int))
theorem tc_X7_skipBlanks : Cond.code yX7_skipBlanks cX7_skipBlanks 3 (some .int) ∈ aTb := tm_3_0 (List.mem_of_getElem? (i := 5) rfl) rfl
abbrev mX7_stopOf : aM := (yX7_stopOf, cX7_stopOf, 5, (some .int))
theorem tc_X7_stopOf : Cond.code yX7_stopOf cX7_stopOf 5 (some .int) ∈ aTb := tm_3_1 (List.mem_of_getElem? (i := 2) rfl) rfl
abbrev mX7_kindOf : aM := (yX7_kindOf, cX7_kindOf, 4, (some .int))
theorem tc_X7_kindOf : Cond.code yX7_kindOf cX7_kindOf 4 (some .int) ∈ aTb := tm_3_2 (List.mem_of_getElem? (i := 4) rfl) rfl
abbrev mX7_numberAt : aM := (yX7_numberAt, cX7_numberAt, 5, (some .int))
theorem tc_X7_numberAt : Cond.code yX7_numberAt cX7_numberAt 5 (some .int) ∈ aTb := tm_3_12 (List.mem_of_getElem? (i := 1) rfl) rfl
abbrev mX7_isLetter : aM := (yX7_isLetter, cX7_isLetter, 1, (some .boolean))
theorem tc_X7_isLetter : Cond.code yX7_isLetter cX7_isLetter 1 (some .boolean) ∈ aTb := tm_3_1 (List.mem_of_getElem? (i := 5) rfl) rfl
abbrev mX7_isDigit : aM := (yX7_isDigit, cX7_isDigit, 1, (some .boolean))
theorem tc_X7_isDigit : Cond.code yX7_isDigit cX7_isDigit 1 (some .boolean) ∈ aTb := tm_3_2 (List.mem_of_getElem? (i := 0) rfl) rfl
abbrev mX7_wordKind : aM := (yX7_wordKind, cX7_wordKind, 3, (some .int))
theorem tc_X7_wordKind : Cond.code yX7_wordKind cX7_wordKind 3 (some .int) ∈ aTb := tm_3_3 (List.mem_of_getElem? (i := 0) rfl) rfl
abbrev mX7_partKind : aM := (yX7_partKind, cX7_partKind, 3, (some .int))
theorem tc_X7_partKind : Cond.code yX7_partKind cX7_partKind 3 (some .int) ∈ aTb := tm_3_10 (List.mem_of_getElem? (i := 5) rfl) rfl
abbrev mX8_init : aM := (yX8_init, cX8_init, 2, none)
theorem tc_X8_init : Cond.code yX8_init cX8_init 2 none ∈ aTb := tm_2_1 (List.mem_of_getElem? (i := 1) rfl) rfl
abbrev mX8_countRows : aM := (yX8_countRows, cX8_countRows, 7, (some .long))
theorem tc_X8_countRows : Cond.code yX8_countRows cX8_countRows 7 (some .long) ∈ aTb := tm_4_27 (List.mem_of_getElem? (i := 6) rfl) rfl
abbrev mX8_isMet : aM := (yX8_isMet, cX8_isMet, 4, (some .boolean))
theorem tc_X8_isMet : Cond.code yX8_isMet cX8_isMet 4 (some .boolean) ∈ aTb := tm_4_29 (List.mem_of_getElem? (i := 1) rfl) rfl
abbrev mX8_spread : aM := (yX8_spread, cX8_spread, 10, none)
theorem tc_X8_spread : Cond.code yX8_spread cX8_spread 10 none ∈ aTb := tm_4_29 (List.mem_of_getElem? (i := 5) rfl) rfl
abbrev mX9_init : aM := (yX9_init, cX9_init, 1, none)
theorem tc_X9_init : Cond.code yX9_init cX9_init 1 none ∈ aTb := tm_1_13 (List.mem_of_getElem? (i := 5) rfl) rfl
abbrev mX9_hasRoom : aM := (yX9_hasRoom, cX9_hasRoom, 1, (some .boolean))
theorem tc_X9_hasRoom : Cond.code yX9_hasRoom cX9_hasRoom 1 (some .boolean) ∈ aTb := tm_2_25 (List.mem_of_getElem? (i := 1) rfl) rfl
abbrev mX9_put : aM := (yX9_put, cX9_put, 3, none)
theorem tc_X9_put : Cond.code yX9_put cX9_put 3 none ∈ aTb := tm_2_25 (List.mem_of_getElem? (i := 5) rfl) rfl
abbrev mX9_byteAt : aM := (yX9_byteAt, cX9_byteAt, 2, (some .int))
theorem tc_X9_byteAt : Cond.code yX9_byteAt cX9_byteAt 2 (some .int) ∈ aTb := tm_2_27 (List.mem_of_getElem? (i := 2) rfl) rfl
abbrev mX9_spells : aM := (yX9_spells, cX9_spells, 5, (some .boolean))
theorem tc_X9_spells : Cond.code yX9_spells cX9_spells 5 (some .boolean) ∈ aTb := tm_3_3 (List.mem_of_getElem? (i := 5) rfl) rfl
abbrev mX10_init : aM := (yX10_init, cX10_init, 1, none)
theorem tc_X10_init : Cond.code yX10_init cX10_init 1 none ∈ aTb := tm_1_3 (List.mem_of_getElem? (i := 1) rfl) rfl
abbrev mX10_lamps : aM := (yX10_lamps, cX10_lamps, 3, (some .int))
theorem tc_X10_lamps : Cond.code yX10_lamps cX10_lamps 3 (some .int) ∈ aTb := tm_2_17 (List.mem_of_getElem? (i := 0) rfl) rfl
abbrev mX10_news : aM := (yX10_news, cX10_news, 3, (some .int))
theorem tc_X10_news : Cond.code yX10_news cX10_news 3 (some .int) ∈ aTb := tm_2_20 (List.mem_of_getElem? (i := 1) rfl) rfl
abbrev mX10_oil : aM := (yX10_oil, cX10_oil, 4, (some .int))
theorem tc_X10_oil : Cond.code yX10_oil cX10_oil 4 (some .int) ∈ aTb := tm_2_20 (List.mem_of_getElem? (i := 5) rfl) rfl
abbrev mX10_broken : aM := (yX10_broken, cX10_broken, 4, (some .int))
theorem tc_X10_broken : Cond.code yX10_broken cX10_broken 4 (some .int) ∈ aTb := tm_2_21 (List.mem_of_getElem? (i := 5) rfl) rfl
abbrev mX10_read : aM := (yX10_read, cX10_read, 4, (some .int))
theorem tc_X10_read : Cond.code yX10_read cX10_read 4 (some .int) ∈ aTb := tm_2_22 (List.mem_of_getElem? (i := 1) rfl) rfl
abbrev mX10_of : aM := (yX10_of, cX10_of, 2, (some .int))
theorem tc_X10_of : Cond.code yX10_of cX10_of 2 (some .int) ∈ aTb := tm_2_24 (List.mem_of_getElem? (i := 1) rfl) rfl
abbrev mX10_feed : aM := (yX10_feed, cX10_feed, 6, (some .int))
theorem tc_X10_feed : Cond.code yX10_feed cX10_feed 6 (some .int) ∈ aTb := tm_2_24 (List.mem_of_getElem? (i := 5) rfl) rfl
abbrev mX10_end : aM := (yX10_end, cX10_end, 2, (some .int))
theorem tc_X10_end : Cond.code yX10_end cX10_end 2 (some .int) ∈ aTb := tm_2_26 (List.mem_of_getElem? (i := 1) rfl) rfl
abbrev mX10_row : aM := (yX10_row, cX10_row, 4, (some .int))
theorem tc_X10_row : Cond.code yX10_row cX10_row 4 (some .int) ∈ aTb := tm_2_26 (List.mem_of_getElem? (i := 5) rfl) rfl
abbrev mX10_torn : aM := (yX10_torn, cX10_torn, 1, (some .int))
theorem tc_X10_torn : Cond.code yX10_torn cX10_torn 1 (some .int) ∈ aTb := tm_2_28 (List.mem_of_getElem? (i := 5) rfl) rfl
abbrev mX10_law : aM := (yX10_law, cX10_law, 3, (some .int))
theorem tc_X10_law : Cond.code yX10_law cX10_law 3 (some .int) ∈ aTb := tm_2_29 (List.mem_of_getElem? (i := 1) rfl) rfl
abbrev mX10_fault : aM := (yX10_fault, cX10_fault, 1, (some .int))
theorem tc_X10_fault : Cond.code yX10_fault cX10_fault 1 (some .int) ∈ aTb := tm_3_25 (List.mem_of_getElem? (i := 5) rfl) rfl
abbrev mX10_learn : aM := (yX10_learn, cX10_learn, 5, (some .int))
theorem tc_X10_learn : Cond.code yX10_learn cX10_learn 5 (some .int) ∈ aTb := tm_3_26 (List.mem_of_getElem? (i := 1) rfl) rfl
abbrev mX10_next : aM := (yX10_next, cX10_next, 4, (some .int))
theorem tc_X10_next : Cond.code yX10_next cX10_next 4 (some .int) ∈ aTb := tm_4_0 (List.mem_of_getElem? (i := 3) rfl) rfl
abbrev mX10_ways : aM := (yX10_ways, cX10_ways, 3, (some .int))
theorem tc_X10_ways : Cond.code yX10_ways cX10_ways 3 (some .int) ∈ aTb := tm_4_9 (List.mem_of_getElem? (i := 0) rfl) rfl
abbrev mX10_lasts : aM := (yX10_lasts, cX10_lasts, 2, (some .int))
theorem tc_X10_lasts : Cond.code yX10_lasts cX10_lasts 2 (some .int) ∈ aTb := tm_4_10 (List.mem_of_getElem? (i := 1) rfl) rfl
abbrev mX10_mean : aM := (yX10_mean, cX10_mean, 3, (some .long))
theorem tc_X10_mean : Cond.code yX10_mean cX10_mean 3 (some .long) ∈ aTb := tm_4_11 (List.mem_of_getElem? (i := 1) rfl) rfl
abbrev mX10_reached : aM := (yX10_reached, cX10_reached, 2, (some .int))
theorem tc_X10_reached : Cond.code yX10_reached cX10_reached 2 (some .int) ∈ aTb := tm_4_12 (List.mem_of_getElem? (i := 5) rfl) rfl
abbrev mX10_failing : aM := (yX10_failing, cX10_failing, 3, (some .int))
theorem tc_X10_failing : Cond.code yX10_failing cX10_failing 3 (some .int) ∈ aTb := tm_4_14 (List.mem_of_getElem? (i := 2) rfl) rfl
abbrev mX10_hurts : aM := (yX10_hurts, cX10_hurts, 2, (some .int))
theorem tc_X10_hurts : Cond.code yX10_hurts cX10_hurts 2 (some .int) ∈ aTb := tm_4_15 (List.mem_of_getElem? (i := 6) rfl) rfl
abbrev mX10_codes : aM := (yX10_codes, cX10_codes, 4, (some .int))
theorem tc_X10_codes : Cond.code yX10_codes cX10_codes 4 (some .int) ∈ aTb := tm_4_16 (List.mem_of_getElem? (i := 6) rfl) rfl
abbrev mX10_make : aM := (yX10_make, cX10_make, 4, (some .int))
theorem tc_X10_make : Cond.code yX10_make cX10_make 4 (some .int) ∈ aTb := tm_4_21 (List.mem_of_getElem? (i := 1) rfl) rfl
abbrev mX10_send : aM := (yX10_send, cX10_send, 5, (some .int))
theorem tc_X10_send : Cond.code yX10_send cX10_send 5 (some .int) ∈ aTb := tm_4_22 (List.mem_of_getElem? (i := 2) rfl) rfl
abbrev mX10_dawn : aM := (yX10_dawn, cX10_dawn, 2, (some .int))
theorem tc_X10_dawn : Cond.code yX10_dawn cX10_dawn 2 (some .int) ∈ aTb := tm_4_22 (List.mem_of_getElem? (i := 7) rfl) rfl
abbrev mX10_log : aM := (yX10_log, cX10_log, 2, (some .int))
theorem tc_X10_log : Cond.code yX10_log cX10_log 2 (some .int) ∈ aTb := tm_4_23 (List.mem_of_getElem? (i := 3) rfl) rfl
abbrev mX10_burnt : aM := (yX10_burnt, cX10_burnt, 1, (some .int))
theorem tc_X10_burnt : Cond.code yX10_burnt cX10_burnt 1 (some .int) ∈ aTb := tm_4_23 (List.mem_of_getElem? (i := 7) rfl) rfl
abbrev mX10_trail : aM := (yX10_trail, cX10_trail, 2, (some .int))
theorem tc_X10_trail : Cond.code yX10_trail cX10_trail 2 (some .int) ∈ aTb := tm_4_24 (List.mem_of_getElem? (i := 7) rfl) rfl
abbrev mX10_judge : aM := (yX10_judge, cX10_judge, 5, (some .int))
theorem tc_X10_judge : Cond.code yX10_judge cX10_judge 5 (some .int) ∈ aTb := tm_4_25 (List.mem_of_getElem? (i := 4) rfl) rfl
abbrev mX10_rows : aM := (yX10_rows, cX10_rows, 4, (some .long))
theorem tc_X10_rows : Cond.code yX10_rows cX10_rows 4 (some .long) ∈ aTb := tm_4_26 (List.mem_of_getElem? (i := 6) rfl) rfl
abbrev mX10_could : aM := (yX10_could, cX10_could, 6, (some .long))
theorem tc_X10_could : Cond.code yX10_could cX10_could 6 (some .long) ∈ aTb := tm_5_0 (List.mem_of_getElem? (i := 2) rfl) rfl
abbrev mX10_maybe : aM := (yX10_maybe, cX10_maybe, 6, (some .int))
theorem tc_X10_maybe : Cond.code yX10_maybe cX10_maybe 6 (some .int) ∈ aTb := tm_5_0 (List.mem_of_getElem? (i := 6) rfl) rfl
abbrev mX10_safe : aM := (yX10_safe, cX10_safe, 1, (some .int))
theorem tc_X10_safe : Cond.code yX10_safe cX10_safe 1 (some .int) ∈ aTb := tm_5_1 (List.mem_of_getElem? (i := 6) rfl) rfl
abbrev mX10_spy : aM := (yX10_spy, cX10_spy, 5, (some .int))
theorem tc_X10_spy : Cond.code yX10_spy cX10_spy 5 (some .int) ∈ aTb := tm_5_3 (List.mem_of_getElem? (i := 4) rfl) rfl
abbrev mX10_want : aM := (yX10_want, cX10_want, 2, (some .int))
theorem tc_X10_want : Cond.code yX10_want cX10_want 2 (some .int) ∈ aTb := tm_5_4 (List.mem_of_getElem? (i := 0) rfl) rfl
abbrev mX10_unwant : aM := (yX10_unwant, cX10_unwant, 2, (some .int))
theorem tc_X10_unwant : Cond.code yX10_unwant cX10_unwant 2 (some .int) ∈ aTb := tm_5_4 (List.mem_of_getElem? (i := 4) rfl) rfl
abbrev mX10_cheap : aM := (yX10_cheap, cX10_cheap, 2, (some .int))
theorem tc_X10_cheap : Cond.code yX10_cheap cX10_cheap 2 (some .int) ∈ aTb := tm_5_5 (List.mem_of_getElem? (i := 0) rfl) rfl
abbrev mX10_plan : aM := (yX10_plan, cX10_plan, 2, (some .int))
theorem tc_X10_plan : Cond.code yX10_plan cX10_plan 2 (some .int) ∈ aTb := tm_5_10 (List.mem_of_getElem? (i := 4) rfl) rfl
abbrev mX10_night : aM := (yX10_night, cX10_night, 4, (some .int))
theorem tc_X10_night : Cond.code yX10_night cX10_night 4 (some .int) ∈ aTb := tm_5_11 (List.mem_of_getElem? (i := 0) rfl) rfl
abbrev mX10_drawn : aM := (yX10_drawn, cX10_drawn, 2, (some .int))
theorem tc_X10_drawn : Cond.code yX10_drawn cX10_drawn 2 (some .int) ∈ aTb := tm_5_12 (List.mem_of_getElem? (i := 4) rfl) rfl
abbrev mX10_image : aM := (yX10_image, cX10_image, 3, (some .int))
theorem tc_X10_image : Cond.code yX10_image cX10_image 3 (some .int) ∈ aTb := tm_5_13 (List.mem_of_getElem? (i := 0) rfl) rfl
abbrev mX10_back : aM := (yX10_back, cX10_back, 3, (some .int))
theorem tc_X10_back : Cond.code yX10_back cX10_back 3 (some .int) ∈ aTb := tm_5_14 (List.mem_of_getElem? (i := 1) rfl) rfl
abbrev mX10_count : aM := (yX10_count, cX10_count, 2, (some .int))
theorem tc_X10_count : Cond.code yX10_count cX10_count 2 (some .int) ∈ aTb := tm_5_14 (List.mem_of_getElem? (i := 5) rfl) rfl
abbrev mX10_status : aM := (yX10_status, cX10_status, 1, (some .int))
theorem tc_X10_status : Cond.code yX10_status cX10_status 1 (some .int) ∈ aTb := tm_5_15 (List.mem_of_getElem? (i := 1) rfl) rfl
abbrev mX10_refuse : aM := (yX10_refuse, cX10_refuse, 2, (some .int))
theorem tc_X10_refuse : Cond.code yX10_refuse cX10_refuse 2 (some .int) ∈ aTb := tm_2_17 (List.mem_of_getElem? (i := 4) rfl) rfl
abbrev mX10_accept : aM := (yX10_accept, cX10_accept, 2, (some .int))
theorem tc_X10_accept : Cond.code yX10_accept cX10_accept 2 (some .int) ∈ aTb := tm_2_19 (List.mem_of_getElem? (i := 5) rfl) rfl
abbrev mX10_codeChanged : aM := (yX10_codeChanged, cX10_codeChanged, 1, none)
theorem tc_X10_codeChanged : Cond.code yX10_codeChanged cX10_codeChanged 1 none ∈ aTb := tm_2_18 (List.mem_of_getElem? (i := 5) rfl) rfl
abbrev mX10_isManner : aM := (yX10_isManner, cX10_isManner, 1, (some .boolean))
theorem tc_X10_isManner : Cond.code yX10_isManner cX10_isManner 1 (some .boolean) ∈ aTb := tm_4_0 (List.mem_of_getElem? (i := 6) rfl) rfl
abbrev mX10_isRowTo : aM := (yX10_isRowTo, cX10_isRowTo, 4, (some .boolean))
theorem tc_X10_isRowTo : Cond.code yX10_isRowTo cX10_isRowTo 4 (some .boolean) ∈ aTb := tm_4_27 (List.mem_of_getElem? (i := 2) rfl) rfl
abbrev mX10_drawNight : aM := (yX10_drawNight, cX10_drawNight, 10, none)
theorem tc_X10_drawNight : Cond.code yX10_drawNight cX10_drawNight 10 none ∈ aTb := tm_5_11 (List.mem_of_getElem? (i := 5) rfl) rfl
abbrev mX11_lies : aM := (yX11_lies, cX11_lies, 3, (some .boolean))
theorem tc_X11_lies : Cond.code yX11_lies cX11_lies 3 (some .boolean) ∈ aTb := tm_6_3 (List.mem_of_getElem? (i := 1) rfl) rfl
abbrev mX11_refuses : aM := (yX11_refuses, cX11_refuses, 2, (some .int))
theorem tc_X11_refuses : Cond.code yX11_refuses cX11_refuses 2 (some .int) ∈ aTb := tm_6_3 (List.mem_of_getElem? (i := 5) rfl) rfl
abbrev mX11_good : aM := (yX11_good, cX11_good, 2, (some .int))
theorem tc_X11_good : Cond.code yX11_good cX11_good 2 (some .int) ∈ aTb := tm_6_4 (List.mem_of_getElem? (i := 1) rfl) rfl
abbrev mX11_ones : aM := (yX11_ones, cX11_ones, 3, (some .int))
theorem tc_X11_ones : Cond.code yX11_ones cX11_ones 3 (some .int) ∈ aTb := tm_6_24 (List.mem_of_getElem? (i := 1) rfl) rfl
abbrev mX11_greater : aM := (yX11_greater, cX11_greater, 2, (some .int))
theorem tc_X11_greater : Cond.code yX11_greater cX11_greater 2 (some .int) ∈ aTb := tm_6_11 (List.mem_of_getElem? (i := 0) rfl) rfl
abbrev mX11_init : aM := (yX11_init, cX11_init, 2, none)
theorem tc_X11_init : Cond.code yX11_init cX11_init 2 none ∈ aTb := tm_5_15 (List.mem_of_getElem? (i := 6) rfl) rfl
abbrev mX11_empties : aM := (yX11_empties, cX11_empties, 2, none)
theorem tc_X11_empties : Cond.code yX11_empties cX11_empties 2 none ∈ aTb := tm_5_16 (List.mem_of_getElem? (i := 3) rfl) rfl
abbrev mX11_image : aM := (yX11_image, cX11_image, 3, (some .int))
theorem tc_X11_image : Cond.code yX11_image cX11_image 3 (some .int) ∈ aTb := tm_6_2 (List.mem_of_getElem? (i := 6) rfl) rfl
abbrev mX11_back : aM := (yX11_back, cX11_back, 3, (some .int))
theorem tc_X11_back : Cond.code yX11_back cX11_back 3 (some .int) ∈ aTb := tm_6_4 (List.mem_of_getElem? (i := 5) rfl) rfl
abbrev mX11_states : aM := (yX11_states, cX11_states, 1, (some .int))
theorem tc_X11_states : Cond.code yX11_states cX11_states 1 (some .int) ∈ aTb := tm_6_8 (List.mem_of_getElem? (i := 5) rfl) rfl
abbrev mX11_isState : aM := (yX11_isState, cX11_isState, 2, (some .boolean))
theorem tc_X11_isState : Cond.code yX11_isState cX11_isState 2 (some .boolean) ∈ aTb := tm_6_8 (List.mem_of_getElem? (i := 1) rfl) rfl
abbrev mX11_isNews : aM := (yX11_isNews, cX11_isNews, 2, (some .boolean))
theorem tc_X11_isNews : Cond.code yX11_isNews cX11_isNews 2 (some .boolean) ∈ aTb := tm_6_9 (List.mem_of_getElem? (i := 1) rfl) rfl
abbrev mX11_isLamp : aM := (yX11_isLamp, cX11_isLamp, 2, (some .boolean))
theorem tc_X11_isLamp : Cond.code yX11_isLamp cX11_isLamp 2 (some .boolean) ∈ aTb := tm_6_6 (List.mem_of_getElem? (i := 5) rfl) rfl
abbrev mX11_isManner : aM := (yX11_isManner, cX11_isManner, 1, (some .boolean))
theorem tc_X11_isManner : Cond.code yX11_isManner cX11_isManner 1 (some .boolean) ∈ aTb := tm_7_6 (List.mem_of_getElem? (i := 3) rfl) rfl
abbrev mX11_readOf : aM := (yX11_readOf, cX11_readOf, 2, (some .int))
theorem tc_X11_readOf : Cond.code yX11_readOf cX11_readOf 2 (some .int) ∈ aTb := tm_6_9 (List.mem_of_getElem? (i := 5) rfl) rfl
abbrev mX11_lamps : aM := (yX11_lamps, cX11_lamps, 4, (some .int))
theorem tc_X11_lamps : Cond.code yX11_lamps cX11_lamps 4 (some .int) ∈ aTb := tm_6_5 (List.mem_of_getElem? (i := 1) rfl) rfl
abbrev mX11_news : aM := (yX11_news, cX11_news, 3, (some .int))
theorem tc_X11_news : Cond.code yX11_news cX11_news 3 (some .int) ∈ aTb := tm_6_5 (List.mem_of_getElem? (i := 5) rfl) rfl
abbrev mX11_oil : aM := (yX11_oil, cX11_oil, 4, (some .int))
theorem tc_X11_oil : Cond.code yX11_oil cX11_oil 4 (some .int) ∈ aTb := tm_6_6 (List.mem_of_getElem? (i := 1) rfl) rfl
abbrev mX11_broken : aM := (yX11_broken, cX11_broken, 4, (some .int))
theorem tc_X11_broken : Cond.code yX11_broken cX11_broken 4 (some .int) ∈ aTb := tm_6_7 (List.mem_of_getElem? (i := 1) rfl) rfl
abbrev mX11_read : aM := (yX11_read, cX11_read, 4, (some .int))
theorem tc_X11_read : Cond.code yX11_read cX11_read 4 (some .int) ∈ aTb := tm_6_7 (List.mem_of_getElem? (i := 5) rfl) rfl
abbrev mX11_of : aM := (yX11_of, cX11_of, 2, (some .int))
theorem tc_X11_of : Cond.code yX11_of cX11_of 2 (some .int) ∈ aTb := tm_6_10 (List.mem_of_getElem? (i := 1) rfl) rfl
abbrev mX11_readMany : aM := (yX11_readMany, cX11_readMany, 3, (some .int))
theorem tc_X11_readMany : Cond.code yX11_readMany cX11_readMany 3 (some .int) ∈ aTb := tm_6_11 (List.mem_of_getElem? (i := 4) rfl) rfl
abbrev mX11_row : aM := (yX11_row, cX11_row, 3, (some .int))
theorem tc_X11_row : Cond.code yX11_row cX11_row 3 (some .int) ∈ aTb := tm_6_10 (List.mem_of_getElem? (i := 5) rfl) rfl
abbrev mX11_torn : aM := (yX11_torn, cX11_torn, 1, (some .int))
theorem tc_X11_torn : Cond.code yX11_torn cX11_torn 1 (some .int) ∈ aTb := tm_6_12 (List.mem_of_getElem? (i := 0) rfl) rfl
abbrev mX11_feed : aM := (yX11_feed, cX11_feed, 7, (some .int))
theorem tc_X11_feed : Cond.code yX11_feed cX11_feed 7 (some .int) ∈ aTb := tm_6_12 (List.mem_of_getElem? (i := 4) rfl) rfl
abbrev mX11_end : aM := (yX11_end, cX11_end, 2, (some .int))
theorem tc_X11_end : Cond.code yX11_end cX11_end 2 (some .int) ∈ aTb := tm_6_13 (List.mem_of_getElem? (i := 0) rfl) rfl
abbrev mX11_isSmall : aM := (yX11_isSmall, cX11_isSmall, 1, (some .boolean))
theorem tc_X11_isSmall : Cond.code yX11_isSmall cX11_isSmall 1 (some .boolean) ∈ aTb := tm_6_14 (List.mem_of_getElem? (i := 7) rfl) rfl
abbrev mX11_isDigit : aM := (yX11_isDigit, cX11_isDigit, 1, (some .boolean))
theorem tc_X11_isDigit : Cond.code yX11_isDigit cX11_isDigit 1 (some .boolean) ∈ aTb := tm_6_15 (List.mem_of_getElem? (i := 2) rfl) rfl
abbrev mX11_wordOf : aM := (yX11_wordOf, cX11_wordOf, 8, (some .int))
theorem tc_X11_wordOf : Cond.code yX11_wordOf cX11_wordOf 8 (some .int) ∈ aTb := tm_6_15 (List.mem_of_getElem? (i := 6) rfl) rfl
abbrev mX11_splits : aM := (yX11_splits, cX11_splits, 6, none)
theorem tc_X11_splits : Cond.code yX11_splits cX11_splits 6 none ∈ aTb := tm_6_14 (List.mem_of_getElem? (i := 4) rfl) rfl
abbrev mX11_fine : aM := (yX11_fine, cX11_fine, 1, (some .boolean))
theorem tc_X11_fine : Cond.code yX11_fine cX11_fine 1 (some .boolean) ∈ aTb := tm_6_17 (List.mem_of_getElem? (i := 7) rfl) rfl
abbrev mX11_faults : aM := (yX11_faults, cX11_faults, 1, none)
theorem tc_X11_faults : Cond.code yX11_faults cX11_faults 1 none ∈ aTb := tm_6_18 (List.mem_of_getElem? (i := 3) rfl) rfl
abbrev mX11_takes0 : aM := (yX11_takes0, cX11_takes0, 3, (some .boolean))
theorem tc_X11_takes0 : Cond.code yX11_takes0 cX11_takes0 3 (some .boolean) ∈ aTb := tm_6_17 (List.mem_of_getElem? (i := 3) rfl) rfl
abbrev mX11_must : aM := (yX11_must, cX11_must, 2, none)
theorem tc_X11_must : Cond.code yX11_must cX11_must 2 none ∈ aTb := tm_6_16 (List.mem_of_getElem? (i := 7) rfl) rfl
abbrev mX11_leaf : aM := (yX11_leaf, cX11_leaf, 1, none)
theorem tc_X11_leaf : Cond.code yX11_leaf cX11_leaf 1 none ∈ aTb := tm_6_20 (List.mem_of_getElem? (i := 6) rfl) rfl
abbrev mX11_sign : aM := (yX11_sign, cX11_sign, 1, (some .int))
theorem tc_X11_sign : Cond.code yX11_sign cX11_sign 1 (some .int) ∈ aTb := tm_6_20 (List.mem_of_getElem? (i := 2) rfl) rfl
abbrev mX11_readClause : aM := (yX11_readClause, cX11_readClause, 1, none)
theorem tc_X11_readClause : Cond.code yX11_readClause cX11_readClause 1 none ∈ aTb := tm_6_16 (List.mem_of_getElem? (i := 3) rfl) rfl
abbrev mX11_readTest : aM := (yX11_readTest, cX11_readTest, 2, none)
theorem tc_X11_readTest : Cond.code yX11_readTest cX11_readTest 2 none ∈ aTb := tm_6_21 (List.mem_of_getElem? (i := 2) rfl) rfl
abbrev mX11_readBoth : aM := (yX11_readBoth, cX11_readBoth, 2, none)
theorem tc_X11_readBoth : Cond.code yX11_readBoth cX11_readBoth 2 none ∈ aTb := tm_6_21 (List.mem_of_getElem? (i := 6) rfl) rfl
abbrev mX11_readPlain : aM := (yX11_readPlain, cX11_readPlain, 4, none)
theorem tc_X11_readPlain : Cond.code yX11_readPlain cX11_readPlain 4 none ∈ aTb := tm_6_22 (List.mem_of_getElem? (i := 2) rfl) rfl
abbrev mX11_readSum : aM := (yX11_readSum, cX11_readSum, 2, none)
theorem tc_X11_readSum : Cond.code yX11_readSum cX11_readSum 2 none ∈ aTb := tm_6_18 (List.mem_of_getElem? (i := 7) rfl) rfl
abbrev mX11_readTerm : aM := (yX11_readTerm, cX11_readTerm, 2, none)
theorem tc_X11_readTerm : Cond.code yX11_readTerm cX11_readTerm 2 none ∈ aTb := tm_6_19 (List.mem_of_getElem? (i := 3) rfl) rfl
abbrev mX11_readPart : aM := (yX11_readPart, cX11_readPart, 3, none)
theorem tc_X11_readPart : Cond.code yX11_readPart cX11_readPart 3 none ∈ aTb := tm_6_19 (List.mem_of_getElem? (i := 7) rfl) rfl
abbrev mX11_reads : aM := (yX11_reads, cX11_reads, 2, (some .boolean))
theorem tc_X11_reads : Cond.code yX11_reads cX11_reads 2 (some .boolean) ∈ aTb := tm_6_14 (List.mem_of_getElem? (i := 0) rfl) rfl
abbrev mX11_law : aM := (yX11_law, cX11_law, 3, (some .int))
theorem tc_X11_law : Cond.code yX11_law cX11_law 3 (some .int) ∈ aTb := tm_6_13 (List.mem_of_getElem? (i := 4) rfl) rfl
abbrev mX11_fault : aM := (yX11_fault, cX11_fault, 1, (some .int))
theorem tc_X11_fault : Cond.code yX11_fault cX11_fault 1 (some .int) ∈ aTb := tm_6_22 (List.mem_of_getElem? (i := 6) rfl) rfl
abbrev mX11_codeAt : aM := (yX11_codeAt, cX11_codeAt, 2, (some .int))
theorem tc_X11_codeAt : Cond.code yX11_codeAt cX11_codeAt 2 (some .int) ∈ aTb := tm_6_27 (List.mem_of_getElem? (i := 2) rfl) rfl
abbrev mX11_passes0 : aM := (yX11_passes0, cX11_passes0, 3, (some .boolean))
theorem tc_X11_passes0 : Cond.code yX11_passes0 cX11_passes0 3 (some .boolean) ∈ aTb := tm_6_26 (List.mem_of_getElem? (i := 6) rfl) rfl
abbrev mX11_bounded : aM := (yX11_bounded, cX11_bounded, 4, (some .long))
theorem tc_X11_bounded : Cond.code yX11_bounded cX11_bounded 4 (some .long) ∈ aTb := tm_6_27 (List.mem_of_getElem? (i := 6) rfl) rfl
abbrev mX11_sumOf : aM := (yX11_sumOf, cX11_sumOf, 7, (some .long))
theorem tc_X11_sumOf : Cond.code yX11_sumOf cX11_sumOf 7 (some .long) ∈ aTb := tm_6_25 (List.mem_of_getElem? (i := 2) rfl) rfl
abbrev mX11_termOf : aM := (yX11_termOf, cX11_termOf, 7, (some .long))
theorem tc_X11_termOf : Cond.code yX11_termOf cX11_termOf 7 (some .long) ∈ aTb := tm_6_25 (List.mem_of_getElem? (i := 6) rfl) rfl
abbrev mX11_partOf : aM := (yX11_partOf, cX11_partOf, 4, (some .long))
theorem tc_X11_partOf : Cond.code yX11_partOf cX11_partOf 4 (some .long) ∈ aTb := tm_6_26 (List.mem_of_getElem? (i := 2) rfl) rfl
abbrev mX11_testOf : aM := (yX11_testOf, cX11_testOf, 4, (some .boolean))
theorem tc_X11_testOf : Cond.code yX11_testOf cX11_testOf 4 (some .boolean) ∈ aTb := tm_6_28 (List.mem_of_getElem? (i := 4) rfl) rfl
abbrev mX11_bothOf : aM := (yX11_bothOf, cX11_bothOf, 4, (some .boolean))
theorem tc_X11_bothOf : Cond.code yX11_bothOf cX11_bothOf 4 (some .boolean) ∈ aTb := tm_6_29 (List.mem_of_getElem? (i := 0) rfl) rfl
abbrev mX11_plainOf : aM := (yX11_plainOf, cX11_plainOf, 3, (some .boolean))
theorem tc_X11_plainOf : Cond.code yX11_plainOf cX11_plainOf 3 (some .boolean) ∈ aTb := tm_6_29 (List.mem_of_getElem? (i := 4) rfl) rfl
abbrev mX11_positiveOf : aM := (yX11_positiveOf, cX11_positiveOf, 7, (some .boolean))
theorem tc_X11_positiveOf : Cond.code yX11_positiveOf cX11_positiveOf 7 (some .boolean) ∈ aTb := tm_7_0 (List.mem_of_getElem? (i := 0) rfl) rfl
abbrev mX11_asksOf : aM := (yX11_asksOf, cX11_asksOf, 7, none)
theorem tc_X11_asksOf : Cond.code yX11_asksOf cX11_asksOf 7 none ∈ aTb := tm_6_23 (List.mem_of_getElem? (i := 6) rfl) rfl
abbrev mX11_toldBy : aM := (yX11_toldBy, cX11_toldBy, 8, (some .int))
theorem tc_X11_toldBy : Cond.code yX11_toldBy cX11_toldBy 8 (some .int) ∈ aTb := tm_6_24 (List.mem_of_getElem? (i := 5) rfl) rfl
abbrev mX11_learn : aM := (yX11_learn, cX11_learn, 3, (some .int))
theorem tc_X11_learn : Cond.code yX11_learn cX11_learn 3 (some .int) ∈ aTb := tm_6_23 (List.mem_of_getElem? (i := 2) rfl) rfl
abbrev mX11_canCome : aM := (yX11_canCome, cX11_canCome, 4, (some .boolean))
theorem tc_X11_canCome : Cond.code yX11_canCome cX11_canCome 4 (some .boolean) ∈ aTb := tm_7_2 (List.mem_of_getElem? (i := 5) rfl) rfl
abbrev mX11_lastingOf : aM := (yX11_lastingOf, cX11_lastingOf, 7, (some .int))
theorem tc_X11_lastingOf : Cond.code yX11_lastingOf cX11_lastingOf 7 (some .int) ∈ aTb := tm_7_2 (List.mem_of_getElem? (i := 0) rfl) rfl
abbrev mX11_dark : aM := (yX11_dark, cX11_dark, 2, (some .int))
theorem tc_X11_dark : Cond.code yX11_dark cX11_dark 2 (some .int) ∈ aTb := tm_7_3 (List.mem_of_getElem? (i := 5) rfl) rfl
abbrev mX11_power : aM := (yX11_power, cX11_power, 5, (some .long))
theorem tc_X11_power : Cond.code yX11_power cX11_power 5 (some .long) ∈ aTb := tm_7_4 (List.mem_of_getElem? (i := 1) rfl) rfl
abbrev mX11_meanIn : aM := (yX11_meanIn, cX11_meanIn, 3, (some .long))
theorem tc_X11_meanIn : Cond.code yX11_meanIn cX11_meanIn 3 (some .long) ∈ aTb := tm_7_4 (List.mem_of_getElem? (i := 5) rfl) rfl
abbrev mX11_meanOf : aM := (yX11_meanOf, cX11_meanOf, 9, (some .long))
theorem tc_X11_meanOf : Cond.code yX11_meanOf cX11_meanOf 9 (some .long) ∈ aTb := tm_7_3 (List.mem_of_getElem? (i := 1) rfl) rfl
abbrev mX11_looks : aM := (yX11_looks, cX11_looks, 2, none)
theorem tc_X11_looks : Cond.code yX11_looks cX11_looks 2 none ∈ aTb := tm_7_1 (List.mem_of_getElem? (i := 0) rfl) rfl
abbrev mX11_lasts0 : aM := (yX11_lasts0, cX11_lasts0, 3, none)
theorem tc_X11_lasts0 : Cond.code yX11_lasts0 cX11_lasts0 3 none ∈ aTb := tm_7_1 (List.mem_of_getElem? (i := 4) rfl) rfl
abbrev mX11_lasts : aM := (yX11_lasts, cX11_lasts, 2, (some .int))
theorem tc_X11_lasts : Cond.code yX11_lasts cX11_lasts 2 (some .int) ∈ aTb := tm_7_0 (List.mem_of_getElem? (i := 4) rfl) rfl
abbrev mX11_gcd : aM := (yX11_gcd, cX11_gcd, 10, (some .long))
theorem tc_X11_gcd : Cond.code yX11_gcd cX11_gcd 10 (some .long) ∈ aTb := tm_7_5 (List.mem_of_getElem? (i := 4) rfl) rfl
abbrev mX11_mean : aM := (yX11_mean, cX11_mean, 7, (some .long))
theorem tc_X11_mean : Cond.code yX11_mean cX11_mean 7 (some .long) ∈ aTb := tm_7_5 (List.mem_of_getElem? (i := 1) rfl) rfl
abbrev mX11_oilOf : aM := (yX11_oilOf, cX11_oilOf, 4, (some .int))
theorem tc_X11_oilOf : Cond.code yX11_oilOf cX11_oilOf 4 (some .int) ∈ aTb := tm_7_7 (List.mem_of_getElem? (i := 7) rfl) rfl
abbrev mX11_isBetter : aM := (yX11_isBetter, cX11_isBetter, 7, (some .boolean))
theorem tc_X11_isBetter : Cond.code yX11_isBetter cX11_isBetter 7 (some .boolean) ∈ aTb := tm_7_7 (List.mem_of_getElem? (i := 3) rfl) rfl
abbrev mX11_nextOf : aM := (yX11_nextOf, cX11_nextOf, 6, (some .int))
theorem tc_X11_nextOf : Cond.code yX11_nextOf cX11_nextOf 6 (some .int) ∈ aTb := tm_7_6 (List.mem_of_getElem? (i := 7) rfl) rfl
abbrev mX11_next : aM := (yX11_next, cX11_next, 4, (some .int))
theorem tc_X11_next : Cond.code yX11_next cX11_next 4 (some .int) ∈ aTb := tm_7_6 (List.mem_of_getElem? (i := 0) rfl) rfl
abbrev mX11_ways : aM := (yX11_ways, cX11_ways, 5, (some .int))
theorem tc_X11_ways : Cond.code yX11_ways cX11_ways 5 (some .int) ∈ aTb := tm_7_8 (List.mem_of_getElem? (i := 3) rfl) rfl
abbrev mX11_reaches : aM := (yX11_reaches, cX11_reaches, 3, none)
theorem tc_X11_reaches : Cond.code yX11_reaches cX11_reaches 3 none ∈ aTb := tm_7_9 (List.mem_of_getElem? (i := 3) rfl) rfl
abbrev mX11_reached : aM := (yX11_reached, cX11_reached, 4, (some .int))
theorem tc_X11_reached : Cond.code yX11_reached cX11_reached 4 (some .int) ∈ aTb := tm_7_8 (List.mem_of_getElem? (i := 7) rfl) rfl
abbrev mX11_failing0 : aM := (yX11_failing0, cX11_failing0, 7, none)
theorem tc_X11_failing0 : Cond.code yX11_failing0 cX11_failing0 7 none ∈ aTb := tm_7_10 (List.mem_of_getElem? (i := 3) rfl) rfl
abbrev mX11_failing : aM := (yX11_failing, cX11_failing, 2, (some .int))
theorem tc_X11_failing : Cond.code yX11_failing cX11_failing 2 (some .int) ∈ aTb := tm_7_9 (List.mem_of_getElem? (i := 7) rfl) rfl
abbrev mX11_hurts : aM := (yX11_hurts, cX11_hurts, 3, (some .int))
theorem tc_X11_hurts : Cond.code yX11_hurts cX11_hurts 3 (some .int) ∈ aTb := tm_7_10 (List.mem_of_getElem? (i := 7) rfl) rfl
abbrev mX11_areCodes : aM := (yX11_areCodes, cX11_areCodes, 3, (some .boolean))
theorem tc_X11_areCodes : Cond.code yX11_areCodes cX11_areCodes 3 (some .boolean) ∈ aTb := tm_7_11 (List.mem_of_getElem? (i := 6) rfl) rfl
abbrev mX11_codes0 : aM := (yX11_codes0, cX11_codes0, 10, none)
theorem tc_X11_codes0 : Cond.code yX11_codes0 cX11_codes0 10 none ∈ aTb := tm_7_12 (List.mem_of_getElem? (i := 2) rfl) rfl
abbrev mX11_codes : aM := (yX11_codes, cX11_codes, 4, (some .int))
theorem tc_X11_codes : Cond.code yX11_codes cX11_codes 4 (some .int) ∈ aTb := tm_7_11 (List.mem_of_getElem? (i := 3) rfl) rfl
abbrev mX11_make : aM := (yX11_make, cX11_make, 5, (some .int))
theorem tc_X11_make : Cond.code yX11_make cX11_make 5 (some .int) ∈ aTb := tm_7_12 (List.mem_of_getElem? (i := 6) rfl) rfl
abbrev mX11_send : aM := (yX11_send, cX11_send, 5, (some .int))
theorem tc_X11_send : Cond.code yX11_send cX11_send 5 (some .int) ∈ aTb := tm_7_13 (List.mem_of_getElem? (i := 2) rfl) rfl
abbrev mX11_dawn : aM := (yX11_dawn, cX11_dawn, 2, (some .int))
theorem tc_X11_dawn : Cond.code yX11_dawn cX11_dawn 2 (some .int) ∈ aTb := tm_7_13 (List.mem_of_getElem? (i := 6) rfl) rfl
abbrev mX11_log : aM := (yX11_log, cX11_log, 2, (some .int))
theorem tc_X11_log : Cond.code yX11_log cX11_log 2 (some .int) ∈ aTb := tm_7_14 (List.mem_of_getElem? (i := 2) rfl) rfl
abbrev mX11_burnt : aM := (yX11_burnt, cX11_burnt, 1, (some .int))
theorem tc_X11_burnt : Cond.code yX11_burnt cX11_burnt 1 (some .int) ∈ aTb := tm_7_14 (List.mem_of_getElem? (i := 6) rfl) rfl
abbrev mX11_trail : aM := (yX11_trail, cX11_trail, 3, (some .int))
theorem tc_X11_trail : Cond.code yX11_trail cX11_trail 3 (some .int) ∈ aTb := tm_7_15 (List.mem_of_getElem? (i := 2) rfl) rfl
abbrev mX11_judge : aM := (yX11_judge, cX11_judge, 5, (some .int))
theorem tc_X11_judge : Cond.code yX11_judge cX11_judge 5 (some .int) ∈ aTb := tm_7_15 (List.mem_of_getElem? (i := 6) rfl) rfl
abbrev mX11_rowsOf : aM := (yX11_rowsOf, cX11_rowsOf, 10, (some .long))
theorem tc_X11_rowsOf : Cond.code yX11_rowsOf cX11_rowsOf 10 (some .long) ∈ aTb := tm_7_16 (List.mem_of_getElem? (i := 6) rfl) rfl
abbrev mX11_rows : aM := (yX11_rows, cX11_rows, 4, (some .long))
theorem tc_X11_rows : Cond.code yX11_rows cX11_rows 4 (some .long) ∈ aTb := tm_7_16 (List.mem_of_getElem? (i := 2) rfl) rfl
abbrev mX11_could : aM := (yX11_could, cX11_could, 6, (some .long))
theorem tc_X11_could : Cond.code yX11_could cX11_could 6 (some .long) ∈ aTb := tm_7_17 (List.mem_of_getElem? (i := 2) rfl) rfl
abbrev mX11_maybe : aM := (yX11_maybe, cX11_maybe, 5, (some .int))
theorem tc_X11_maybe : Cond.code yX11_maybe cX11_maybe 5 (some .int) ∈ aTb := tm_7_17 (List.mem_of_getElem? (i := 6) rfl) rfl
abbrev mX11_safe : aM := (yX11_safe, cX11_safe, 5, (some .int))
theorem tc_X11_safe : Cond.code yX11_safe cX11_safe 5 (some .int) ∈ aTb := tm_7_18 (List.mem_of_getElem? (i := 2) rfl) rfl
abbrev mX11_spy : aM := (yX11_spy, cX11_spy, 4, (some .int))
theorem tc_X11_spy : Cond.code yX11_spy cX11_spy 4 (some .int) ∈ aTb := tm_7_18 (List.mem_of_getElem? (i := 6) rfl) rfl
abbrev mX11_want : aM := (yX11_want, cX11_want, 2, (some .int))
theorem tc_X11_want : Cond.code yX11_want cX11_want 2 (some .int) ∈ aTb := tm_7_19 (List.mem_of_getElem? (i := 2) rfl) rfl
abbrev mX11_unwant : aM := (yX11_unwant, cX11_unwant, 2, (some .int))
theorem tc_X11_unwant : Cond.code yX11_unwant cX11_unwant 2 (some .int) ∈ aTb := tm_7_19 (List.mem_of_getElem? (i := 6) rfl) rfl
abbrev mX11_plans : aM := (yX11_plans, cX11_plans, 9, none)
theorem tc_X11_plans : Cond.code yX11_plans cX11_plans 9 none ∈ aTb := tm_7_20 (List.mem_of_getElem? (i := 6) rfl) rfl
abbrev mX11_cheap : aM := (yX11_cheap, cX11_cheap, 2, (some .int))
theorem tc_X11_cheap : Cond.code yX11_cheap cX11_cheap 2 (some .int) ∈ aTb := tm_7_20 (List.mem_of_getElem? (i := 2) rfl) rfl
abbrev mX11_plan : aM := (yX11_plan, cX11_plan, 5, (some .int))
theorem tc_X11_plan : Cond.code yX11_plan cX11_plan 5 (some .int) ∈ aTb := tm_7_21 (List.mem_of_getElem? (i := 2) rfl) rfl
abbrev mX11_night : aM := (yX11_night, cX11_night, 7, (some .int))
theorem tc_X11_night : Cond.code yX11_night cX11_night 7 (some .int) ∈ aTb := tm_7_21 (List.mem_of_getElem? (i := 6) rfl) rfl
abbrev mX11_drawn : aM := (yX11_drawn, cX11_drawn, 2, (some .int))
theorem tc_X11_drawn : Cond.code yX11_drawn cX11_drawn 2 (some .int) ∈ aTb := tm_7_22 (List.mem_of_getElem? (i := 5) rfl) rfl
abbrev mX11_count : aM := (yX11_count, cX11_count, 2, (some .int))
theorem tc_X11_count : Cond.code yX11_count cX11_count 2 (some .int) ∈ aTb := tm_7_23 (List.mem_of_getElem? (i := 1) rfl) rfl
abbrev mX11_status : aM := (yX11_status, cX11_status, 1, (some .int))
theorem tc_X11_status : Cond.code yX11_status cX11_status 1 (some .int) ∈ aTb := tm_7_23 (List.mem_of_getElem? (i := 5) rfl) rfl
abbrev mJ6_bitCount_0f7a4 : aM := (yJ6_bitCount_0f7a4, cJ6_bitCount_0f7a4, 1, (some .int))
theorem tc_J6_bitCount_0f7a4 : Cond.code yJ6_bitCount_0f7a4 cJ6_bitCount_0f7a4 1 (some .int) ∈ aTb := tm_3_27 (List.mem_of_getElem? (i := 4) rfl) rfl

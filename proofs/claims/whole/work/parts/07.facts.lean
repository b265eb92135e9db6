theorem m_X0_init : kmI yX0_init cX0_init 1 0 := ⟨qc_yX0_init, qn_yX0_init, qz_RX0, rfl, by decide, by decide, by decide +kernel⟩
theorem m_X0_size : kmV RX0 yX0_size cX0_size 1 (some .int) 0 := ⟨qc_yX0_size, qn_yX0_size, qs_yX0_size, qz_RX0, rfl, by decide, by decide, by decide +kernel⟩
theorem m_X0_record : kmV RX0 yX0_record cX0_record 2 none 1 := ⟨qc_yX0_record, qn_yX0_record, qs_yX0_record, qz_RX0, rfl, by decide, by decide, by decide +kernel⟩
theorem m_X0_restore : kmV RX0 yX0_restore cX0_restore 2 none 1 := ⟨qc_yX0_restore, qn_yX0_restore, qs_yX0_restore, qz_RX0, rfl, by decide, by decide, by decide +kernel⟩
theorem m_X1_init : kmI yX1_init cX1_init 1 0 := ⟨qc_yX1_init, qn_yX1_init, qz_RX1, rfl, by decide, by decide, by decide +kernel⟩
theorem m_X1_worthOf : kmV RX1 yX1_worthOf cX1_worthOf 3 (some .long) 2 := ⟨qc_yX1_worthOf, qn_yX1_worthOf, qs_yX1_worthOf, qz_RX1, rfl, by decide, by decide, by decide +kernel⟩
theorem m_X1_valueBefore : kmV RX1 yX1_valueBefore cX1_valueBefore 3 (some .long) 2 := ⟨qc_yX1_valueBefore, qn_yX1_valueBefore, qs_yX1_valueBefore, qz_RX1, rfl, by decide, by decide, by decide +kernel⟩
theorem m_X1_takes : kmV RX1 yX1_takes cX1_takes 4 (some .boolean) 3 := ⟨qc_yX1_takes, qn_yX1_takes, qs_yX1_takes, qz_RX1, rfl, by decide, by decide, by decide +kernel⟩
theorem m_X1_forget : kmV RX1 yX1_forget cX1_forget 1 none 0 := ⟨qc_yX1_forget, qn_yX1_forget, qs_yX1_forget, qz_RX1, rfl, by decide, by decide, by decide +kernel⟩
theorem m_X1_solve : kmV RX1 yX1_solve cX1_solve 4 none 1 := ⟨qc_yX1_solve, qn_yX1_solve, qs_yX1_solve, qz_RX1, rfl, by decide, by decide, by decide +kernel⟩
theorem m_X1_expected : kmV RX1 yX1_expected cX1_expected 9 (some .long) 2 := ⟨qc_yX1_expected, qn_yX1_expected, qs_yX1_expected, qz_RX1, rfl, by decide, by decide, by decide +kernel⟩
theorem m_X1_valueOfSkipping : kmV RX1 yX1_valueOfSkipping cX1_valueOfSkipping 11 (some .long) 2 := ⟨qc_yX1_valueOfSkipping, qn_yX1_valueOfSkipping, qs_yX1_valueOfSkipping, qz_RX1, rfl, by decide, by decide, by decide +kernel⟩
theorem m_X1_place : kmS yX1_place cX1_place 2 (some .int) 2 := ⟨qc_yX1_place, qt_yX1_place, qz_RX1, by decide, by decide, by decide +kernel⟩
theorem m_X1_binomial : kmS yX1_binomial cX1_binomial 2 (some .int) 2 := ⟨qc_yX1_binomial, qt_yX1_binomial, qz_RX1, by decide, by decide, by decide +kernel⟩
theorem m_X1_clearEnds : kmV RX1 yX1_clearEnds cX1_clearEnds 3 none 1 := ⟨qc_yX1_clearEnds, qn_yX1_clearEnds, qs_yX1_clearEnds, qz_RX1, rfl, by decide, by decide, by decide +kernel⟩
theorem m_X1_computeWorth : kmV RX1 yX1_computeWorth cX1_computeWorth 9 (some .long) 3 := ⟨qc_yX1_computeWorth, qn_yX1_computeWorth, qs_yX1_computeWorth, qz_RX1, rfl, by decide, by decide, by decide +kernel⟩
theorem m_X1_meanOfBest : kmV RX1 yX1_meanOfBest cX1_meanOfBest 10 (some .long) 2 := ⟨qc_yX1_meanOfBest, qn_yX1_meanOfBest, qs_yX1_meanOfBest, qz_RX1, rfl, by decide, by decide, by decide +kernel⟩
theorem m_X1_meanFollowed : kmV RX1 yX1_meanFollowed cX1_meanFollowed 7 (some .long) 3 := ⟨qc_yX1_meanFollowed, qn_yX1_meanFollowed, qs_yX1_meanFollowed, qz_RX1, rfl, by decide, by decide, by decide +kernel⟩
theorem m_X2_init : kmI yX2_init cX2_init 1 0 := ⟨qc_yX2_init, qn_yX2_init, qz_RX2, rfl, by decide, by decide, by decide +kernel⟩
theorem m_X2_resultOf : kmV RX2 yX2_resultOf cX2_resultOf 2 (some .int) 1 := ⟨qc_yX2_resultOf, qn_yX2_resultOf, qs_yX2_resultOf, qz_RX2, rfl, by decide, by decide, by decide +kernel⟩
theorem m_X2_runRanks : kmV RX2 yX2_runRanks cX2_runRanks 7 none 3 := ⟨qc_yX2_runRanks, qn_yX2_runRanks, qs_yX2_runRanks, qz_RX2, rfl, by decide, by decide, by decide +kernel⟩
theorem m_X2_runValues : kmV RX2 yX2_runValues cX2_runValues 11 none 3 := ⟨qc_yX2_runValues, qn_yX2_runValues, qs_yX2_runValues, qz_RX2, rfl, by decide, by decide, by decide +kernel⟩
theorem m_X2_begin : kmV RX2 yX2_begin cX2_begin 3 none 1 := ⟨qc_yX2_begin, qn_yX2_begin, qs_yX2_begin, qz_RX2, rfl, by decide, by decide, by decide +kernel⟩
theorem m_X2_draw : kmV RX2 yX2_draw cX2_draw 1 (some .int) 0 := ⟨qc_yX2_draw, qn_yX2_draw, qs_yX2_draw, qz_RX2, rfl, by decide, by decide, by decide +kernel⟩
theorem m_X2_drawRanks : kmV RX2 yX2_drawRanks cX2_drawRanks 5 none 1 := ⟨qc_yX2_drawRanks, qn_yX2_drawRanks, qs_yX2_drawRanks, qz_RX2, rfl, by decide, by decide, by decide +kernel⟩
theorem m_X2_recallSucceeds : kmV RX2 yX2_recallSucceeds cX2_recallSucceeds 2 (some .boolean) 1 := ⟨qc_yX2_recallSucceeds, qn_yX2_recallSucceeds, qs_yX2_recallSucceeds, qz_RX2, rfl, by decide, by decide, by decide +kernel⟩
theorem m_X2_drawLevel : kmV RX2 yX2_drawLevel cX2_drawLevel 5 (some .int) 1 := ⟨qc_yX2_drawLevel, qn_yX2_drawLevel, qs_yX2_drawLevel, qz_RX2, rfl, by decide, by decide, by decide +kernel⟩
theorem m_X3_init : kmI yX3_init cX3_init 1 0 := ⟨qc_yX3_init, qn_yX3_init, qz_RX3, rfl, by decide, by decide, by decide +kernel⟩
theorem m_X3_size : kmV RX3 yX3_size cX3_size 1 (some .int) 0 := ⟨qc_yX3_size, qn_yX3_size, qs_yX3_size, qz_RX3, rfl, by decide, by decide, by decide +kernel⟩
theorem m_X3_isFull : kmV RX3 yX3_isFull cX3_isFull 1 (some .boolean) 0 := ⟨qc_yX3_isFull, qn_yX3_isFull, qs_yX3_isFull, qz_RX3, rfl, by decide, by decide, by decide +kernel⟩
theorem m_X3_append : kmV RX3 yX3_append cX3_append 2 (some .int) 1 := ⟨qc_yX3_append, qn_yX3_append, qs_yX3_append, qz_RX3, rfl, by decide, by decide, by decide +kernel⟩
theorem m_X3_empty : kmV RX3 yX3_empty cX3_empty 2 (some .int) 0 := ⟨qc_yX3_empty, qn_yX3_empty, qs_yX3_empty, qz_RX3, rfl, by decide, by decide, by decide +kernel⟩
theorem m_X3_kindOfFault : kmV RX3 yX3_kindOfFault cX3_kindOfFault 1 (some .int) 0 := ⟨qc_yX3_kindOfFault, qn_yX3_kindOfFault, qs_yX3_kindOfFault, qz_RX3, rfl, by decide, by decide, by decide +kernel⟩
theorem m_X3_positionOfFault : kmV RX3 yX3_positionOfFault cX3_positionOfFault 1 (some .int) 0 := ⟨qc_yX3_positionOfFault, qn_yX3_positionOfFault, qs_yX3_positionOfFault, qz_RX3, rfl, by decide, by decide, by decide +kernel⟩
theorem m_X3_countOfItems : kmV RX3 yX3_countOfItems cX3_countOfItems 1 (some .int) 0 := ⟨qc_yX3_countOfItems, qn_yX3_countOfItems, qs_yX3_countOfItems, qz_RX3, rfl, by decide, by decide, by decide +kernel⟩
theorem m_X3_giveParameters : kmV RX3 yX3_giveParameters cX3_giveParameters 2 none 1 := ⟨qc_yX3_giveParameters, qn_yX3_giveParameters, qs_yX3_giveParameters, qz_RX3, rfl, by decide, by decide, by decide +kernel⟩
theorem m_X3_read : kmV RX3 yX3_read cX3_read 3 none 1 := ⟨qc_yX3_read, qn_yX3_read, qs_yX3_read, qz_RX3, rfl, by decide, by decide, by decide +kernel⟩
theorem m_X3_readCharacter : kmV RX3 yX3_readCharacter cX3_readCharacter 3 none 2 := ⟨qc_yX3_readCharacter, qn_yX3_readCharacter, qs_yX3_readCharacter, qz_RX3, rfl, by decide, by decide, by decide +kernel⟩
theorem m_X3_readDigit : kmV RX3 yX3_readDigit cX3_readDigit 3 none 2 := ⟨qc_yX3_readDigit, qn_yX3_readDigit, qs_yX3_readDigit, qz_RX3, rfl, by decide, by decide, by decide +kernel⟩
theorem m_X3_endNumber : kmV RX3 yX3_endNumber cX3_endNumber 2 none 0 := ⟨qc_yX3_endNumber, qn_yX3_endNumber, qs_yX3_endNumber, qz_RX3, rfl, by decide, by decide, by decide +kernel⟩
theorem m_X3_beginItem : kmV RX3 yX3_beginItem cX3_beginItem 4 none 2 := ⟨qc_yX3_beginItem, qn_yX3_beginItem, qs_yX3_beginItem, qz_RX3, rfl, by decide, by decide, by decide +kernel⟩
theorem m_X3_endItem : kmV RX3 yX3_endItem cX3_endItem 2 none 1 := ⟨qc_yX3_endItem, qn_yX3_endItem, qs_yX3_endItem, qz_RX3, rfl, by decide, by decide, by decide +kernel⟩
theorem m_X3_indexOfLetter : kmS yX3_indexOfLetter cX3_indexOfLetter 2 (some .int) 1 := ⟨qc_yX3_indexOfLetter, qt_yX3_indexOfLetter, qz_RX3, by decide, by decide, by decide +kernel⟩
theorem m_X3_endsWrongWeights : kmV RX3 yX3_endsWrongWeights cX3_endsWrongWeights 3 (some .boolean) 0 := ⟨qc_yX3_endsWrongWeights, qn_yX3_endsWrongWeights, qs_yX3_endsWrongWeights, qz_RX3, rfl, by decide, by decide, by decide +kernel⟩
theorem m_X3_clearOtherPayoffs : kmV RX3 yX3_clearOtherPayoffs cX3_clearOtherPayoffs 2 none 0 := ⟨qc_yX3_clearOtherPayoffs, qn_yX3_clearOtherPayoffs, qs_yX3_clearOtherPayoffs, qz_RX3, rfl, by decide, by decide, by decide +kernel⟩
theorem m_X3_setFault : kmV RX3 yX3_setFault cX3_setFault 3 none 2 := ⟨qc_yX3_setFault, qn_yX3_setFault, qs_yX3_setFault, qz_RX3, rfl, by decide, by decide, by decide +kernel⟩
theorem m_X4_init : kmI yX4_init cX4_init 2 1 := ⟨qc_yX4_init, qn_yX4_init, qz_RX4, rfl, by decide, by decide, by decide +kernel⟩
theorem m_X4_valueBefore : kmV RX4 yX4_valueBefore cX4_valueBefore 5 (some .long) 4 := ⟨qc_yX4_valueBefore, qn_yX4_valueBefore, qs_yX4_valueBefore, qz_RX4, rfl, by decide, by decide, by decide +kernel⟩
theorem m_X4_valueAfterRecall : kmV RX4 yX4_valueAfterRecall cX4_valueAfterRecall 4 (some .long) 3 := ⟨qc_yX4_valueAfterRecall, qn_yX4_valueAfterRecall, qs_yX4_valueAfterRecall, qz_RX4, rfl, by decide, by decide, by decide +kernel⟩
theorem m_X4_takes : kmV RX4 yX4_takes cX4_takes 7 (some .boolean) 4 := ⟨qc_yX4_takes, qn_yX4_takes, qs_yX4_takes, qz_RX4, rfl, by decide, by decide, by decide +kernel⟩
theorem m_X4_bestRecall : kmV RX4 yX4_bestRecall cX4_bestRecall 8 (some .int) 4 := ⟨qc_yX4_bestRecall, qn_yX4_bestRecall, qs_yX4_bestRecall, qz_RX4, rfl, by decide, by decide, by decide +kernel⟩
theorem m_X4_forget : kmV RX4 yX4_forget cX4_forget 1 none 0 := ⟨qc_yX4_forget, qn_yX4_forget, qs_yX4_forget, qz_RX4, rfl, by decide, by decide, by decide +kernel⟩
theorem m_X4_solve : kmV RX4 yX4_solve cX4_solve 4 none 1 := ⟨qc_yX4_solve, qn_yX4_solve, qs_yX4_solve, qz_RX4, rfl, by decide, by decide, by decide +kernel⟩
theorem m_X4_valueOfFixed : kmV RX4 yX4_valueOfFixed cX4_valueOfFixed 5 (some .long) 2 := ⟨qc_yX4_valueOfFixed, qn_yX4_valueOfFixed, qs_yX4_valueOfFixed, qz_RX4, rfl, by decide, by decide, by decide +kernel⟩
theorem m_X4_place : kmS yX4_place cX4_place 2 (some .int) 2 := ⟨qc_yX4_place, qt_yX4_place, qz_RX4, by decide, by decide, by decide +kernel⟩
theorem m_X4_placeAfter : kmS yX4_placeAfter cX4_placeAfter 3 (some .int) 3 := ⟨qc_yX4_placeAfter, qt_yX4_placeAfter, qz_RX4, by decide, by decide, by decide +kernel⟩
theorem m_X4_placeBefore : kmS yX4_placeBefore cX4_placeBefore 4 (some .int) 4 := ⟨qc_yX4_placeBefore, qt_yX4_placeBefore, qz_RX4, by decide, by decide, by decide +kernel⟩
theorem m_X4_readParameters : kmV RX4 yX4_readParameters cX4_readParameters 3 none 1 := ⟨qc_yX4_readParameters, qn_yX4_readParameters, qs_yX4_readParameters, qz_RX4, rfl, by decide, by decide, by decide +kernel⟩
theorem m_X4_solveAfters : kmV RX4 yX4_solveAfters cX4_solveAfters 6 none 2 := ⟨qc_yX4_solveAfters, qn_yX4_solveAfters, qs_yX4_solveAfters, qz_RX4, rfl, by decide, by decide, by decide +kernel⟩
theorem m_X4_solveBefores : kmV RX4 yX4_solveBefores cX4_solveBefores 7 none 2 := ⟨qc_yX4_solveBefores, qn_yX4_solveBefores, qs_yX4_solveBefores, qz_RX4, rfl, by decide, by decide, by decide +kernel⟩
theorem m_X4_recallOfAge1 : kmV RX4 yX4_recallOfAge1 cX4_recallOfAge1 8 (some .long) 3 := ⟨qc_yX4_recallOfAge1, qn_yX4_recallOfAge1, qs_yX4_recallOfAge1, qz_RX4, rfl, by decide, by decide, by decide +kernel⟩
theorem m_X4_recallOfAge2 : kmV RX4 yX4_recallOfAge2 cX4_recallOfAge2 9 (some .long) 4 := ⟨qc_yX4_recallOfAge2, qn_yX4_recallOfAge2, qs_yX4_recallOfAge2, qz_RX4, rfl, by decide, by decide, by decide +kernel⟩
theorem m_X4_meanOfBest : kmV RX4 yX4_meanOfBest cX4_meanOfBest 11 (some .long) 3 := ⟨qc_yX4_meanOfBest, qn_yX4_meanOfBest, qs_yX4_meanOfBest, qz_RX4, rfl, by decide, by decide, by decide +kernel⟩
theorem m_X4_meanOfFixed : kmV RX4 yX4_meanOfFixed cX4_meanOfFixed 12 (some .long) 3 := ⟨qc_yX4_meanOfFixed, qn_yX4_meanOfFixed, qs_yX4_meanOfFixed, qz_RX4, rfl, by decide, by decide, by decide +kernel⟩
theorem m_X5_init : kmI yX5_init cX5_init 1 0 := ⟨qc_yX5_init, qn_yX5_init, qz_RX5, rfl, by decide, by decide, by decide +kernel⟩
theorem m_X5_type : kmV RX5 yX5_type cX5_type 2 (some .int) 1 := ⟨qc_yX5_type, qn_yX5_type, qs_yX5_type, qz_RX5, rfl, by decide, by decide, by decide +kernel⟩
theorem m_X5_clearText : kmV RX5 yX5_clearText cX5_clearText 1 (some .int) 0 := ⟨qc_yX5_clearText, qn_yX5_clearText, qs_yX5_clearText, qz_RX5, rfl, by decide, by decide, by decide +kernel⟩
theorem m_X5_load : kmV RX5 yX5_load cX5_load 1 (some .int) 0 := ⟨qc_yX5_load, qn_yX5_load, qs_yX5_load, qz_RX5, rfl, by decide, by decide, by decide +kernel⟩
theorem m_X5_faultKind : kmV RX5 yX5_faultKind cX5_faultKind 1 (some .int) 0 := ⟨qc_yX5_faultKind, qn_yX5_faultKind, qs_yX5_faultKind, qz_RX5, rfl, by decide, by decide, by decide +kernel⟩
theorem m_X5_setCount : kmV RX5 yX5_setCount cX5_setCount 3 (some .int) 2 := ⟨qc_yX5_setCount, qn_yX5_setCount, qs_yX5_setCount, qz_RX5, rfl, by decide, by decide, by decide +kernel⟩
theorem m_X5_setPayoff : kmV RX5 yX5_setPayoff cX5_setPayoff 3 (some .int) 2 := ⟨qc_yX5_setPayoff, qn_yX5_setPayoff, qs_yX5_setPayoff, qz_RX5, rfl, by decide, by decide, by decide +kernel⟩
theorem m_X5_setLevel : kmV RX5 yX5_setLevel cX5_setLevel 3 (some .int) 2 := ⟨qc_yX5_setLevel, qn_yX5_setLevel, qs_yX5_setLevel, qz_RX5, rfl, by decide, by decide, by decide +kernel⟩
theorem m_X5_setRecall : kmV RX5 yX5_setRecall cX5_setRecall 3 (some .int) 2 := ⟨qc_yX5_setRecall, qn_yX5_setRecall, qs_yX5_setRecall, qz_RX5, rfl, by decide, by decide, by decide +kernel⟩
theorem m_X5_shiftWeight : kmV RX5 yX5_shiftWeight cX5_shiftWeight 4 (some .int) 3 := ⟨qc_yX5_shiftWeight, qn_yX5_shiftWeight, qs_yX5_shiftWeight, qz_RX5, rfl, by decide, by decide, by decide +kernel⟩
theorem m_X5_parameter : kmV RX5 yX5_parameter cX5_parameter 2 (some .int) 1 := ⟨qc_yX5_parameter, qn_yX5_parameter, qs_yX5_parameter, qz_RX5, rfl, by decide, by decide, by decide +kernel⟩
theorem m_X5_worth : kmV RX5 yX5_worth cX5_worth 3 (some .long) 2 := ⟨qc_yX5_worth, qn_yX5_worth, qs_yX5_worth, qz_RX5, rfl, by decide, by decide, by decide +kernel⟩
theorem m_X5_rankValue : kmV RX5 yX5_rankValue cX5_rankValue 3 (some .long) 2 := ⟨qc_yX5_rankValue, qn_yX5_rankValue, qs_yX5_rankValue, qz_RX5, rfl, by decide, by decide, by decide +kernel⟩
theorem m_X5_choosesRank : kmV RX5 yX5_choosesRank cX5_choosesRank 4 (some .int) 3 := ⟨qc_yX5_choosesRank, qn_yX5_choosesRank, qs_yX5_choosesRank, qz_RX5, rfl, by decide, by decide, by decide +kernel⟩
theorem m_X5_rankThreshold : kmV RX5 yX5_rankThreshold cX5_rankThreshold 4 (some .int) 2 := ⟨qc_yX5_rankThreshold, qn_yX5_rankThreshold, qs_yX5_rankThreshold, qz_RX5, rfl, by decide, by decide, by decide +kernel⟩
theorem m_X5_rankExpectation : kmV RX5 yX5_rankExpectation cX5_rankExpectation 2 (some .long) 1 := ⟨qc_yX5_rankExpectation, qn_yX5_rankExpectation, qs_yX5_rankExpectation, qz_RX5, rfl, by decide, by decide, by decide +kernel⟩
theorem m_X5_skipping : kmV RX5 yX5_skipping cX5_skipping 2 (some .long) 1 := ⟨qc_yX5_skipping, qn_yX5_skipping, qs_yX5_skipping, qz_RX5, rfl, by decide, by decide, by decide +kernel⟩
theorem m_X5_bestSkip : kmV RX5 yX5_bestSkip cX5_bestSkip 7 (some .int) 0 := ⟨qc_yX5_bestSkip, qn_yX5_bestSkip, qs_yX5_bestSkip, qz_RX5, rfl, by decide, by decide, by decide +kernel⟩
theorem m_X5_situation : kmV RX5 yX5_situation cX5_situation 5 (some .long) 4 := ⟨qc_yX5_situation, qn_yX5_situation, qs_yX5_situation, qz_RX5, rfl, by decide, by decide, by decide +kernel⟩
theorem m_X5_recalls : kmV RX5 yX5_recalls cX5_recalls 5 (some .int) 4 := ⟨qc_yX5_recalls, qn_yX5_recalls, qs_yX5_recalls, qz_RX5, rfl, by decide, by decide, by decide +kernel⟩
theorem m_X5_observes : kmV RX5 yX5_observes cX5_observes 5 (some .int) 4 := ⟨qc_yX5_observes, qn_yX5_observes, qs_yX5_observes, qz_RX5, rfl, by decide, by decide, by decide +kernel⟩
theorem m_X5_choosesLevel : kmV RX5 yX5_choosesLevel cX5_choosesLevel 5 (some .int) 4 := ⟨qc_yX5_choosesLevel, qn_yX5_choosesLevel, qs_yX5_choosesLevel, qz_RX5, rfl, by decide, by decide, by decide +kernel⟩
theorem m_X5_valueThreshold : kmV RX5 yX5_valueThreshold cX5_valueThreshold 7 (some .int) 3 := ⟨qc_yX5_valueThreshold, qn_yX5_valueThreshold, qs_yX5_valueThreshold, qz_RX5, rfl, by decide, by decide, by decide +kernel⟩
theorem m_X5_fixed : kmV RX5 yX5_fixed cX5_fixed 2 (some .long) 1 := ⟨qc_yX5_fixed, qn_yX5_fixed, qs_yX5_fixed, qz_RX5, rfl, by decide, by decide, by decide +kernel⟩
theorem m_X5_bestFixed : kmV RX5 yX5_bestFixed cX5_bestFixed 7 (some .int) 0 := ⟨qc_yX5_bestFixed, qn_yX5_bestFixed, qs_yX5_bestFixed, qz_RX5, rfl, by decide, by decide, by decide +kernel⟩
theorem m_X5_recallGain : kmV RX5 yX5_recallGain cX5_recallGain 5 (some .long) 0 := ⟨qc_yX5_recallGain, qn_yX5_recallGain, qs_yX5_recallGain, qz_RX5, rfl, by decide, by decide, by decide +kernel⟩
theorem m_X5_price : kmV RX5 yX5_price cX5_price 2 (some .long) 1 := ⟨qc_yX5_price, qn_yX5_price, qs_yX5_price, qz_RX5, rfl, by decide, by decide, by decide +kernel⟩
theorem m_X5_denominator : kmV RX5 yX5_denominator cX5_denominator 1 (some .long) 0 := ⟨qc_yX5_denominator, qn_yX5_denominator, qs_yX5_denominator, qz_RX5, rfl, by decide, by decide, by decide +kernel⟩
theorem m_X5_simulateRanks : kmV RX5 yX5_simulateRanks cX5_simulateRanks 3 (some .int) 2 := ⟨qc_yX5_simulateRanks, qn_yX5_simulateRanks, qs_yX5_simulateRanks, qz_RX5, rfl, by decide, by decide, by decide +kernel⟩
theorem m_X5_simulateValues : kmV RX5 yX5_simulateValues cX5_simulateValues 3 (some .int) 2 := ⟨qc_yX5_simulateValues, qn_yX5_simulateValues, qs_yX5_simulateValues, qz_RX5, rfl, by decide, by decide, by decide +kernel⟩
theorem m_X5_undo : kmV RX5 yX5_undo cX5_undo 1 (some .int) 0 := ⟨qc_yX5_undo, qn_yX5_undo, qs_yX5_undo, qz_RX5, rfl, by decide, by decide, by decide +kernel⟩
theorem m_X5_count : kmV RX5 yX5_count cX5_count 2 (some .int) 1 := ⟨qc_yX5_count, qn_yX5_count, qs_yX5_count, qz_RX5, rfl, by decide, by decide, by decide +kernel⟩
theorem m_X5_digest : kmV RX5 yX5_digest cX5_digest 6 (some .long) 0 := ⟨qc_yX5_digest, qn_yX5_digest, qs_yX5_digest, qz_RX5, rfl, by decide, by decide, by decide +kernel⟩
theorem m_X5_candidates : kmV RX5 yX5_candidates cX5_candidates 1 (some .int) 0 := ⟨qc_yX5_candidates, qn_yX5_candidates, qs_yX5_candidates, qz_RX5, rfl, by decide, by decide, by decide +kernel⟩
theorem m_X5_choices : kmV RX5 yX5_choices cX5_choices 1 (some .int) 0 := ⟨qc_yX5_choices, qn_yX5_choices, qs_yX5_choices, qz_RX5, rfl, by decide, by decide, by decide +kernel⟩
theorem m_X5_isNoCandidate : kmV RX5 yX5_isNoCandidate cX5_isNoCandidate 2 (some .boolean) 1 := ⟨qc_yX5_isNoCandidate, qn_yX5_isNoCandidate, qs_yX5_isNoCandidate, qz_RX5, rfl, by decide, by decide, by decide +kernel⟩
theorem m_X5_isNoPlace : kmV RX5 yX5_isNoPlace cX5_isNoPlace 2 (some .boolean) 1 := ⟨qc_yX5_isNoPlace, qn_yX5_isNoPlace, qs_yX5_isNoPlace, qz_RX5, rfl, by decide, by decide, by decide +kernel⟩
theorem m_X5_isNoNumberLeft : kmV RX5 yX5_isNoNumberLeft cX5_isNoNumberLeft 2 (some .boolean) 1 := ⟨qc_yX5_isNoNumberLeft, qn_yX5_isNoNumberLeft, qs_yX5_isNoNumberLeft, qz_RX5, rfl, by decide, by decide, by decide +kernel⟩
theorem m_X5_isNoChoiceLeft : kmV RX5 yX5_isNoChoiceLeft cX5_isNoChoiceLeft 2 (some .boolean) 1 := ⟨qc_yX5_isNoChoiceLeft, qn_yX5_isNoChoiceLeft, qs_yX5_isNoChoiceLeft, qz_RX5, rfl, by decide, by decide, by decide +kernel⟩
theorem m_X5_isNoSituation : kmV RX5 yX5_isNoSituation cX5_isNoSituation 5 (some .boolean) 4 := ⟨qc_yX5_isNoSituation, qn_yX5_isNoSituation, qs_yX5_isNoSituation, qz_RX5, rfl, by decide, by decide, by decide +kernel⟩
theorem m_X5_isNoLevel : kmS yX5_isNoLevel cX5_isNoLevel 1 (some .boolean) 1 := ⟨qc_yX5_isNoLevel, qt_yX5_isNoLevel, qz_RX5, by decide, by decide, by decide +kernel⟩
theorem m_X5_isNoMemory : kmS yX5_isNoMemory cX5_isNoMemory 1 (some .boolean) 1 := ⟨qc_yX5_isNoMemory, qt_yX5_isNoMemory, qz_RX5, by decide, by decide, by decide +kernel⟩
theorem m_X5_change : kmV RX5 yX5_change cX5_change 4 (some .int) 2 := ⟨qc_yX5_change, qn_yX5_change, qs_yX5_change, qz_RX5, rfl, by decide, by decide, by decide +kernel⟩
theorem m_X5_beginChange : kmV RX5 yX5_beginChange cX5_beginChange 1 none 0 := ⟨qc_yX5_beginChange, qn_yX5_beginChange, qs_yX5_beginChange, qz_RX5, rfl, by decide, by decide, by decide +kernel⟩
theorem m_X5_forgetSolutions : kmV RX5 yX5_forgetSolutions cX5_forgetSolutions 1 none 0 := ⟨qc_yX5_forgetSolutions, qn_yX5_forgetSolutions, qs_yX5_forgetSolutions, qz_RX5, rfl, by decide, by decide, by decide +kernel⟩
theorem m_X5_priceOfValues : kmV RX5 yX5_priceOfValues cX5_priceOfValues 3 (some .long) 0 := ⟨qc_yX5_priceOfValues, qn_yX5_priceOfValues, qs_yX5_priceOfValues, qz_RX5, rfl, by decide, by decide, by decide +kernel⟩
theorem m_X5_priceOfRanks : kmV RX5 yX5_priceOfRanks cX5_priceOfRanks 3 (some .long) 0 := ⟨qc_yX5_priceOfRanks, qn_yX5_priceOfRanks, qs_yX5_priceOfRanks, qz_RX5, rfl, by decide, by decide, by decide +kernel⟩
theorem m_X5_isValueOfLevel : kmV RX5 yX5_isValueOfLevel cX5_isValueOfLevel 3 (some .boolean) 1 := ⟨qc_yX5_isValueOfLevel, qn_yX5_isValueOfLevel, qs_yX5_isValueOfLevel, qz_RX5, rfl, by decide, by decide, by decide +kernel⟩
theorem m_X5_countWeightedLevels : kmV RX5 yX5_countWeightedLevels cX5_countWeightedLevels 3 (some .int) 0 := ⟨qc_yX5_countWeightedLevels, qn_yX5_countWeightedLevels, qs_yX5_countWeightedLevels, qz_RX5, rfl, by decide, by decide, by decide +kernel⟩
theorem m_X5_countQuits : kmV RX5 yX5_countQuits cX5_countQuits 4 (some .int) 0 := ⟨qc_yX5_countQuits, qn_yX5_countQuits, qs_yX5_countQuits, qz_RX5, rfl, by decide, by decide, by decide +kernel⟩
theorem m_X5_fraction : kmV RX5 yX5_fraction cX5_fraction 7 (some .long) 2 := ⟨qc_yX5_fraction, qn_yX5_fraction, qs_yX5_fraction, qz_RX5, rfl, by decide, by decide, by decide +kernel⟩
theorem m_X5_commonDivisor : kmS yX5_commonDivisor cX5_commonDivisor 11 (some .long) 2 := ⟨qc_yX5_commonDivisor, qt_yX5_commonDivisor, qz_RX5, by decide, by decide, by decide +kernel⟩
theorem m_X5_mix : kmS yX5_mix cX5_mix 4 (some .long) 2 := ⟨qc_yX5_mix, qt_yX5_mix, qz_RX5, by decide, by decide, by decide +kernel⟩
theorem m_X5_mixFraction : kmV RX5 yX5_mixFraction cX5_mixFraction 5 (some .long) 2 := ⟨qc_yX5_mixFraction, qn_yX5_mixFraction, qs_yX5_mixFraction, qz_RX5, rfl, by decide, by decide, by decide +kernel⟩
theorem m_X5_mixRankValues : kmV RX5 yX5_mixRankValues cX5_mixRankValues 6 (some .long) 1 := ⟨qc_yX5_mixRankValues, qn_yX5_mixRankValues, qs_yX5_mixRankValues, qz_RX5, rfl, by decide, by decide, by decide +kernel⟩
theorem m_X5_mixRankPolicy : kmV RX5 yX5_mixRankPolicy cX5_mixRankPolicy 7 (some .long) 1 := ⟨qc_yX5_mixRankPolicy, qn_yX5_mixRankPolicy, qs_yX5_mixRankPolicy, qz_RX5, rfl, by decide, by decide, by decide +kernel⟩
theorem m_X5_mixSituations : kmV RX5 yX5_mixSituations cX5_mixSituations 6 (some .long) 1 := ⟨qc_yX5_mixSituations, qn_yX5_mixSituations, qs_yX5_mixSituations, qz_RX5, rfl, by decide, by decide, by decide +kernel⟩
theorem m_X5_mixValuePolicy : kmV RX5 yX5_mixValuePolicy cX5_mixValuePolicy 6 (some .long) 1 := ⟨qc_yX5_mixValuePolicy, qn_yX5_mixValuePolicy, qs_yX5_mixValuePolicy, qz_RX5, rfl, by decide, by decide, by decide +kernel⟩
theorem m_X6_init : kmI yX6_init cX6_init 2 0 := ⟨qc_yX6_init, qn_yX6_init, qz_RX6, rfl, by decide, by decide, by decide +kernel⟩
theorem m_X6_in : kmS yX6_in cX6_in 3 (some .boolean) 3 := ⟨qc_yX6_in, qt_yX6_in, qz_RX6, by decide, by decide, by decide +kernel⟩
theorem m_X6_n : kmV RX6 yX6_n cX6_n 1 (some .int) 0 := ⟨qc_yX6_n, qn_yX6_n, qs_yX6_n, qz_RX6, rfl, by decide, by decide, by decide +kernel⟩
theorem m_X6_k : kmV RX6 yX6_k cX6_k 1 (some .int) 0 := ⟨qc_yX6_k, qn_yX6_k, qs_yX6_k, qz_RX6, rfl, by decide, by decide, by decide +kernel⟩
theorem m_X6_begins : kmV RX6 yX6_begins cX6_begins 2 none 0 := ⟨qc_yX6_begins, qn_yX6_begins, qs_yX6_begins, qz_RX6, rfl, by decide, by decide, by decide +kernel⟩
theorem m_X6_undo : kmV RX6 yX6_undo cX6_undo 2 (some .int) 0 := ⟨qc_yX6_undo, qn_yX6_undo, qs_yX6_undo, qz_RX6, rfl, by decide, by decide, by decide +kernel⟩
theorem m_X6_sets : kmV RX6 yX6_sets cX6_sets 4 (some .int) 2 := ⟨qc_yX6_sets, qn_yX6_sets, qs_yX6_sets, qz_RX6, rfl, by decide, by decide, by decide +kernel⟩
theorem m_X6_leastOf : kmS yX6_leastOf cX6_leastOf 1 (some .int) 1 := ⟨qc_yX6_leastOf, qt_yX6_leastOf, qz_RX6, by decide, by decide, by decide +kernel⟩
theorem m_X6_mostOf : kmS yX6_mostOf cX6_mostOf 1 (some .int) 1 := ⟨qc_yX6_mostOf, qt_yX6_mostOf, qz_RX6, by decide, by decide, by decide +kernel⟩
theorem m_X6_isRight : kmS yX6_isRight cX6_isRight 2 (some .boolean) 2 := ⟨qc_yX6_isRight, qt_yX6_isRight, qz_RX6, by decide, by decide, by decide +kernel⟩
theorem m_X6_setCount : kmV RX6 yX6_setCount cX6_setCount 3 (some .int) 2 := ⟨qc_yX6_setCount, qn_yX6_setCount, qs_yX6_setCount, qz_RX6, rfl, by decide, by decide, by decide +kernel⟩
theorem m_X6_setPayoff : kmV RX6 yX6_setPayoff cX6_setPayoff 3 (some .int) 2 := ⟨qc_yX6_setPayoff, qn_yX6_setPayoff, qs_yX6_setPayoff, qz_RX6, rfl, by decide, by decide, by decide +kernel⟩
theorem m_X6_setLevel : kmV RX6 yX6_setLevel cX6_setLevel 3 (some .int) 2 := ⟨qc_yX6_setLevel, qn_yX6_setLevel, qs_yX6_setLevel, qz_RX6, rfl, by decide, by decide, by decide +kernel⟩
theorem m_X6_setRecall : kmV RX6 yX6_setRecall cX6_setRecall 3 (some .int) 2 := ⟨qc_yX6_setRecall, qn_yX6_setRecall, qs_yX6_setRecall, qz_RX6, rfl, by decide, by decide, by decide +kernel⟩
theorem m_X6_shiftWeight : kmV RX6 yX6_shiftWeight cX6_shiftWeight 4 (some .int) 3 := ⟨qc_yX6_shiftWeight, qn_yX6_shiftWeight, qs_yX6_shiftWeight, qz_RX6, rfl, by decide, by decide, by decide +kernel⟩
theorem m_X6_parameter : kmV RX6 yX6_parameter cX6_parameter 2 (some .int) 1 := ⟨qc_yX6_parameter, qn_yX6_parameter, qs_yX6_parameter, qz_RX6, rfl, by decide, by decide, by decide +kernel⟩
theorem m_X6_type : kmV RX6 yX6_type cX6_type 2 (some .int) 1 := ⟨qc_yX6_type, qn_yX6_type, qs_yX6_type, qz_RX6, rfl, by decide, by decide, by decide +kernel⟩
theorem m_X6_clearText : kmV RX6 yX6_clearText cX6_clearText 2 (some .int) 0 := ⟨qc_yX6_clearText, qn_yX6_clearText, qs_yX6_clearText, qz_RX6, rfl, by decide, by decide, by decide +kernel⟩
theorem m_X6_here : kmV RX6 yX6_here cX6_here 1 (some .int) 0 := ⟨qc_yX6_here, qn_yX6_here, qs_yX6_here, qz_RX6, rfl, by decide, by decide, by decide +kernel⟩
theorem m_X6_skips : kmV RX6 yX6_skips cX6_skips 1 none 0 := ⟨qc_yX6_skips, qn_yX6_skips, qs_yX6_skips, qz_RX6, rfl, by decide, by decide, by decide +kernel⟩
theorem m_X6_fails : kmV RX6 yX6_fails cX6_fails 3 none 2 := ⟨qc_yX6_fails, qn_yX6_fails, qs_yX6_fails, qz_RX6, rfl, by decide, by decide, by decide +kernel⟩
theorem m_X6_placeOf : kmS yX6_placeOf cX6_placeOf 1 (some .int) 1 := ⟨qc_yX6_placeOf, qt_yX6_placeOf, qz_RX6, by decide, by decide, by decide +kernel⟩
theorem m_X6_numbersOf : kmS yX6_numbersOf cX6_numbersOf 1 (some .int) 1 := ⟨qc_yX6_numbersOf, qt_yX6_numbersOf, qz_RX6, by decide, by decide, by decide +kernel⟩
theorem m_X6_readsNumber : kmV RX6 yX6_readsNumber cX6_readsNumber 5 none 2 := ⟨qc_yX6_readsNumber, qn_yX6_readsNumber, qs_yX6_readsNumber, qz_RX6, rfl, by decide, by decide, by decide +kernel⟩
theorem m_X6_ends : kmV RX6 yX6_ends cX6_ends 6 none 2 := ⟨qc_yX6_ends, qn_yX6_ends, qs_yX6_ends, qz_RX6, rfl, by decide, by decide, by decide +kernel⟩
theorem m_X6_readsItem : kmV RX6 yX6_readsItem cX6_readsItem 3 none 0 := ⟨qc_yX6_readsItem, qn_yX6_readsItem, qs_yX6_readsItem, qz_RX6, rfl, by decide, by decide, by decide +kernel⟩
theorem m_X6_load : kmV RX6 yX6_load cX6_load 3 (some .int) 0 := ⟨qc_yX6_load, qn_yX6_load, qs_yX6_load, qz_RX6, rfl, by decide, by decide, by decide +kernel⟩
theorem m_X6_faultKind : kmV RX6 yX6_faultKind cX6_faultKind 1 (some .int) 0 := ⟨qc_yX6_faultKind, qn_yX6_faultKind, qs_yX6_faultKind, qz_RX6, rfl, by decide, by decide, by decide +kernel⟩
theorem m_X6_divisor : kmS yX6_divisor cX6_divisor 10 (some .long) 2 := ⟨qc_yX6_divisor, qt_yX6_divisor, qz_RX6, by decide, by decide, by decide +kernel⟩
theorem m_X6_told : kmV RX6 yX6_told cX6_told 7 (some .long) 2 := ⟨qc_yX6_told, qn_yX6_told, qs_yX6_told, qz_RX6, rfl, by decide, by decide, by decide +kernel⟩
theorem m_X6_denominator : kmV RX6 yX6_denominator cX6_denominator 1 (some .long) 0 := ⟨qc_yX6_denominator, qn_yX6_denominator, qs_yX6_denominator, qz_RX6, rfl, by decide, by decide, by decide +kernel⟩
theorem m_X6_choose : kmS yX6_choose cX6_choose 5 (some .long) 2 := ⟨qc_yX6_choose, qt_yX6_choose, qz_RX6, by decide, by decide, by decide +kernel⟩
theorem m_X6_worthOf : kmV RX6 yX6_worthOf cX6_worthOf 6 (some .long) 2 := ⟨qc_yX6_worthOf, qn_yX6_worthOf, qs_yX6_worthOf, qz_RX6, rfl, by decide, by decide, by decide +kernel⟩
theorem m_X6_at : kmS yX6_at cX6_at 2 (some .int) 2 := ⟨qc_yX6_at, qt_yX6_at, qz_RX6, by decide, by decide, by decide +kernel⟩
theorem m_X6_findsRanks : kmV RX6 yX6_findsRanks cX6_findsRanks 5 none 0 := ⟨qc_yX6_findsRanks, qn_yX6_findsRanks, qs_yX6_findsRanks, qz_RX6, rfl, by decide, by decide, by decide +kernel⟩
theorem m_X6_meanAt : kmV RX6 yX6_meanAt cX6_meanAt 10 (some .long) 2 := ⟨qc_yX6_meanAt, qn_yX6_meanAt, qs_yX6_meanAt, qz_RX6, rfl, by decide, by decide, by decide +kernel⟩
theorem m_X6_spotOf : kmS yX6_spotOf cX6_spotOf 4 (some .int) 4 := ⟨qc_yX6_spotOf, qt_yX6_spotOf, qz_RX6, by decide, by decide, by decide +kernel⟩
theorem m_X6_valueOf : kmV RX6 yX6_valueOf cX6_valueOf 2 (some .int) 1 := ⟨qc_yX6_valueOf, qn_yX6_valueOf, qs_yX6_valueOf, qz_RX6, rfl, by decide, by decide, by decide +kernel⟩
theorem m_X6_recallAt : kmV RX6 yX6_recallAt cX6_recallAt 11 (some .long) 5 := ⟨qc_yX6_recallAt, qn_yX6_recallAt, qs_yX6_recallAt, qz_RX6, rfl, by decide, by decide, by decide +kernel⟩
theorem m_X6_drawnAt : kmV RX6 yX6_drawnAt cX6_drawnAt 11 (some .long) 3 := ⟨qc_yX6_drawnAt, qn_yX6_drawnAt, qs_yX6_drawnAt, qz_RX6, rfl, by decide, by decide, by decide +kernel⟩
theorem m_X6_findsValues : kmV RX6 yX6_findsValues cX6_findsValues 6 none 0 := ⟨qc_yX6_findsValues, qn_yX6_findsValues, qs_yX6_findsValues, qz_RX6, rfl, by decide, by decide, by decide +kernel⟩
theorem m_X6_bestAt : kmV RX6 yX6_bestAt cX6_bestAt 10 (some .long) 4 := ⟨qc_yX6_bestAt, qn_yX6_bestAt, qs_yX6_bestAt, qz_RX6, rfl, by decide, by decide, by decide +kernel⟩
theorem m_X6_knows : kmV RX6 yX6_knows cX6_knows 1 none 0 := ⟨qc_yX6_knows, qn_yX6_knows, qs_yX6_knows, qz_RX6, rfl, by decide, by decide, by decide +kernel⟩
theorem m_X6_isCandidate : kmV RX6 yX6_isCandidate cX6_isCandidate 2 (some .boolean) 1 := ⟨qc_yX6_isCandidate, qn_yX6_isCandidate, qs_yX6_isCandidate, qz_RX6, rfl, by decide, by decide, by decide +kernel⟩
theorem m_X6_worth : kmV RX6 yX6_worth cX6_worth 3 (some .long) 2 := ⟨qc_yX6_worth, qn_yX6_worth, qs_yX6_worth, qz_RX6, rfl, by decide, by decide, by decide +kernel⟩
theorem m_X6_rankValue : kmV RX6 yX6_rankValue cX6_rankValue 3 (some .long) 2 := ⟨qc_yX6_rankValue, qn_yX6_rankValue, qs_yX6_rankValue, qz_RX6, rfl, by decide, by decide, by decide +kernel⟩
theorem m_X6_isChosen : kmV RX6 yX6_isChosen cX6_isChosen 4 (some .boolean) 3 := ⟨qc_yX6_isChosen, qn_yX6_isChosen, qs_yX6_isChosen, qz_RX6, rfl, by decide, by decide, by decide +kernel⟩
theorem m_X6_choosesRank : kmV RX6 yX6_choosesRank cX6_choosesRank 4 (some .int) 3 := ⟨qc_yX6_choosesRank, qn_yX6_choosesRank, qs_yX6_choosesRank, qz_RX6, rfl, by decide, by decide, by decide +kernel⟩
theorem m_X6_thresholdAt : kmV RX6 yX6_thresholdAt cX6_thresholdAt 4 (some .int) 2 := ⟨qc_yX6_thresholdAt, qn_yX6_thresholdAt, qs_yX6_thresholdAt, qz_RX6, rfl, by decide, by decide, by decide +kernel⟩
theorem m_X6_rankThreshold : kmV RX6 yX6_rankThreshold cX6_rankThreshold 3 (some .int) 2 := ⟨qc_yX6_rankThreshold, qn_yX6_rankThreshold, qs_yX6_rankThreshold, qz_RX6, rfl, by decide, by decide, by decide +kernel⟩
theorem m_X6_expects : kmV RX6 yX6_expects cX6_expects 9 (some .long) 1 := ⟨qc_yX6_expects, qn_yX6_expects, qs_yX6_expects, qz_RX6, rfl, by decide, by decide, by decide +kernel⟩
theorem m_X6_rankExpectation : kmV RX6 yX6_rankExpectation cX6_rankExpectation 2 (some .long) 1 := ⟨qc_yX6_rankExpectation, qn_yX6_rankExpectation, qs_yX6_rankExpectation, qz_RX6, rfl, by decide, by decide, by decide +kernel⟩
theorem m_X6_skips_ : kmV RX6 yX6_skips_ cX6_skips_ 8 (some .long) 1 := ⟨qc_yX6_skips_, qn_yX6_skips_, qs_yX6_skips_, qz_RX6, rfl, by decide, by decide, by decide +kernel⟩
theorem m_X6_skipping : kmV RX6 yX6_skipping cX6_skipping 2 (some .long) 1 := ⟨qc_yX6_skipping, qn_yX6_skipping, qs_yX6_skipping, qz_RX6, rfl, by decide, by decide, by decide +kernel⟩
theorem m_X6_bestSkip : kmV RX6 yX6_bestSkip cX6_bestSkip 3 (some .int) 0 := ⟨qc_yX6_bestSkip, qn_yX6_bestSkip, qs_yX6_bestSkip, qz_RX6, rfl, by decide, by decide, by decide +kernel⟩
theorem m_X6_isSituation : kmV RX6 yX6_isSituation cX6_isSituation 5 (some .boolean) 4 := ⟨qc_yX6_isSituation, qn_yX6_isSituation, qs_yX6_isSituation, qz_RX6, rfl, by decide, by decide, by decide +kernel⟩
theorem m_X6_situation : kmV RX6 yX6_situation cX6_situation 5 (some .long) 4 := ⟨qc_yX6_situation, qn_yX6_situation, qs_yX6_situation, qz_RX6, rfl, by decide, by decide, by decide +kernel⟩
theorem m_X6_recallOf : kmV RX6 yX6_recallOf cX6_recallOf 7 (some .int) 4 := ⟨qc_yX6_recallOf, qn_yX6_recallOf, qs_yX6_recallOf, qz_RX6, rfl, by decide, by decide, by decide +kernel⟩
theorem m_X6_recalls : kmV RX6 yX6_recalls cX6_recalls 5 (some .int) 4 := ⟨qc_yX6_recalls, qn_yX6_recalls, qs_yX6_recalls, qz_RX6, rfl, by decide, by decide, by decide +kernel⟩
theorem m_X6_observes : kmV RX6 yX6_observes cX6_observes 5 (some .int) 4 := ⟨qc_yX6_observes, qn_yX6_observes, qs_yX6_observes, qz_RX6, rfl, by decide, by decide, by decide +kernel⟩
theorem m_X6_isTaken : kmV RX6 yX6_isTaken cX6_isTaken 5 (some .boolean) 4 := ⟨qc_yX6_isTaken, qn_yX6_isTaken, qs_yX6_isTaken, qz_RX6, rfl, by decide, by decide, by decide +kernel⟩
theorem m_X6_choosesLevel : kmV RX6 yX6_choosesLevel cX6_choosesLevel 5 (some .int) 4 := ⟨qc_yX6_choosesLevel, qn_yX6_choosesLevel, qs_yX6_choosesLevel, qz_RX6, rfl, by decide, by decide, by decide +kernel⟩
theorem m_X6_leastTaken : kmV RX6 yX6_leastTaken cX6_leastTaken 7 (some .int) 3 := ⟨qc_yX6_leastTaken, qn_yX6_leastTaken, qs_yX6_leastTaken, qz_RX6, rfl, by decide, by decide, by decide +kernel⟩
theorem m_X6_valueThreshold : kmV RX6 yX6_valueThreshold cX6_valueThreshold 4 (some .int) 3 := ⟨qc_yX6_valueThreshold, qn_yX6_valueThreshold, qs_yX6_valueThreshold, qz_RX6, rfl, by decide, by decide, by decide +kernel⟩
theorem m_X6_fixedAt : kmV RX6 yX6_fixedAt cX6_fixedAt 9 (some .long) 1 := ⟨qc_yX6_fixedAt, qn_yX6_fixedAt, qs_yX6_fixedAt, qz_RX6, rfl, by decide, by decide, by decide +kernel⟩
theorem m_X6_fixed : kmV RX6 yX6_fixed cX6_fixed 2 (some .long) 1 := ⟨qc_yX6_fixed, qn_yX6_fixed, qs_yX6_fixed, qz_RX6, rfl, by decide, by decide, by decide +kernel⟩
theorem m_X6_bestFixed : kmV RX6 yX6_bestFixed cX6_bestFixed 7 (some .int) 0 := ⟨qc_yX6_bestFixed, qn_yX6_bestFixed, qs_yX6_bestFixed, qz_RX6, rfl, by decide, by decide, by decide +kernel⟩
theorem m_X6_gain : kmV RX6 yX6_gain cX6_gain 7 (some .long) 0 := ⟨qc_yX6_gain, qn_yX6_gain, qs_yX6_gain, qz_RX6, rfl, by decide, by decide, by decide +kernel⟩
theorem m_X6_recallGain : kmV RX6 yX6_recallGain cX6_recallGain 1 (some .long) 0 := ⟨qc_yX6_recallGain, qn_yX6_recallGain, qs_yX6_recallGain, qz_RX6, rfl, by decide, by decide, by decide +kernel⟩
theorem m_X6_price : kmV RX6 yX6_price cX6_price 4 (some .long) 1 := ⟨qc_yX6_price, qn_yX6_price, qs_yX6_price, qz_RX6, rfl, by decide, by decide, by decide +kernel⟩
theorem m_X6_draws : kmV RX6 yX6_draws cX6_draws 1 (some .int) 0 := ⟨qc_yX6_draws, qn_yX6_draws, qs_yX6_draws, qz_RX6, rfl, by decide, by decide, by decide +kernel⟩
theorem m_X6_drawsRanks : kmV RX6 yX6_drawsRanks cX6_drawsRanks 3 none 0 := ⟨qc_yX6_drawsRanks, qn_yX6_drawsRanks, qs_yX6_drawsRanks, qz_RX6, rfl, by decide, by decide, by decide +kernel⟩
theorem m_X6_simulateRanks : kmV RX6 yX6_simulateRanks cX6_simulateRanks 8 (some .int) 2 := ⟨qc_yX6_simulateRanks, qn_yX6_simulateRanks, qs_yX6_simulateRanks, qz_RX6, rfl, by decide, by decide, by decide +kernel⟩
theorem m_X6_drawsLevel : kmV RX6 yX6_drawsLevel cX6_drawsLevel 4 (some .int) 0 := ⟨qc_yX6_drawsLevel, qn_yX6_drawsLevel, qs_yX6_drawsLevel, qz_RX6, rfl, by decide, by decide, by decide +kernel⟩
theorem m_X6_triesRecall : kmV RX6 yX6_triesRecall cX6_triesRecall 4 none 1 := ⟨qc_yX6_triesRecall, qn_yX6_triesRecall, qs_yX6_triesRecall, qz_RX6, rfl, by decide, by decide, by decide +kernel⟩
theorem m_X6_observesNext : kmV RX6 yX6_observesNext cX6_observesNext 4 none 1 := ⟨qc_yX6_observesNext, qn_yX6_observesNext, qs_yX6_observesNext, qz_RX6, rfl, by decide, by decide, by decide +kernel⟩
theorem m_X6_simulateValues : kmV RX6 yX6_simulateValues cX6_simulateValues 5 (some .int) 2 := ⟨qc_yX6_simulateValues, qn_yX6_simulateValues, qs_yX6_simulateValues, qz_RX6, rfl, by decide, by decide, by decide +kernel⟩
theorem m_X6_weighted : kmV RX6 yX6_weighted cX6_weighted 3 (some .int) 0 := ⟨qc_yX6_weighted, qn_yX6_weighted, qs_yX6_weighted, qz_RX6, rfl, by decide, by decide, by decide +kernel⟩
theorem m_X6_quits : kmV RX6 yX6_quits cX6_quits 4 (some .int) 0 := ⟨qc_yX6_quits, qn_yX6_quits, qs_yX6_quits, qz_RX6, rfl, by decide, by decide, by decide +kernel⟩
theorem m_X6_count : kmV RX6 yX6_count cX6_count 2 (some .int) 1 := ⟨qc_yX6_count, qn_yX6_count, qs_yX6_count, qz_RX6, rfl, by decide, by decide, by decide +kernel⟩
theorem m_X6_mixes : kmV RX6 yX6_mixes cX6_mixes 3 none 1 := ⟨qc_yX6_mixes, qn_yX6_mixes, qs_yX6_mixes, qz_RX6, rfl, by decide, by decide, by decide +kernel⟩
theorem m_X6_mixesFraction : kmV RX6 yX6_mixesFraction cX6_mixesFraction 3 none 1 := ⟨qc_yX6_mixesFraction, qn_yX6_mixesFraction, qs_yX6_mixesFraction, qz_RX6, rfl, by decide, by decide, by decide +kernel⟩
theorem m_X6_mixesAll : kmV RX6 yX6_mixesAll cX6_mixesAll 3 none 0 := ⟨qc_yX6_mixesAll, qn_yX6_mixesAll, qs_yX6_mixesAll, qz_RX6, rfl, by decide, by decide, by decide +kernel⟩
theorem m_X6_digest : kmV RX6 yX6_digest cX6_digest 4 (some .long) 0 := ⟨qc_yX6_digest, qn_yX6_digest, qs_yX6_digest, qz_RX6, rfl, by decide, by decide, by decide +kernel⟩

section KR2
variable {p : Program} {l : Launch} {e : Env} {R : Room} {s : State} {m : MethodId} {args : Array Value} {below : List Frame} {meth : Method} {c : Code} {H : Heap} {locs : List Loc} {cells slots : Nat} {Q : State → Prop}
variable {cc : ByteArray} {nL : Nat} {own : String} {pc : Nat} {ls : Array Slot} {rest : List Value} {D : va_G} {tys tc : List (ClassId × FieldType)} {ws : va_W} {A : Nat → Prop}
theorem rl_addn (hx : p.tables.exec = Jvm.exec) (hb : c.code = cc) {x y : Nat} (hdg : decode cc pc = .ok (.ladd, 1)) (k : W p l e R s m args below meth c H locs cells slots Q (F0 m (pc + 1) ls (.long (lN (x + y)) :: rest))) : W p l e R s m args below meth c H locs cells slots Q (F0 m pc ls (.long (lN y) :: .long (lN x) :: rest)) :=
  lv_ladd hx hb hdg (by rw [lN_add]; exact k)
theorem rl_muln (hx : p.tables.exec = Jvm.exec) (hb : c.code = cc) {x y : Nat} (hdg : decode cc pc = .ok (.lmul, 1)) (k : W p l e R s m args below meth c H locs cells slots Q (F0 m (pc + 1) ls (.long (lN (x * y)) :: rest))) : W p l e R s m args below meth c H locs cells slots Q (F0 m pc ls (.long (lN y) :: .long (lN x) :: rest)) :=
  lv_lmul hx hb hdg (by rw [lN_mul]; exact k)
theorem rl_subn (hx : p.tables.exec = Jvm.exec) (hb : c.code = cc) {x y : Nat} (hdg : decode cc pc = .ok (.lsub, 1)) (h : y ≤ x) (k : W p l e R s m args below meth c H locs cells slots Q (F0 m (pc + 1) ls (.long (lN (x - y)) :: rest))) : W p l e R s m args below meth c H locs cells slots Q (F0 m pc ls (.long (lN y) :: .long (lN x) :: rest)) :=
  lv_lsub hx hb hdg (by rw [lN_sub h]; exact k)
theorem lN_z63 {n : Nat} (h0 : 0 < n) (h : n < 9223372036854775808) : ¬ lN n = 0 := fun q => by
  have h2 := (pk_lEQ (a := n) (b := 0) h (by decide)).mp q
  omega
theorem rl_divn (hx : p.tables.exec = Jvm.exec) (hb : c.code = cc) {x y : Nat} (hdg : decode cc pc = .ok (.ldiv, 1)) (h1 : x < 9223372036854775808) (h2 : 0 < y) (h3 : y < 9223372036854775808) (k : W p l e R s m args below meth c H locs cells slots Q (F0 m (pc + 1) ls (.long (lN (x / y)) :: rest))) : W p l e R s m args below meth c H locs cells slots Q (F0 m pc ls (.long (lN y) :: .long (lN x) :: rest)) :=
  lv_ldiv hx hb hdg (lN_z63 h2 h3) (by rw [pk_lDiv h1 h2 h3]; exact k)
theorem rl_remn (hx : p.tables.exec = Jvm.exec) (hb : c.code = cc) {x y : Nat} (hdg : decode cc pc = .ok (.lrem, 1)) (h1 : x < 9223372036854775808) (h2 : 0 < y) (h3 : y < 9223372036854775808) (k : W p l e R s m args below meth c H locs cells slots Q (F0 m (pc + 1) ls (.long (lN (x % y)) :: rest))) : W p l e R s m args below meth c H locs cells slots Q (F0 m pc ls (.long (lN y) :: .long (lN x) :: rest)) :=
  lv_lrem hx hb hdg (lN_z63 h2 h3) (by rw [pk_lRem h1 h2 h3]; exact k)
theorem rl_ltn (hx : p.tables.exec = Jvm.exec) (hb : c.code = cc) {x y : Nat} {off : Int} {tgt : Nat} (hd0 : decode cc pc = .ok (.lcmp, 1)) (hdg : decode cc (pc + 1) = .ok (.ifCond .lt off, 3)) (ht : ((pc + 1 : Nat) : Int) + off = (tgt : Int)) (h1 : x < 9223372036854775808) (h2 : y < 9223372036854775808)
    (kt : x < y → W p l e R s m args below meth c H locs cells slots Q (F0 m tgt ls rest)) (kf : y ≤ x → W p l e R s m args below meth c H locs cells slots Q (F0 m (pc + 1 + 3) ls rest)) : W p l e R s m args below meth c H locs cells slots Q (F0 m pc ls (.long (lN y) :: .long (lN x) :: rest)) :=
  rl_lt hx hb hd0 hdg ht (fun h => kt ((pk_lLT h1 h2).mp h)) (fun h => kf (Nat.not_lt.mp (fun q => h ((pk_lLT h1 h2).mpr q))))
theorem rl_len (hx : p.tables.exec = Jvm.exec) (hb : c.code = cc) {x y : Nat} {off : Int} {tgt : Nat} (hd0 : decode cc pc = .ok (.lcmp, 1)) (hdg : decode cc (pc + 1) = .ok (.ifCond .le off, 3)) (ht : ((pc + 1 : Nat) : Int) + off = (tgt : Int)) (h1 : x < 9223372036854775808) (h2 : y < 9223372036854775808)
    (kt : x ≤ y → W p l e R s m args below meth c H locs cells slots Q (F0 m tgt ls rest)) (kf : y < x → W p l e R s m args below meth c H locs cells slots Q (F0 m (pc + 1 + 3) ls rest)) : W p l e R s m args below meth c H locs cells slots Q (F0 m pc ls (.long (lN y) :: .long (lN x) :: rest)) :=
  rl_le hx hb hd0 hdg ht (fun h => kt ((pk_lLE h1 h2).mp h)) (fun h => kf (Nat.not_le.mp (fun q => h ((pk_lLE h1 h2).mpr q))))
theorem rl_gtn (hx : p.tables.exec = Jvm.exec) (hb : c.code = cc) {x y : Nat} {off : Int} {tgt : Nat} (hd0 : decode cc pc = .ok (.lcmp, 1)) (hdg : decode cc (pc + 1) = .ok (.ifCond .gt off, 3)) (ht : ((pc + 1 : Nat) : Int) + off = (tgt : Int)) (h1 : x < 9223372036854775808) (h2 : y < 9223372036854775808)
    (kt : y < x → W p l e R s m args below meth c H locs cells slots Q (F0 m tgt ls rest)) (kf : x ≤ y → W p l e R s m args below meth c H locs cells slots Q (F0 m (pc + 1 + 3) ls rest)) : W p l e R s m args below meth c H locs cells slots Q (F0 m pc ls (.long (lN y) :: .long (lN x) :: rest)) :=
  rl_gt hx hb hd0 hdg ht (fun h => kt ((pk_lLT h2 h1).mp h)) (fun h => kf (Nat.not_lt.mp (fun q => h ((pk_lLT h2 h1).mpr q))))
theorem rl_gen (hx : p.tables.exec = Jvm.exec) (hb : c.code = cc) {x y : Nat} {off : Int} {tgt : Nat} (hd0 : decode cc pc = .ok (.lcmp, 1)) (hdg : decode cc (pc + 1) = .ok (.ifCond .ge off, 3)) (ht : ((pc + 1 : Nat) : Int) + off = (tgt : Int)) (h1 : x < 9223372036854775808) (h2 : y < 9223372036854775808)
    (kt : y ≤ x → W p l e R s m args below meth c H locs cells slots Q (F0 m tgt ls rest)) (kf : x < y → W p l e R s m args below meth c H locs cells slots Q (F0 m (pc + 1 + 3) ls rest)) : W p l e R s m args below meth c H locs cells slots Q (F0 m pc ls (.long (lN y) :: .long (lN x) :: rest)) :=
  rl_ge hx hb hd0 hdg ht (fun h => kt ((pk_lLE h2 h1).mp h)) (fun h => kf (Nat.not_le.mp (fun q => h ((pk_lLE h2 h1).mpr q))))
theorem rl_eqn (hx : p.tables.exec = Jvm.exec) (hb : c.code = cc) {x y : Nat} {off : Int} {tgt : Nat} (hd0 : decode cc pc = .ok (.lcmp, 1)) (hdg : decode cc (pc + 1) = .ok (.ifCond .eq off, 3)) (ht : ((pc + 1 : Nat) : Int) + off = (tgt : Int)) (h1 : x < 9223372036854775808) (h2 : y < 9223372036854775808)
    (kt : x = y → W p l e R s m args below meth c H locs cells slots Q (F0 m tgt ls rest)) (kf : x ≠ y → W p l e R s m args below meth c H locs cells slots Q (F0 m (pc + 1 + 3) ls rest)) : W p l e R s m args below meth c H locs cells slots Q (F0 m pc ls (.long (lN y) :: .long (lN x) :: rest)) :=
  rl_eq hx hb hd0 hdg ht (fun h => kt ((pk_lEQ h1 h2).mp h)) (fun h => kf (fun q => h ((pk_lEQ h1 h2).mpr q)))
theorem rl_nen (hx : p.tables.exec = Jvm.exec) (hb : c.code = cc) {x y : Nat} {off : Int} {tgt : Nat} (hd0 : decode cc pc = .ok (.lcmp, 1)) (hdg : decode cc (pc + 1) = .ok (.ifCond .ne off, 3)) (ht : ((pc + 1 : Nat) : Int) + off = (tgt : Int)) (h1 : x < 9223372036854775808) (h2 : y < 9223372036854775808)
    (kt : x ≠ y → W p l e R s m args below meth c H locs cells slots Q (F0 m tgt ls rest)) (kf : x = y → W p l e R s m args below meth c H locs cells slots Q (F0 m (pc + 1 + 3) ls rest)) : W p l e R s m args below meth c H locs cells slots Q (F0 m pc ls (.long (lN y) :: .long (lN x) :: rest)) :=
  rl_ne hx hb hd0 hdg ht (fun h => kt (fun q => h ((pk_lEQ h1 h2).mpr q))) (fun h => kf ((pk_lEQ h1 h2).mp (Decidable.not_not.mp h)))
theorem cpy_nI (F G : Nat → Nat) (sp dp n : Nat) : va_cpy (fun j => nI (F j)) (fun j => nI (G j)) sp dp n = fun j => nI (va_cpy F G sp dp n j) := by
  funext j
  by_cases h : dp ≤ j ∧ j < dp + n
  · simp only [va_cpy, if_pos h]
  · simp only [va_cpy, if_neg h]
theorem nI_nn {n : Nat} (h : n < 2147483648) : ¬ nI n < 0 := nI_pos h
theorem r_copy (Y : kY p m c cc nL s args own) {lv : List (Nat × Value)} (hl : lv_has ls nL lv) (hK : va_K D vwCl tys s) (hP : va_P D vwCl ws H) (hD : va_D A ws) (hS : va_S A s.heap H locs) (q0 q1 t0 t1 : Nat) {a0 a n0 n1 index : Nat} {c0 c1 : ClassId} {F G : Nat → Nat} (ha0 : ws[q0]? = some (a0, .inl (c0, n0, .inl (fun j => nI (F j))))) (ha1 : ws[q1]? = some (a, .inl (c1, n1, .inl (fun j => nI (G j))))) (ht0 : tys[t0]? = some (c0, .int)) (ht1 : tys[t1]? = some (c1, .int)) {sp dp n : Nat} (hlk : Cond.methodLink own index arraycopyName ∈ AW) (hdg : decode cc pc = .ok (.invokestatic index, 3)) (hn0 : n0 < 2147483648) (hn1 : n1 < 2147483648) (h4 : sp + n ≤ n0) (h5 : dp + n ≤ n1) (hfr : 1 ≤ R.frames) (hlo : (rest.map fun v => v.category).sum + (nativeFrameWords "java/lang/System" "arraycopy" 5 + 11) ≤ R.locals)
    (kk : ∀ (H1 : Heap) (locs1 : List Loc), va_P D vwCl (ws.set q1 (a, .inl (c1, n1, .inl (fun j => nI (va_cpy F G sp dp n j))))) H1 → va_D A (ws.set q1 (a, .inl (c1, n1, .inl (fun j => nI (va_cpy F G sp dp n j))))) → va_S A s.heap H1 locs1 → W p l e R s m args below meth c H1 locs1 cells slots Q (F0 m (pc + 3) ls rest)) : W p l e R s m args below meth c H locs cells slots Q (F0 m pc ls (.int (nI n) :: .int (nI dp) :: .ref a :: .int (nI sp) :: .ref a0 :: rest)) := by
  have b1 : sp < 2147483648 := by omega
  have b2 : dp < 2147483648 := by omega
  have b3 : n < 2147483648 := by omega
  have hts := Y.2.2.2.2
  refine va_copyi Y.1 Y.2.1 (by rw [Y.2.2.1]; exact hl.1.symm) Y.2.2.2.1 (hts _ hlk) (hts _ qv_arraycopyName) (hts _ qt_arraycopyName) (hts _ qz_java_lang_System) hK hP hD hS q0 q1 t0 t1 (ty := .int) ha0 ha1 ht0 ht1 rfl (nI_nn b1) (nI_nn b2) (nI_nn b3) (by rw [nI_cl b1, nI_cl b3]; exact h4) (by rw [nI_cl b2, nI_cl b3]; exact h5) (fun i _ => rfl) hfr hlo hdg ?_
  rw [nI_cl b1, nI_cl b2, nI_cl b3, cpy_nI]
  exact kk
theorem r_getsN (Y : kY p m c cc nL s args own) {C n d ref host : String} {index : Nat} {ty : FieldType} {N : Nat} {f : Nat → Nat} (hZ : kT C n d ty N f A s s.heap) (hS : va_S A s.heap H locs) (hlink : va_Nw (.fieldLinkNest own index ref n d host) s) (hsame : ∀ x, s.fieldFound? C n d = some x → s.fieldFound? ref n d = some x) (hdg : decode cc pc = .ok (.getstatic index, 3))
    (kk : ∀ t : Nat, va_T ty t N (fun j => .int (nI (f j))) A s s.heap → W p l e R s m args below meth c H locs cells slots Q (F0 m (pc + 3) ls (.ref t :: rest))) : W p l e R s m args below meth c H locs cells slots Q (F0 m pc ls rest) := by
  obtain ⟨t, h1, h2⟩ := hZ
  exact va_getsN Y.1 Y.2.1 h1 hS Y.2.2.2.1 (va_Nw.use rfl hlink) hsame hdg (kk t h2)
end KR2
section KR3
variable {p : Program} {l : Launch} {e : Env} {R : Room} {s : State} {m : MethodId} {args : Array Value} {below : List Frame} {meth : Method} {c : Code} {H : Heap} {locs : List Loc} {cells slots : Nat} {Q : State → Prop}
variable {cc : ByteArray} {nL : Nat} {own : String} {pc : Nat} {ls : Array Slot} {rest : List Value} {D : va_G} {tys tc : List (ClassId × FieldType)} {ws : va_W} {A : Nat → Prop}
theorem updM_lN (f : Nat → Nat) (k v : Nat) : updL (fun j => lN (f j)) k (lN v) = fun j => lN (updN f k v j) := by
  funext j
  by_cases h : j = k
  · simp [updL, updN, h]
  · simp [updL, updN, h]
theorem rm_ald (hx : p.tables.exec = Jvm.exec) (hb : c.code = cc) {a : Nat} (hK : va_K D vwCl tys s) (hP : va_P D vwCl ws H) (q0 t0 : Nat) {cA : ClassId} {n : Nat} {F : Nat → Nat} (ha : ws[q0]? = some (a, .inl (cA, n, .inr (.inl (fun j => lN (F j)))))) (ht : tys[t0]? = some (cA, .long)) {i : Nat} (hdg : decode cc pc = .ok (.laload, 1)) (hN : n < 2147483648) (hin : i < n) (k : W p l e R s m args below meth c H locs cells slots Q (F0 m (pc + 1) ls (.long (lN (F i)) :: rest))) : W p l e R s m args below meth c H locs cells slots Q (F0 m pc ls (.int (nI i) :: .ref a :: rest)) :=
  rl_ald hx hb hK hP q0 t0 (F := fun j => lN (F j)) ha ht hdg hN hin k
theorem rm_ast (hx : p.tables.exec = Jvm.exec) (hb : c.code = cc) {a : Nat} (hK : va_K D vwCl tys s) (hP : va_P D vwCl ws H) (hD : va_D A ws) (hS : va_S A s.heap H locs) (q0 t0 : Nat) {cA : ClassId} {n : Nat} {F : Nat → Nat} (ha : ws[q0]? = some (a, .inl (cA, n, .inr (.inl (fun j => lN (F j)))))) (ht : tys[t0]? = some (cA, .long)) {i v : Nat} (hdg : decode cc pc = .ok (.lastore, 1)) (hN : n < 2147483648) (hin : i < n)
    (kk : ∀ (H1 : Heap) (locs1 : List Loc), va_P D vwCl (ws.set q0 (a, .inl (cA, n, .inr (.inl (fun j => lN (updN F i v j)))))) H1 → va_D A (ws.set q0 (a, .inl (cA, n, .inr (.inl (fun j => lN (updN F i v j)))))) → va_S A s.heap H1 locs1 → W p l e R s m args below meth c H1 locs1 cells slots Q (F0 m (pc + 1) ls rest)) : W p l e R s m args below meth c H locs cells slots Q (F0 m pc ls (.long (lN v) :: .int (nI i) :: .ref a :: rest)) := by
  refine rl_ast hx hb hK hP hD hS q0 t0 (F := fun j => lN (F j)) ha ht hdg hN hin ?_
  rw [updM_lN]
  exact kk
theorem lmax_n {a b : Nat} (ha : a < 9223372036854775808) (hb : b < 9223372036854775808) : (if lN b < lN a then lN a else lN b) = lN (max a b) := by
  by_cases h : b < a
  · rw [if_pos ((pk_lLT hb ha).mpr h), Nat.max_eq_left (by omega)]
  · rw [if_neg (fun q => h ((pk_lLT hb ha).mp q)), Nat.max_eq_right (by omega)]
theorem rl_topn {x : Int64} {n : Nat} (e0 : x = lN n) (k : W p l e R s m args below meth c H locs cells slots Q (F0 m pc ls (.long (lN n) :: rest))) : W p l e R s m args below meth c H locs cells slots Q (F0 m pc ls (.long x :: rest)) := by subst e0; exact k
end KR3

section KR4
variable {p : Program} {l : Launch} {e : Env} {R : Room} {s : State} {m : MethodId} {args : Array Value} {below : List Frame} {meth : Method} {c : Code} {H : Heap} {locs : List Loc} {cells slots : Nat} {Q : State → Prop}
variable {cc : ByteArray} {nL : Nat} {own : String} {pc : Nat} {ls : Array Slot} {rest : List Value} {D : va_G} {tys tc : List (ClassId × FieldType)} {ws : va_W} {A : Nat → Prop}
theorem rr_ald (hx : p.tables.exec = Jvm.exec) (hb : c.code = cc) {a : Nat} (hK : va_K D vwCl tys s) (hP : va_P D vwCl ws H) (q0 t0 : Nat) {cA : ClassId} {n : Nat} {F : Nat → Int32} (ha : ws[q0]? = some (a, .inl (cA, n, .inl F))) (ht : tys[t0]? = some (cA, .int)) {i : Nat} (hdg : decode cc pc = .ok (.iaload, 1)) (hN : n < 2147483648) (hin : i < n) (k : W p l e R s m args below meth c H locs cells slots Q (F0 m (pc + 1) ls (.int (F i) :: rest))) : W p l e R s m args below meth c H locs cells slots Q (F0 m pc ls (.int (nI i) :: .ref a :: rest)) :=
  va_iald hx hb hK hP q0 t0 ha ht (nI_in' hin hN) hdg (by rw [nI_cl (Nat.lt_trans hin hN)]; exact k)
theorem rr_ast (hx : p.tables.exec = Jvm.exec) (hb : c.code = cc) {a : Nat} (hK : va_K D vwCl tys s) (hP : va_P D vwCl ws H) (hD : va_D A ws) (hS : va_S A s.heap H locs) (q0 t0 : Nat) {cA : ClassId} {n : Nat} {F : Nat → Int32} (ha : ws[q0]? = some (a, .inl (cA, n, .inl F))) (ht : tys[t0]? = some (cA, .int)) {i : Nat} {v : Int32} (hdg : decode cc pc = .ok (.iastore, 1)) (hN : n < 2147483648) (hin : i < n)
    (kk : ∀ (H1 : Heap) (locs1 : List Loc), va_P D vwCl (ws.set q0 (a, .inl (cA, n, .inl (upd F i v)))) H1 → va_D A (ws.set q0 (a, .inl (cA, n, .inl (upd F i v)))) → va_S A s.heap H1 locs1 → W p l e R s m args below meth c H1 locs1 cells slots Q (F0 m (pc + 1) ls rest)) : W p l e R s m args below meth c H locs cells slots Q (F0 m pc ls (.int v :: .int (nI i) :: .ref a :: rest)) := by
  refine va_iast hx hb hK hP hD hS q0 t0 ha ht (nI_in' hin hN) hdg ?_
  rw [nI_cl (Nat.lt_trans hin hN)]
  exact kk
end KR4


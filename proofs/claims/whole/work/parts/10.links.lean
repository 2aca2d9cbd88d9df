theorem tw {i : Nat} {w : Cond} (h : tables_1[i]? = some w) (g : goodWord w = true) : w ∈ gw := gw_mem (List.mem_append_right _ (List.mem_of_getElem? h)) g
theorem tv {i : Nat} {w : Cond} (h : (k2_sels lw_privs)[i]? = some w) (g : goodWord w = true) : w ∈ gw := gw_mem (List.mem_append_left _ (List.mem_of_getElem? h)) g
def mX0_init : MD := (yX0_init, cX0_init, 1, none, 0, fun _ => 0)
def mX0_save : MD := (yX0_save, cX0_save, 2, none, 0, fun _ => 0)
def mX0_keep : MD := (yX0_keep, cX0_keep, 1, none, 0, fun _ => 0)
def mX0_forget : MD := (yX0_forget, cX0_forget, 1, none, 0, fun _ => 0)
def mX0_takeBack : MD := (yX0_takeBack, cX0_takeBack, 3, (some .boolean), 0, fun _ => 0)
def mX1_init : MD := (yX1_init, cX1_init, 3, none, 0, fun _ => 0)
def mX1_takeMap : MD := (yX1_takeMap, cX1_takeMap, 2, (some .int), 0, fun _ => 0)
def mX1_readKey : MD := (yX1_readKey, cX1_readKey, 5, (some .int), 0, fun _ => 0)
def mX1_writeKey : MD := (yX1_writeKey, cX1_writeKey, 7, (some .int), 0, fun _ => 0)
def mX1_staleSpans : MD := (yX1_staleSpans, cX1_staleSpans, 5, (some .int), 0, fun _ => 0)
def mX1_answerTo : MD := (yX1_answerTo, cX1_answerTo, 8, (some .int), 0, fun _ => 0)
def mX2_init : MD := (yX2_init, cX2_init, 4, none, 0, fun _ => 0)
def mX2_cutAt : MD := (yX2_cutAt, cX2_cutAt, 6, (some .int), 0, fun _ => 0)
def mX2_cutInMiddle : MD := (yX2_cutInMiddle, cX2_cutInMiddle, 4, (some .int), 0, fun _ => 0)
def mX2_joinWithNext : MD := (yX2_joinWithNext, cX2_joinWithNext, 5, (some .int), 0, fun _ => 0)
def mX3_init : MD := (yX3_init, cX3_init, 1, none, 0, fun _ => 0)
def mX3_add : MD := (yX3_add, cX3_add, 3, none, 0, fun _ => 0)
def mX3_noteAnswer : MD := (yX3_noteAnswer, cX3_noteAnswer, 5, none, 0, fun _ => 0)
def mX3_noteChange : MD := (yX3_noteChange, cX3_noteChange, 5, none, 0, fun _ => 0)
def mX3_kindOf : MD := (yX3_kindOf, cX3_kindOf, 2, (some .int), 0, fun _ => 0)
def mX3_ownerOfChange : MD := (yX3_ownerOfChange, cX3_ownerOfChange, 2, (some .int), 0, fun _ => 0)
def mX3_lowOfChange : MD := (yX3_lowOfChange, cX3_lowOfChange, 2, (some .int), 0, fun _ => 0)
def mX3_copyFrom : MD := (yX3_copyFrom, cX3_copyFrom, 3, none, 0, fun _ => 0)
def mX4_init : MD := (yX4_init, cX4_init, 1, none, 0, fun _ => 0)
def mX4_begin : MD := (yX4_begin, cX4_begin, 5, none, 0, fun _ => 0)
def mX4_goesOn : MD := (yX4_goesOn, cX4_goesOn, 1, (some .boolean), 0, fun _ => 0)
def mX4_covers : MD := (yX4_covers, cX4_covers, 2, (some .boolean), 0, fun _ => 0)
def mX4_takesTrail : MD := (yX4_takesTrail, cX4_takesTrail, 1, (some .boolean), 0, fun _ => 0)
def mX4_hasInTrail : MD := (yX4_hasInTrail, cX4_hasInTrail, 3, (some .boolean), 0, fun _ => 0)
def mX4_refusesWrite : MD := (yX4_refusesWrite, cX4_refusesWrite, 2, (some .boolean), 0, fun _ => 0)
def mX4_noteWrite : MD := (yX4_noteWrite, cX4_noteWrite, 2, none, 0, fun _ => 0)
def mX4_dropFromTrail : MD := (yX4_dropFromTrail, cX4_dropFromTrail, 2, none, 0, fun _ => 0)
def mX4_countDown : MD := (yX4_countDown, cX4_countDown, 1, (some .boolean), 0, fun _ => 0)
def mX4_breakBy : MD := (yX4_breakBy, cX4_breakBy, 2, none, 0, fun _ => 0)
def mX4_copyFrom : MD := (yX4_copyFrom, cX4_copyFrom, 2, none, 0, fun _ => 0)
def mX5_init : MD := (yX5_init, cX5_init, 3, none, 0, fun _ => 0)
def mX5_begin : MD := (yX5_begin, cX5_begin, 6, (some .int), 0, fun _ => 0)
def mX5_takeSteps : MD := (yX5_takeSteps, cX5_takeSteps, 5, (some .int), 0, fun _ => 0)
def mX5_takeOne : MD := (yX5_takeOne, cX5_takeOne, 5, none, 0, fun _ => 0)
def mX5_goFurther : MD := (yX5_goFurther, cX5_goFurther, 3, none, 0, fun _ => 0)
def mX5_copySome : MD := (yX5_copySome, cX5_copySome, 6, (some .int), 0, fun _ => 0)
def mX5_catchUpSome : MD := (yX5_catchUpSome, cX5_catchUpSome, 5, none, 0, fun _ => 0)
def mX5_cleanSome : MD := (yX5_cleanSome, cX5_cleanSome, 5, (some .int), 0, fun _ => 0)
def mX5_switchOwner : MD := (yX5_switchOwner, cX5_switchOwner, 4, none, 0, fun _ => 0)
def mX5_endAs : MD := (yX5_endAs, cX5_endAs, 3, none, 0, fun _ => 0)
def mX5_tellToFail : MD := (yX5_tellToFail, cX5_tellToFail, 3, (some .boolean), 0, fun _ => 0)
def mX5_takeDown : MD := (yX5_takeDown, cX5_takeDown, 5, (some .int), 0, fun _ => 0)
def mX5_mend : MD := (yX5_mend, cX5_mend, 3, (some .int), 0, fun _ => 0)
def mX5_giveUp : MD := (yX5_giveUp, cX5_giveUp, 2, (some .boolean), 0, fun _ => 0)
def mX5_turnBack : MD := (yX5_turnBack, cX5_turnBack, 2, none, 0, fun _ => 0)
def mX5_stepsLeft : MD := (yX5_stepsLeft, cX5_stepsLeft, 5, (some .int), 0, fun _ => 0)
def mX6_init : MD := (yX6_init, cX6_init, 1, none, 0, fun _ => 0)
def mX6_take : MD := (yX6_take, cX6_take, 3, none, 0, fun _ => 0)
def mX6_weightOf : MD := (yX6_weightOf, cX6_weightOf, 2, (some .int), 0, fun _ => 0)
def mX6_middleIn : MD := (yX6_middleIn, cX6_middleIn, 7, (some .int), 0, fun _ => 0)
def mX6_isUp : MD := (yX6_isUp, cX6_isUp, 2, (some .boolean), 0, fun _ => 0)
def mX6_heaviest : MD := (yX6_heaviest, cX6_heaviest, 4, (some .int), 0, fun _ => 0)
def mX6_lightest : MD := (yX6_lightest, cX6_lightest, 4, (some .int), 0, fun _ => 0)
def mX6_gap : MD := (yX6_gap, cX6_gap, 4, (some .int), 0, fun _ => 0)
def mX6_decide : MD := (yX6_decide, cX6_decide, 3, none, 0, fun _ => 0)
def mX6_bestToMove : MD := (yX6_bestToMove, cX6_bestToMove, 8, (some .int), 0, fun _ => 0)
def mX6_bestToSplit : MD := (yX6_bestToSplit, cX6_bestToSplit, 5, (some .int), 0, fun _ => 0)
def mX6_heaviestFree : MD := (yX6_heaviestFree, cX6_heaviestFree, 4, (some .int), 0, fun _ => 0)
def mX6_handTo : MD := (yX6_handTo, cX6_handTo, 4, none, 0, fun _ => 0)
def mX6_carryOut : MD := (yX6_carryOut, cX6_carryOut, 1, none, 0, fun _ => 0)
def mX6_cut : MD := (yX6_cut, cX6_cut, 4, none, 0, fun _ => 0)
def mX7_init : MD := (yX7_init, cX7_init, 1, none, 0, fun _ => 0)
def mX7_addFour : MD := (yX7_addFour, cX7_addFour, 3, none, 0, fun _ => 0)
def mX7_numberOf : MD := (yX7_numberOf, cX7_numberOf, 3, (some .int), 0, fun _ => 0)
def mX7_parse : MD := (yX7_parse, cX7_parse, 2, none, 0, fun _ => 0)
def mX7_parseClause : MD := (yX7_parseClause, cX7_parseClause, 4, none, 0, fun _ => 0)
def mX7_parseNumber : MD := (yX7_parseNumber, cX7_parseNumber, 4, none, 0, fun _ => 0)
def mX7_parseClauseEnd : MD := (yX7_parseClauseEnd, cX7_parseClauseEnd, 2, none, 0, fun _ => 0)
def mX7_verbOf : MD := (yX7_verbOf, cX7_verbOf, 8, (some .int), 0, fun _ => 0)
def mX7_skipBlanks : MD := (yX7_skipBlanks, cX7_skipBlanks, 1, none, 0, fun _ => 0)
def mX7_tell : MD := (yX7_tell, cX7_tell, 3, none, 0, fun _ => 0)
def mX8_init : MD := (yX8_init, cX8_init, 1, none, 0, fun _ => 0)
def mX8_has : MD := (yX8_has, cX8_has, 2, (some .boolean), 0, fun _ => 0)
def mX8_endOf : MD := (yX8_endOf, cX8_endOf, 2, (some .int), 0, fun _ => 0)
def mX8_indexOf : MD := (yX8_indexOf, cX8_indexOf, 3, (some .int), 0, fun _ => 0)
def mX8_indexOfLow : MD := (yX8_indexOfLow, cX8_indexOfLow, 3, (some .int), 0, fun _ => 0)
def mX8_ownedBy : MD := (yX8_ownedBy, cX8_ownedBy, 4, (some .int), 0, fun _ => 0)
def mX8_put : MD := (yX8_put, cX8_put, 4, none, 0, fun _ => 0)
def mX8_insertBehind : MD := (yX8_insertBehind, cX8_insertBehind, 3, none, 0, fun _ => 0)
def mX8_removeBehind : MD := (yX8_removeBehind, cX8_removeBehind, 3, none, 0, fun _ => 0)
def mX8_copyRow : MD := (yX8_copyRow, cX8_copyRow, 3, none, 0, fun _ => 0)
def mX8_copyFrom : MD := (yX8_copyFrom, cX8_copyFrom, 2, none, 0, fun _ => 0)
def mX9_init : MD := (yX9_init, cX9_init, 2, none, 0, fun _ => 0)
def mX9_copyFrom : MD := (yX9_copyFrom, cX9_copyFrom, 3, none, 0, fun _ => 0)
def mX9_isUp : MD := (yX9_isUp, cX9_isUp, 2, (some .boolean), 0, fun _ => 0)
def mX9_bringUp : MD := (yX9_bringUp, cX9_bringUp, 2, (some .boolean), 0, fun _ => 0)
def mX9_valueOf : MD := (yX9_valueOf, cX9_valueOf, 3, (some .int), 0, fun _ => 0)
def mX9_putValue : MD := (yX9_putValue, cX9_putValue, 4, none, 0, fun _ => 0)
def mX9_loseValues : MD := (yX9_loseValues, cX9_loseValues, 5, none, 0, fun _ => 0)
def mX9_valuesIn : MD := (yX9_valuesIn, cX9_valuesIn, 6, (some .int), 0, fun _ => 0)
def mX9_valuesAtOwners : MD := (yX9_valuesAtOwners, cX9_valuesAtOwners, 3, (some .int), 0, fun _ => 0)
def mX9_isSound : MD := (yX9_isSound, cX9_isSound, 5, (some .boolean), 0, fun _ => 0)
def mX9_hasMove : MD := (yX9_hasMove, cX9_hasMove, 2, (some .boolean), 0, fun _ => 0)
def mX9_moveAt : MD := (yX9_moveAt, cX9_moveAt, 3, (some .int), 0, fun _ => 0)
def mX9_isFrozen : MD := (yX9_isFrozen, cX9_isFrozen, 3, (some .boolean), 0, fun _ => 0)
def mX9_spansFrozen : MD := (yX9_spansFrozen, cX9_spansFrozen, 3, (some .int), 0, fun _ => 0)
def mX9_canStep : MD := (yX9_canStep, cX9_canStep, 2, (some .boolean), 0, fun _ => 0)
def mX9_bothUp : MD := (yX9_bothUp, cX9_bothUp, 2, (some .boolean), 0, fun _ => 0)
def mX9_movesFrom : MD := (yX9_movesFrom, cX9_movesFrom, 4, (some .int), 0, fun _ => 0)
def mX9_movesTo : MD := (yX9_movesTo, cX9_movesTo, 4, (some .int), 0, fun _ => 0)
def mX9_movesGoingOn : MD := (yX9_movesGoingOn, cX9_movesGoingOn, 3, (some .int), 0, fun _ => 0)
def mX9_movesBroken : MD := (yX9_movesBroken, cX9_movesBroken, 3, (some .int), 0, fun _ => 0)
def mX9_tellChunk : MD := (yX9_tellChunk, cX9_tellChunk, 2, (some .boolean), 0, fun _ => 0)
def mX9_passedOn : MD := (yX9_passedOn, cX9_passedOn, 5, (some .int), 0, fun _ => 0)
def mX9_ownerAt : MD := (yX9_ownerAt, cX9_ownerAt, 6, (some .int), 0, fun _ => 0)
def mX9_halveWeights : MD := (yX9_halveWeights, cX9_halveWeights, 4, (some .long), 0, fun _ => 0)
def mX9_keysAbove : MD := (yX9_keysAbove, cX9_keysAbove, 4, (some .int), 0, fun _ => 0)
def mX9_greatestWeight : MD := (yX9_greatestWeight, cX9_greatestWeight, 3, (some .int), 0, fun _ => 0)
def mX9_weightByRank : MD := (yX9_weightByRank, cX9_weightByRank, 6, (some .int), 0, fun _ => 0)
def mX9_keyOfWeight : MD := (yX9_keyOfWeight, cX9_keyOfWeight, 5, (some .int), 0, fun _ => 0)
def mX9_cutsWithin : MD := (yX9_cutsWithin, cX9_cutsWithin, 8, (some .int), 0, fun _ => 0)
def mX10_init : MD := (yX10_init, cX10_init, 4, none, 0, fun _ => 0)
def mX10_fetch : MD := (yX10_fetch, cX10_fetch, 3, (some .int), 0, fun _ => 0)
def mX10_read : MD := (yX10_read, cX10_read, 4, (some .int), 0, fun _ => 0)
def mX10_write : MD := (yX10_write, cX10_write, 5, (some .int), 0, fun _ => 0)
def mX10_insist : MD := (yX10_insist, cX10_insist, 5, (some .int), 0, fun _ => 0)
def mX10_scan : MD := (yX10_scan, cX10_scan, 7, (some .int), 0, fun _ => 0)
def mX10_clientOf : MD := (yX10_clientOf, cX10_clientOf, 3, (some .int), 0, fun _ => 0)
def mX10_split : MD := (yX10_split, cX10_split, 3, (some .int), 0, fun _ => 0)
def mX10_middle : MD := (yX10_middle, cX10_middle, 2, (some .int), 0, fun _ => 0)
def mX10_join : MD := (yX10_join, cX10_join, 2, (some .int), 0, fun _ => 0)
def mX10_move : MD := (yX10_move, cX10_move, 3, (some .int), 0, fun _ => 0)
def mX10_step : MD := (yX10_step, cX10_step, 3, (some .int), 0, fun _ => 0)
def mX10_fail : MD := (yX10_fail, cX10_fail, 4, (some .boolean), 0, fun _ => 0)
def mX10_down : MD := (yX10_down, cX10_down, 3, (some .int), 0, fun _ => 0)
def mX10_up : MD := (yX10_up, cX10_up, 3, (some .boolean), 0, fun _ => 0)
def mX10_recover : MD := (yX10_recover, cX10_recover, 2, (some .int), 0, fun _ => 0)
def mX10_give : MD := (yX10_give, cX10_give, 3, (some .boolean), 0, fun _ => 0)
def mX10_age : MD := (yX10_age, cX10_age, 3, (some .long), 0, fun _ => 0)
def mX10_chunk : MD := (yX10_chunk, cX10_chunk, 3, (some .boolean), 0, fun _ => 0)
def mX10_feed : MD := (yX10_feed, cX10_feed, 6, (some .int), 0, fun _ => 0)
def mX10_end : MD := (yX10_end, cX10_end, 2, (some .boolean), 0, fun _ => 0)
def mX10_script : MD := (yX10_script, cX10_script, 3, (some .int), 0, fun _ => 0)
def mX10_fault : MD := (yX10_fault, cX10_fault, 2, (some .int), 0, fun _ => 0)
def mX10_undo : MD := (yX10_undo, cX10_undo, 1, (some .int), 0, fun _ => 0)
def mX10_image : MD := (yX10_image, cX10_image, 2, (some .boolean), 0, fun _ => 0)
def mX10_span : MD := (yX10_span, cX10_span, 4, (some .int), 0, fun _ => 0)
def mX10_weight : MD := (yX10_weight, cX10_weight, 2, (some .long), 0, fun _ => 0)
def mX10_middleOf : MD := (yX10_middleOf, cX10_middleOf, 2, (some .int), 0, fun _ => 0)
def mX10_lowOf : MD := (yX10_lowOf, cX10_lowOf, 2, (some .int), 0, fun _ => 0)
def mX10_server : MD := (yX10_server, cX10_server, 3, (some .int), 0, fun _ => 0)
def mX10_load : MD := (yX10_load, cX10_load, 2, (some .long), 0, fun _ => 0)
def mX10_stored : MD := (yX10_stored, cX10_stored, 3, (some .int), 0, fun _ => 0)
def mX10_moveOf : MD := (yX10_moveOf, cX10_moveOf, 4, (some .int), 0, fun _ => 0)
def mX10_trail : MD := (yX10_trail, cX10_trail, 4, (some .int), 0, fun _ => 0)
def mX10_owned : MD := (yX10_owned, cX10_owned, 3, (some .int), 0, fun _ => 0)
def mX10_passed : MD := (yX10_passed, cX10_passed, 3, (some .int), 0, fun _ => 0)
def mX10_changeOf : MD := (yX10_changeOf, cX10_changeOf, 4, (some .int), 0, fun _ => 0)
def mX10_count : MD := (yX10_count, cX10_count, 2, (some .int), 0, fun _ => 0)
def mX10_look : MD := (yX10_look, cX10_look, 2, (some .int), 0, fun _ => 0)
def mX10_sound : MD := (yX10_sound, cX10_sound, 1, (some .int), 0, fun _ => 0)
def mX10_spare : MD := (yX10_spare, cX10_spare, 3, (some .int), 0, fun _ => 0)
def mX10_hot : MD := (yX10_hot, cX10_hot, 4, (some .int), 0, fun _ => 0)
def mX10_cuts : MD := (yX10_cuts, cX10_cuts, 4, (some .int), 0, fun _ => 0)
def mX10_even : MD := (yX10_even, cX10_even, 1, (some .long), 0, fun _ => 0)
def mX10_next : MD := (yX10_next, cX10_next, 2, (some .int), 0, fun _ => 0)
def mX10_rounds : MD := (yX10_rounds, cX10_rounds, 3, (some .int), 0, fun _ => 0)
def mX10_emptied : MD := (yX10_emptied, cX10_emptied, 7, (some .long), 0, fun _ => 0)
def mX10_lasts : MD := (yX10_lasts, cX10_lasts, 2, (some .int), 0, fun _ => 0)
def mX10_kept : MD := (yX10_kept, cX10_kept, 2, (some .int), 0, fun _ => 0)
def mX10_takeImage : MD := (yX10_takeImage, cX10_takeImage, 1, none, 0, fun _ => 0)
def mX10_runClause : MD := (yX10_runClause, cX10_runClause, 5, (some .boolean), 0, fun _ => 0)
def mX10_isKey : MD := (yX10_isKey, cX10_isKey, 1, (some .boolean), 0, fun _ => 0)
def mX10_isServer : MD := (yX10_isServer, cX10_isServer, 1, (some .boolean), 0, fun _ => 0)
def mX10_isClient : MD := (yX10_isClient, cX10_isClient, 1, (some .boolean), 0, fun _ => 0)
def mX11_isIn : MD := (yX11_isIn, cX11_isIn, 6, (some .boolean), 0, fun _ => 0)
def mX11_init : MD := (yX11_init, cX11_init, 2, none, 0, fun _ => 0)
def mX11_counts : MD := (yX11_counts, cX11_counts, 3, none, 0, fun _ => 0)
def mX11_isKey : MD := (yX11_isKey, cX11_isKey, 1, (some .boolean), 0, fun _ => 0)
def mX11_isServer : MD := (yX11_isServer, cX11_isServer, 1, (some .boolean), 0, fun _ => 0)
def mX11_isClient : MD := (yX11_isClient, cX11_isClient, 1, (some .boolean), 0, fun _ => 0)
def mX11_storeAt : MD := (yX11_storeAt, cX11_storeAt, 2, (some .int), 0, fun _ => 0)
def mX11_remembers : MD := (yX11_remembers, cX11_remembers, 3, none, 0, fun _ => 0)
def mX11_laysAside : MD := (yX11_laysAside, cX11_laysAside, 2, none, 0, fun _ => 0)
def mX11_comesBack : MD := (yX11_comesBack, cX11_comesBack, 2, none, 0, fun _ => 0)
def mX11_undo : MD := (yX11_undo, cX11_undo, 2, (some .int), 0, fun _ => 0)
def mX11_spanWith : MD := (yX11_spanWith, cX11_spanWith, 3, (some .int), 0, fun _ => 0)
def mX11_endOf : MD := (yX11_endOf, cX11_endOf, 2, (some .int), 0, fun _ => 0)
def mX11_named : MD := (yX11_named, cX11_named, 3, (some .int), 0, fun _ => 0)
def mX11_moveAt : MD := (yX11_moveAt, cX11_moveAt, 1, (some .int), 0, fun _ => 0)
def mX11_isGoing : MD := (yX11_isGoing, cX11_isGoing, 2, (some .boolean), 0, fun _ => 0)
def mX11_moveOfSpan : MD := (yX11_moveOfSpan, cX11_moveOfSpan, 3, (some .int), 0, fun _ => 0)
def mX11_weightOf : MD := (yX11_weightOf, cX11_weightOf, 5, (some .long), 0, fun _ => 0)
def mX11_loadOf : MD := (yX11_loadOf, cX11_loadOf, 5, (some .long), 0, fun _ => 0)
def mX11_middleIn : MD := (yX11_middleIn, cX11_middleIn, 7, (some .int), 0, fun _ => 0)
def mX11_notes : MD := (yX11_notes, cX11_notes, 4, none, 0, fun _ => 0)
def mX11_changeOf : MD := (yX11_changeOf, cX11_changeOf, 3, (some .int), 0, fun _ => 0)
def mX11_splits : MD := (yX11_splits, cX11_splits, 4, none, 0, fun _ => 0)
def mX11_canSplit : MD := (yX11_canSplit, cX11_canSplit, 3, (some .boolean), 0, fun _ => 0)
def mX11_splitAt : MD := (yX11_splitAt, cX11_splitAt, 4, (some .int), 0, fun _ => 0)
def mX11_split : MD := (yX11_split, cX11_split, 3, (some .int), 0, fun _ => 0)
def mX11_middle : MD := (yX11_middle, cX11_middle, 4, (some .int), 0, fun _ => 0)
def mX11_join : MD := (yX11_join, cX11_join, 4, (some .int), 0, fun _ => 0)
def mX11_acts : MD := (yX11_acts, cX11_acts, 1, none, 0, fun _ => 0)
def mX11_forgets : MD := (yX11_forgets, cX11_forgets, 1, none, 0, fun _ => 0)
def mX11_clientAt : MD := (yX11_clientAt, cX11_clientAt, 1, (some .int), 0, fun _ => 0)
def mX11_fetches : MD := (yX11_fetches, cX11_fetches, 4, (some .int), 0, fun _ => 0)
def mX11_fetch : MD := (yX11_fetch, cX11_fetch, 2, (some .int), 0, fun _ => 0)
def mX11_answerBy : MD := (yX11_answerBy, cX11_answerBy, 6, (some .int), 0, fun _ => 0)
def mX11_isInTrail : MD := (yX11_isInTrail, cX11_isInTrail, 4, (some .boolean), 0, fun _ => 0)
def mX11_isCatching : MD := (yX11_isCatching, cX11_isCatching, 2, (some .boolean), 0, fun _ => 0)
def mX11_isFrozen : MD := (yX11_isFrozen, cX11_isFrozen, 3, (some .boolean), 0, fun _ => 0)
def mX11_isWritten : MD := (yX11_isWritten, cX11_isWritten, 5, none, 0, fun _ => 0)
def mX11_asks : MD := (yX11_asks, cX11_asks, 5, (some .int), 0, fun _ => 0)
def mX11_read : MD := (yX11_read, cX11_read, 4, (some .int), 0, fun _ => 0)
def mX11_canWrite : MD := (yX11_canWrite, cX11_canWrite, 3, (some .boolean), 0, fun _ => 0)
def mX11_write : MD := (yX11_write, cX11_write, 4, (some .int), 0, fun _ => 0)
def mX11_insist : MD := (yX11_insist, cX11_insist, 6, (some .int), 0, fun _ => 0)
def mX11_going : MD := (yX11_going, cX11_going, 3, (some .int), 0, fun _ => 0)
def mX11_move : MD := (yX11_move, cX11_move, 6, (some .int), 0, fun _ => 0)
def mX11_goesOver : MD := (yX11_goesOver, cX11_goesOver, 8, (some .int), 0, fun _ => 0)
def mX11_catchesUp : MD := (yX11_catchesUp, cX11_catchesUp, 6, none, 0, fun _ => 0)
def mX11_switches : MD := (yX11_switches, cX11_switches, 3, none, 0, fun _ => 0)
def mX11_goesOn : MD := (yX11_goesOn, cX11_goesOn, 4, none, 0, fun _ => 0)
def mX11_steps : MD := (yX11_steps, cX11_steps, 3, none, 0, fun _ => 0)
def mX11_fails : MD := (yX11_fails, cX11_fails, 5, none, 0, fun _ => 0)
def mX11_stepsOnce : MD := (yX11_stepsOnce, cX11_stepsOnce, 3, none, 0, fun _ => 0)
def mX11_isMove : MD := (yX11_isMove, cX11_isMove, 2, (some .boolean), 0, fun _ => 0)
def mX11_canStep : MD := (yX11_canStep, cX11_canStep, 2, (some .boolean), 0, fun _ => 0)
def mX11_step : MD := (yX11_step, cX11_step, 4, (some .int), 0, fun _ => 0)
def mX11_fail : MD := (yX11_fail, cX11_fail, 3, (some .boolean), 0, fun _ => 0)
def mX11_down : MD := (yX11_down, cX11_down, 6, (some .int), 0, fun _ => 0)
def mX11_up : MD := (yX11_up, cX11_up, 2, (some .boolean), 0, fun _ => 0)
def mX11_loses : MD := (yX11_loses, cX11_loses, 4, none, 0, fun _ => 0)
def mX11_areUp : MD := (yX11_areUp, cX11_areUp, 2, (some .boolean), 0, fun _ => 0)
def mX11_ends : MD := (yX11_ends, cX11_ends, 3, (some .int), 0, fun _ => 0)
def mX11_recover : MD := (yX11_recover, cX11_recover, 2, (some .int), 0, fun _ => 0)
def mX11_give : MD := (yX11_give, cX11_give, 2, (some .boolean), 0, fun _ => 0)
def mX11_allWeight : MD := (yX11_allWeight, cX11_allWeight, 4, (some .long), 0, fun _ => 0)
def mX11_age : MD := (yX11_age, cX11_age, 2, (some .long), 0, fun _ => 0)
def mX11_chunk : MD := (yX11_chunk, cX11_chunk, 2, (some .boolean), 0, fun _ => 0)
def mX11_comes : MD := (yX11_comes, cX11_comes, 3, none, 0, fun _ => 0)
def mX11_feed : MD := (yX11_feed, cX11_feed, 6, (some .int), 0, fun _ => 0)
def mX11_end : MD := (yX11_end, cX11_end, 2, (some .boolean), 0, fun _ => 0)
def mX11_wrong : MD := (yX11_wrong, cX11_wrong, 3, none, 0, fun _ => 0)
def mX11_blanks : MD := (yX11_blanks, cX11_blanks, 1, none, 0, fun _ => 0)
def mX11_wordEnd : MD := (yX11_wordEnd, cX11_wordEnd, 2, (some .int), 0, fun _ => 0)
def mX11_spells : MD := (yX11_spells, cX11_spells, 9, (some .boolean), 0, fun _ => 0)
def mX11_word : MD := (yX11_word, cX11_word, 1, (some .int), 0, fun _ => 0)
def mX11_numbersOf : MD := (yX11_numbersOf, cX11_numbersOf, 1, (some .int), 0, fun _ => 0)
def mX11_number : MD := (yX11_number, cX11_number, 3, (some .int), 0, fun _ => 0)
def mX11_reads : MD := (yX11_reads, cX11_reads, 3, none, 0, fun _ => 0)
def mX11_isDone : MD := (yX11_isDone, cX11_isDone, 4, (some .boolean), 0, fun _ => 0)
def mX11_script : MD := (yX11_script, cX11_script, 2, (some .int), 0, fun _ => 0)
def mX11_fault : MD := (yX11_fault, cX11_fault, 2, (some .int), 0, fun _ => 0)
def mX11_isSpan : MD := (yX11_isSpan, cX11_isSpan, 2, (some .boolean), 0, fun _ => 0)
def mX11_valuesIn : MD := (yX11_valuesIn, cX11_valuesIn, 4, (some .int), 0, fun _ => 0)
def mX11_isFrozenSpan : MD := (yX11_isFrozenSpan, cX11_isFrozenSpan, 3, (some .boolean), 0, fun _ => 0)
def mX11_span : MD := (yX11_span, cX11_span, 3, (some .int), 0, fun _ => 0)
def mX11_weight : MD := (yX11_weight, cX11_weight, 2, (some .long), 0, fun _ => 0)
def mX11_middleOf : MD := (yX11_middleOf, cX11_middleOf, 2, (some .int), 0, fun _ => 0)
def mX11_lowOf : MD := (yX11_lowOf, cX11_lowOf, 2, (some .int), 0, fun _ => 0)
def mX11_spansOf : MD := (yX11_spansOf, cX11_spansOf, 4, (some .int), 0, fun _ => 0)
def mX11_valuesOf : MD := (yX11_valuesOf, cX11_valuesOf, 4, (some .int), 0, fun _ => 0)
def mX11_movesBy : MD := (yX11_movesBy, cX11_movesBy, 5, (some .int), 0, fun _ => 0)
def mX11_server : MD := (yX11_server, cX11_server, 3, (some .int), 0, fun _ => 0)
def mX11_load : MD := (yX11_load, cX11_load, 2, (some .long), 0, fun _ => 0)
def mX11_stored : MD := (yX11_stored, cX11_stored, 3, (some .int), 0, fun _ => 0)
def mX11_staleOf : MD := (yX11_staleOf, cX11_staleOf, 4, (some .int), 0, fun _ => 0)
def mX11_clientOf : MD := (yX11_clientOf, cX11_clientOf, 3, (some .int), 0, fun _ => 0)
def mX11_moveOf : MD := (yX11_moveOf, cX11_moveOf, 3, (some .int), 0, fun _ => 0)
def mX11_trail : MD := (yX11_trail, cX11_trail, 3, (some .int), 0, fun _ => 0)
def mX11_switchBehind : MD := (yX11_switchBehind, cX11_switchBehind, 7, (some .int), 0, fun _ => 0)
def mX11_owned : MD := (yX11_owned, cX11_owned, 6, (some .int), 0, fun _ => 0)
def mX11_passed : MD := (yX11_passed, cX11_passed, 6, (some .int), 0, fun _ => 0)
def mX11_mayHave : MD := (yX11_mayHave, cX11_mayHave, 4, (some .boolean), 0, fun _ => 0)
def mX11_sound : MD := (yX11_sound, cX11_sound, 3, (some .int), 0, fun _ => 0)
def mX11_owners : MD := (yX11_owners, cX11_owners, 3, (some .int), 0, fun _ => 0)
def mX11_spare : MD := (yX11_spare, cX11_spare, 3, (some .int), 0, fun _ => 0)
def mX11_outer : MD := (yX11_outer, cX11_outer, 4, (some .int), 0, fun _ => 0)
def mX11_evenOf : MD := (yX11_evenOf, cX11_evenOf, 2, (some .long), 0, fun _ => 0)
def mX11_even : MD := (yX11_even, cX11_even, 1, (some .long), 0, fun _ => 0)
def mX11_size : MD := (yX11_size, cX11_size, 2, (some .long), 0, fun _ => 0)
def mX11_spanToMove : MD := (yX11_spanToMove, cX11_spanToMove, 9, (some .int), 0, fun _ => 0)
def mX11_spanToSplit : MD := (yX11_spanToSplit, cX11_spanToSplit, 4, (some .int), 0, fun _ => 0)
def mX11_laysNext : MD := (yX11_laysNext, cX11_laysNext, 6, none, 0, fun _ => 0)
def mX11_next : MD := (yX11_next, cX11_next, 2, (some .int), 0, fun _ => 0)
def mX11_rounds : MD := (yX11_rounds, cX11_rounds, 5, (some .int), 0, fun _ => 0)
def mX11_heavier : MD := (yX11_heavier, cX11_heavier, 4, (some .int), 0, fun _ => 0)
def mX11_hot : MD := (yX11_hot, cX11_hot, 4, (some .int), 0, fun _ => 0)
def mX11_scan : MD := (yX11_scan, cX11_scan, 7, (some .int), 0, fun _ => 0)
def mX11_outerBut : MD := (yX11_outerBut, cX11_outerBut, 5, (some .int), 0, fun _ => 0)
def mX11_heaviestOf : MD := (yX11_heaviestOf, cX11_heaviestOf, 4, (some .int), 0, fun _ => 0)
def mX11_emptied : MD := (yX11_emptied, cX11_emptied, 7, (some .long), 0, fun _ => 0)
def mX11_cuts : MD := (yX11_cuts, cX11_cuts, 8, (some .int), 0, fun _ => 0)
def mX11_lasts : MD := (yX11_lasts, cX11_lasts, 3, (some .int), 0, fun _ => 0)
def mX11_count : MD := (yX11_count, cX11_count, 2, (some .int), 0, fun _ => 0)
def mX11_image : MD := (yX11_image, cX11_image, 3, (some .boolean), 0, fun _ => 0)
def mX11_upOnes : MD := (yX11_upOnes, cX11_upOnes, 3, (some .int), 0, fun _ => 0)
def mX11_brokenOnes : MD := (yX11_brokenOnes, cX11_brokenOnes, 3, (some .int), 0, fun _ => 0)
def mX11_frozenOnes : MD := (yX11_frozenOnes, cX11_frozenOnes, 3, (some .int), 0, fun _ => 0)
def mX11_look : MD := (yX11_look, cX11_look, 2, (some .int), 0, fun _ => 0)
theorem ok_X0_init : MOK mX0_init 0 := ⟨by decide +kernel, rfl, by decide +kernel, ⟨by decide +kernel, by decide +kernel, by decide +kernel⟩, tw (i := 325) (by decide +kernel) (by decide +kernel), tw (i := 10) (by decide +kernel) (by decide +kernel)⟩
theorem im_X0_init : Cond.instanceMethod yX0_init ∈ gw := tw (i := 324) (by decide +kernel) (by decide +kernel)
theorem ok_X0_save : MOK mX0_save 1 := ⟨by decide +kernel, rfl, by decide +kernel, ⟨by decide +kernel, by decide +kernel, by decide +kernel⟩, tw (i := 526) (by decide +kernel) (by decide +kernel), tw (i := 10) (by decide +kernel) (by decide +kernel)⟩
theorem im_X0_save : Cond.instanceMethod yX0_save ∈ gw := tw (i := 524) (by decide +kernel) (by decide +kernel)
theorem se_X0_save : Cond.selects (yX0_save).cls yX0_save yX0_save ∈ gw := tw (i := 525) (by decide +kernel) (by decide +kernel)
theorem ok_X0_keep : MOK mX0_keep 0 := ⟨by decide +kernel, rfl, by decide +kernel, ⟨by decide +kernel, by decide +kernel, by decide +kernel⟩, tw (i := 576) (by decide +kernel) (by decide +kernel), tw (i := 10) (by decide +kernel) (by decide +kernel)⟩
theorem im_X0_keep : Cond.instanceMethod yX0_keep ∈ gw := tw (i := 574) (by decide +kernel) (by decide +kernel)
theorem se_X0_keep : Cond.selects (yX0_keep).cls yX0_keep yX0_keep ∈ gw := tw (i := 575) (by decide +kernel) (by decide +kernel)
theorem ok_X0_forget : MOK mX0_forget 0 := ⟨by decide +kernel, rfl, by decide +kernel, ⟨by decide +kernel, by decide +kernel, by decide +kernel⟩, tw (i := 432) (by decide +kernel) (by decide +kernel), tw (i := 10) (by decide +kernel) (by decide +kernel)⟩
theorem im_X0_forget : Cond.instanceMethod yX0_forget ∈ gw := tw (i := 430) (by decide +kernel) (by decide +kernel)
theorem se_X0_forget : Cond.selects (yX0_forget).cls yX0_forget yX0_forget ∈ gw := tw (i := 431) (by decide +kernel) (by decide +kernel)
theorem ok_X0_takeBack : MOK mX0_takeBack 1 := ⟨by decide +kernel, rfl, by decide +kernel, ⟨by decide +kernel, by decide +kernel, by decide +kernel⟩, tw (i := 893) (by decide +kernel) (by decide +kernel), tw (i := 10) (by decide +kernel) (by decide +kernel)⟩
theorem im_X0_takeBack : Cond.instanceMethod yX0_takeBack ∈ gw := tw (i := 891) (by decide +kernel) (by decide +kernel)
theorem se_X0_takeBack : Cond.selects (yX0_takeBack).cls yX0_takeBack yX0_takeBack ∈ gw := tw (i := 892) (by decide +kernel) (by decide +kernel)
theorem ok_X1_init : MOK mX1_init 2 := ⟨by decide +kernel, rfl, by decide +kernel, ⟨by decide +kernel, by decide +kernel, by decide +kernel⟩, tw (i := 283) (by decide +kernel) (by decide +kernel), tw (i := 7) (by decide +kernel) (by decide +kernel)⟩
theorem im_X1_init : Cond.instanceMethod yX1_init ∈ gw := tw (i := 282) (by decide +kernel) (by decide +kernel)
theorem ok_X1_takeMap : MOK mX1_takeMap 1 := ⟨by decide +kernel, rfl, by decide +kernel, ⟨by decide +kernel, by decide +kernel, by decide +kernel⟩, tw (i := 418) (by decide +kernel) (by decide +kernel), tw (i := 7) (by decide +kernel) (by decide +kernel)⟩
theorem im_X1_takeMap : Cond.instanceMethod yX1_takeMap ∈ gw := tw (i := 416) (by decide +kernel) (by decide +kernel)
theorem se_X1_takeMap : Cond.selects (yX1_takeMap).cls yX1_takeMap yX1_takeMap ∈ gw := tw (i := 417) (by decide +kernel) (by decide +kernel)
theorem ok_X1_readKey : MOK mX1_readKey 2 := ⟨by decide +kernel, rfl, by decide +kernel, ⟨by decide +kernel, by decide +kernel, by decide +kernel⟩, tw (i := 440) (by decide +kernel) (by decide +kernel), tw (i := 7) (by decide +kernel) (by decide +kernel)⟩
theorem im_X1_readKey : Cond.instanceMethod yX1_readKey ∈ gw := tw (i := 438) (by decide +kernel) (by decide +kernel)
theorem se_X1_readKey : Cond.selects (yX1_readKey).cls yX1_readKey yX1_readKey ∈ gw := tw (i := 439) (by decide +kernel) (by decide +kernel)
theorem ok_X1_writeKey : MOK mX1_writeKey 3 := ⟨by decide +kernel, rfl, by decide +kernel, ⟨by decide +kernel, by decide +kernel, by decide +kernel⟩, tw (i := 491) (by decide +kernel) (by decide +kernel), tw (i := 7) (by decide +kernel) (by decide +kernel)⟩
theorem im_X1_writeKey : Cond.instanceMethod yX1_writeKey ∈ gw := tw (i := 489) (by decide +kernel) (by decide +kernel)
theorem se_X1_writeKey : Cond.selects (yX1_writeKey).cls yX1_writeKey yX1_writeKey ∈ gw := tw (i := 490) (by decide +kernel) (by decide +kernel)
theorem ok_X1_staleSpans : MOK mX1_staleSpans 1 := ⟨by decide +kernel, rfl, by decide +kernel, ⟨by decide +kernel, by decide +kernel, by decide +kernel⟩, tw (i := 518) (by decide +kernel) (by decide +kernel), tw (i := 7) (by decide +kernel) (by decide +kernel)⟩
theorem im_X1_staleSpans : Cond.instanceMethod yX1_staleSpans ∈ gw := tw (i := 516) (by decide +kernel) (by decide +kernel)
theorem se_X1_staleSpans : Cond.selects (yX1_staleSpans).cls yX1_staleSpans yX1_staleSpans ∈ gw := tw (i := 517) (by decide +kernel) (by decide +kernel)
theorem ok_X1_answerTo : MOK mX1_answerTo 3 := ⟨by decide +kernel, rfl, by decide +kernel, ⟨by decide +kernel, by decide +kernel, by decide +kernel⟩, tw (i := 451) (by decide +kernel) (by decide +kernel), tw (i := 7) (by decide +kernel) (by decide +kernel)⟩
theorem im_X1_answerTo : Cond.instanceMethod yX1_answerTo ∈ gw := tw (i := 450) (by decide +kernel) (by decide +kernel)
theorem se_X1_answerTo : Cond.selects (yX1_answerTo).cls yX1_answerTo yX1_answerTo ∈ gw := tv (i := 0) (by decide +kernel) (by decide +kernel)
theorem ok_X2_init : MOK mX2_init 3 := ⟨by decide +kernel, rfl, by decide +kernel, ⟨by decide +kernel, by decide +kernel, by decide +kernel⟩, tw (i := 296) (by decide +kernel) (by decide +kernel), tw (i := 8) (by decide +kernel) (by decide +kernel)⟩
theorem im_X2_init : Cond.instanceMethod yX2_init ∈ gw := tw (i := 295) (by decide +kernel) (by decide +kernel)
theorem ok_X2_cutAt : MOK mX2_cutAt 2 := ⟨by decide +kernel, rfl, by decide +kernel, ⟨by decide +kernel, by decide +kernel, by decide +kernel⟩, tw (i := 542) (by decide +kernel) (by decide +kernel), tw (i := 8) (by decide +kernel) (by decide +kernel)⟩
theorem im_X2_cutAt : Cond.instanceMethod yX2_cutAt ∈ gw := tw (i := 540) (by decide +kernel) (by decide +kernel)
theorem se_X2_cutAt : Cond.selects (yX2_cutAt).cls yX2_cutAt yX2_cutAt ∈ gw := tw (i := 541) (by decide +kernel) (by decide +kernel)
theorem ok_X2_cutInMiddle : MOK mX2_cutInMiddle 1 := ⟨by decide +kernel, rfl, by decide +kernel, ⟨by decide +kernel, by decide +kernel, by decide +kernel⟩, tw (i := 587) (by decide +kernel) (by decide +kernel), tw (i := 8) (by decide +kernel) (by decide +kernel)⟩
theorem im_X2_cutInMiddle : Cond.instanceMethod yX2_cutInMiddle ∈ gw := tw (i := 585) (by decide +kernel) (by decide +kernel)
theorem se_X2_cutInMiddle : Cond.selects (yX2_cutInMiddle).cls yX2_cutInMiddle yX2_cutInMiddle ∈ gw := tw (i := 586) (by decide +kernel) (by decide +kernel)
theorem ok_X2_joinWithNext : MOK mX2_joinWithNext 1 := ⟨by decide +kernel, rfl, by decide +kernel, ⟨by decide +kernel, by decide +kernel, by decide +kernel⟩, tw (i := 610) (by decide +kernel) (by decide +kernel), tw (i := 8) (by decide +kernel) (by decide +kernel)⟩
theorem im_X2_joinWithNext : Cond.instanceMethod yX2_joinWithNext ∈ gw := tw (i := 608) (by decide +kernel) (by decide +kernel)
theorem se_X2_joinWithNext : Cond.selects (yX2_joinWithNext).cls yX2_joinWithNext yX2_joinWithNext ∈ gw := tw (i := 609) (by decide +kernel) (by decide +kernel)
theorem ok_X3_init : MOK mX3_init 0 := ⟨by decide +kernel, rfl, by decide +kernel, ⟨by decide +kernel, by decide +kernel, by decide +kernel⟩, tw (i := 210) (by decide +kernel) (by decide +kernel), tw (i := 5) (by decide +kernel) (by decide +kernel)⟩
theorem im_X3_init : Cond.instanceMethod yX3_init ∈ gw := tw (i := 209) (by decide +kernel) (by decide +kernel)
theorem ok_X3_add : MOK mX3_add 2 := ⟨by decide +kernel, rfl, by decide +kernel, ⟨by decide +kernel, by decide +kernel, by decide +kernel⟩, tw (i := 564) (by decide +kernel) (by decide +kernel), tw (i := 5) (by decide +kernel) (by decide +kernel)⟩
theorem im_X3_add : Cond.instanceMethod yX3_add ∈ gw := tw (i := 562) (by decide +kernel) (by decide +kernel)
theorem se_X3_add : Cond.selects (yX3_add).cls yX3_add yX3_add ∈ gw := tw (i := 563) (by decide +kernel) (by decide +kernel)
theorem ok_X3_noteAnswer : MOK mX3_noteAnswer 4 := ⟨by decide +kernel, rfl, by decide +kernel, ⟨by decide +kernel, by decide +kernel, by decide +kernel⟩, tw (i := 479) (by decide +kernel) (by decide +kernel), tw (i := 5) (by decide +kernel) (by decide +kernel)⟩
theorem im_X3_noteAnswer : Cond.instanceMethod yX3_noteAnswer ∈ gw := tw (i := 477) (by decide +kernel) (by decide +kernel)
theorem se_X3_noteAnswer : Cond.selects (yX3_noteAnswer).cls yX3_noteAnswer yX3_noteAnswer ∈ gw := tw (i := 478) (by decide +kernel) (by decide +kernel)
theorem ok_X3_noteChange : MOK mX3_noteChange 4 := ⟨by decide +kernel, rfl, by decide +kernel, ⟨by decide +kernel, by decide +kernel, by decide +kernel⟩, tw (i := 568) (by decide +kernel) (by decide +kernel), tw (i := 5) (by decide +kernel) (by decide +kernel)⟩
theorem im_X3_noteChange : Cond.instanceMethod yX3_noteChange ∈ gw := tw (i := 566) (by decide +kernel) (by decide +kernel)
theorem se_X3_noteChange : Cond.selects (yX3_noteChange).cls yX3_noteChange yX3_noteChange ∈ gw := tw (i := 567) (by decide +kernel) (by decide +kernel)
theorem ok_X3_kindOf : MOK mX3_kindOf 1 := ⟨by decide +kernel, rfl, by decide +kernel, ⟨by decide +kernel, by decide +kernel, by decide +kernel⟩, tw (i := 1008) (by decide +kernel) (by decide +kernel), tw (i := 5) (by decide +kernel) (by decide +kernel)⟩
theorem im_X3_kindOf : Cond.instanceMethod yX3_kindOf ∈ gw := tw (i := 1006) (by decide +kernel) (by decide +kernel)
theorem se_X3_kindOf : Cond.selects (yX3_kindOf).cls yX3_kindOf yX3_kindOf ∈ gw := tw (i := 1007) (by decide +kernel) (by decide +kernel)
theorem ok_X3_ownerOfChange : MOK mX3_ownerOfChange 1 := ⟨by decide +kernel, rfl, by decide +kernel, ⟨by decide +kernel, by decide +kernel, by decide +kernel⟩, tw (i := 1016) (by decide +kernel) (by decide +kernel), tw (i := 5) (by decide +kernel) (by decide +kernel)⟩
theorem im_X3_ownerOfChange : Cond.instanceMethod yX3_ownerOfChange ∈ gw := tw (i := 1014) (by decide +kernel) (by decide +kernel)
theorem se_X3_ownerOfChange : Cond.selects (yX3_ownerOfChange).cls yX3_ownerOfChange yX3_ownerOfChange ∈ gw := tw (i := 1015) (by decide +kernel) (by decide +kernel)
theorem ok_X3_lowOfChange : MOK mX3_lowOfChange 1 := ⟨by decide +kernel, rfl, by decide +kernel, ⟨by decide +kernel, by decide +kernel, by decide +kernel⟩, tw (i := 1012) (by decide +kernel) (by decide +kernel), tw (i := 5) (by decide +kernel) (by decide +kernel)⟩
theorem im_X3_lowOfChange : Cond.instanceMethod yX3_lowOfChange ∈ gw := tw (i := 1010) (by decide +kernel) (by decide +kernel)
theorem se_X3_lowOfChange : Cond.selects (yX3_lowOfChange).cls yX3_lowOfChange yX3_lowOfChange ∈ gw := tw (i := 1011) (by decide +kernel) (by decide +kernel)
theorem ok_X3_copyFrom : MOK mX3_copyFrom 2 := ⟨by decide +kernel, rfl, by decide +kernel, ⟨by decide +kernel, by decide +kernel, by decide +kernel⟩, tw (i := 906) (by decide +kernel) (by decide +kernel), tw (i := 5) (by decide +kernel) (by decide +kernel)⟩
theorem im_X3_copyFrom : Cond.instanceMethod yX3_copyFrom ∈ gw := tw (i := 904) (by decide +kernel) (by decide +kernel)
theorem se_X3_copyFrom : Cond.selects (yX3_copyFrom).cls yX3_copyFrom yX3_copyFrom ∈ gw := tw (i := 905) (by decide +kernel) (by decide +kernel)
theorem ok_X4_init : MOK mX4_init 0 := ⟨by decide +kernel, rfl, by decide +kernel, ⟨by decide +kernel, by decide +kernel, by decide +kernel⟩, tw (i := 89) (by decide +kernel) (by decide +kernel), tw (i := 4) (by decide +kernel) (by decide +kernel)⟩
theorem im_X4_init : Cond.instanceMethod yX4_init ∈ gw := tw (i := 88) (by decide +kernel) (by decide +kernel)
theorem ok_X4_begin : MOK mX4_begin 4 := ⟨by decide +kernel, rfl, by decide +kernel, ⟨by decide +kernel, by decide +kernel, by decide +kernel⟩, tw (i := 637) (by decide +kernel) (by decide +kernel), tw (i := 4) (by decide +kernel) (by decide +kernel)⟩
theorem im_X4_begin : Cond.instanceMethod yX4_begin ∈ gw := tw (i := 635) (by decide +kernel) (by decide +kernel)
theorem se_X4_begin : Cond.selects (yX4_begin).cls yX4_begin yX4_begin ∈ gw := tw (i := 636) (by decide +kernel) (by decide +kernel)
theorem ok_X4_goesOn : MOK mX4_goesOn 0 := ⟨by decide +kernel, rfl, by decide +kernel, ⟨by decide +kernel, by decide +kernel, by decide +kernel⟩, tw (i := 463) (by decide +kernel) (by decide +kernel), tw (i := 4) (by decide +kernel) (by decide +kernel)⟩
theorem im_X4_goesOn : Cond.instanceMethod yX4_goesOn ∈ gw := tw (i := 461) (by decide +kernel) (by decide +kernel)
theorem se_X4_goesOn : Cond.selects (yX4_goesOn).cls yX4_goesOn yX4_goesOn ∈ gw := tw (i := 462) (by decide +kernel) (by decide +kernel)
theorem ok_X4_covers : MOK mX4_covers 1 := ⟨by decide +kernel, rfl, by decide +kernel, ⟨by decide +kernel, by decide +kernel, by decide +kernel⟩, tw (i := 992) (by decide +kernel) (by decide +kernel), tw (i := 4) (by decide +kernel) (by decide +kernel)⟩
theorem im_X4_covers : Cond.instanceMethod yX4_covers ∈ gw := tw (i := 990) (by decide +kernel) (by decide +kernel)
theorem se_X4_covers : Cond.selects (yX4_covers).cls yX4_covers yX4_covers ∈ gw := tw (i := 991) (by decide +kernel) (by decide +kernel)
theorem ok_X4_takesTrail : MOK mX4_takesTrail 0 := ⟨by decide +kernel, rfl, by decide +kernel, ⟨by decide +kernel, by decide +kernel, by decide +kernel⟩, tw (i := 471) (by decide +kernel) (by decide +kernel), tw (i := 4) (by decide +kernel) (by decide +kernel)⟩
theorem im_X4_takesTrail : Cond.instanceMethod yX4_takesTrail ∈ gw := tw (i := 469) (by decide +kernel) (by decide +kernel)
theorem se_X4_takesTrail : Cond.selects (yX4_takesTrail).cls yX4_takesTrail yX4_takesTrail ∈ gw := tw (i := 470) (by decide +kernel) (by decide +kernel)
theorem ok_X4_hasInTrail : MOK mX4_hasInTrail 1 := ⟨by decide +kernel, rfl, by decide +kernel, ⟨by decide +kernel, by decide +kernel, by decide +kernel⟩, tw (i := 475) (by decide +kernel) (by decide +kernel), tw (i := 4) (by decide +kernel) (by decide +kernel)⟩
theorem im_X4_hasInTrail : Cond.instanceMethod yX4_hasInTrail ∈ gw := tw (i := 473) (by decide +kernel) (by decide +kernel)
theorem se_X4_hasInTrail : Cond.selects (yX4_hasInTrail).cls yX4_hasInTrail yX4_hasInTrail ∈ gw := tw (i := 474) (by decide +kernel) (by decide +kernel)
theorem ok_X4_refusesWrite : MOK mX4_refusesWrite 1 := ⟨by decide +kernel, rfl, by decide +kernel, ⟨by decide +kernel, by decide +kernel, by decide +kernel⟩, tw (i := 467) (by decide +kernel) (by decide +kernel), tw (i := 4) (by decide +kernel) (by decide +kernel)⟩
theorem im_X4_refusesWrite : Cond.instanceMethod yX4_refusesWrite ∈ gw := tw (i := 465) (by decide +kernel) (by decide +kernel)
theorem se_X4_refusesWrite : Cond.selects (yX4_refusesWrite).cls yX4_refusesWrite yX4_refusesWrite ∈ gw := tw (i := 466) (by decide +kernel) (by decide +kernel)
theorem ok_X4_noteWrite : MOK mX4_noteWrite 1 := ⟨by decide +kernel, rfl, by decide +kernel, ⟨by decide +kernel, by decide +kernel, by decide +kernel⟩, tw (i := 500) (by decide +kernel) (by decide +kernel), tw (i := 4) (by decide +kernel) (by decide +kernel)⟩
theorem im_X4_noteWrite : Cond.instanceMethod yX4_noteWrite ∈ gw := tw (i := 498) (by decide +kernel) (by decide +kernel)
theorem se_X4_noteWrite : Cond.selects (yX4_noteWrite).cls yX4_noteWrite yX4_noteWrite ∈ gw := tw (i := 499) (by decide +kernel) (by decide +kernel)
theorem ok_X4_dropFromTrail : MOK mX4_dropFromTrail 1 := ⟨by decide +kernel, rfl, by decide +kernel, ⟨by decide +kernel, by decide +kernel, by decide +kernel⟩, tw (i := 683) (by decide +kernel) (by decide +kernel), tw (i := 4) (by decide +kernel) (by decide +kernel)⟩
theorem im_X4_dropFromTrail : Cond.instanceMethod yX4_dropFromTrail ∈ gw := tw (i := 681) (by decide +kernel) (by decide +kernel)
theorem se_X4_dropFromTrail : Cond.selects (yX4_dropFromTrail).cls yX4_dropFromTrail yX4_dropFromTrail ∈ gw := tw (i := 682) (by decide +kernel) (by decide +kernel)
theorem ok_X4_countDown : MOK mX4_countDown 0 := ⟨by decide +kernel, rfl, by decide +kernel, ⟨by decide +kernel, by decide +kernel, by decide +kernel⟩, tw (i := 668) (by decide +kernel) (by decide +kernel), tw (i := 4) (by decide +kernel) (by decide +kernel)⟩
theorem im_X4_countDown : Cond.instanceMethod yX4_countDown ∈ gw := tw (i := 666) (by decide +kernel) (by decide +kernel)
theorem se_X4_countDown : Cond.selects (yX4_countDown).cls yX4_countDown yX4_countDown ∈ gw := tw (i := 667) (by decide +kernel) (by decide +kernel)
theorem ok_X4_breakBy : MOK mX4_breakBy 1 := ⟨by decide +kernel, rfl, by decide +kernel, ⟨by decide +kernel, by decide +kernel, by decide +kernel⟩, tw (i := 691) (by decide +kernel) (by decide +kernel), tw (i := 4) (by decide +kernel) (by decide +kernel)⟩
theorem im_X4_breakBy : Cond.instanceMethod yX4_breakBy ∈ gw := tw (i := 689) (by decide +kernel) (by decide +kernel)
theorem se_X4_breakBy : Cond.selects (yX4_breakBy).cls yX4_breakBy yX4_breakBy ∈ gw := tw (i := 690) (by decide +kernel) (by decide +kernel)
theorem ok_X4_copyFrom : MOK mX4_copyFrom 1 := ⟨by decide +kernel, rfl, by decide +kernel, ⟨by decide +kernel, by decide +kernel, by decide +kernel⟩, tw (i := 537) (by decide +kernel) (by decide +kernel), tw (i := 4) (by decide +kernel) (by decide +kernel)⟩
theorem im_X4_copyFrom : Cond.instanceMethod yX4_copyFrom ∈ gw := tw (i := 535) (by decide +kernel) (by decide +kernel)
theorem se_X4_copyFrom : Cond.selects (yX4_copyFrom).cls yX4_copyFrom yX4_copyFrom ∈ gw := tw (i := 536) (by decide +kernel) (by decide +kernel)
theorem ok_X5_init : MOK mX5_init 2 := ⟨by decide +kernel, rfl, by decide +kernel, ⟨by decide +kernel, by decide +kernel, by decide +kernel⟩, tw (i := 312) (by decide +kernel) (by decide +kernel), tw (i := 9) (by decide +kernel) (by decide +kernel)⟩
theorem im_X5_init : Cond.instanceMethod yX5_init ∈ gw := tw (i := 311) (by decide +kernel) (by decide +kernel)
theorem ok_X5_begin : MOK mX5_begin 2 := ⟨by decide +kernel, rfl, by decide +kernel, ⟨by decide +kernel, by decide +kernel, by decide +kernel⟩, tw (i := 622) (by decide +kernel) (by decide +kernel), tw (i := 9) (by decide +kernel) (by decide +kernel)⟩
theorem im_X5_begin : Cond.instanceMethod yX5_begin ∈ gw := tw (i := 620) (by decide +kernel) (by decide +kernel)
theorem se_X5_begin : Cond.selects (yX5_begin).cls yX5_begin yX5_begin ∈ gw := tw (i := 621) (by decide +kernel) (by decide +kernel)
theorem ok_X5_takeSteps : MOK mX5_takeSteps 2 := ⟨by decide +kernel, rfl, by decide +kernel, ⟨by decide +kernel, by decide +kernel, by decide +kernel⟩, tw (i := 646) (by decide +kernel) (by decide +kernel), tw (i := 9) (by decide +kernel) (by decide +kernel)⟩
theorem im_X5_takeSteps : Cond.instanceMethod yX5_takeSteps ∈ gw := tw (i := 644) (by decide +kernel) (by decide +kernel)
theorem se_X5_takeSteps : Cond.selects (yX5_takeSteps).cls yX5_takeSteps yX5_takeSteps ∈ gw := tw (i := 645) (by decide +kernel) (by decide +kernel)
theorem ok_X5_takeOne : MOK mX5_takeOne 1 := ⟨by decide +kernel, rfl, by decide +kernel, ⟨by decide +kernel, by decide +kernel, by decide +kernel⟩, tw (i := 664) (by decide +kernel) (by decide +kernel), tw (i := 9) (by decide +kernel) (by decide +kernel)⟩
theorem im_X5_takeOne : Cond.instanceMethod yX5_takeOne ∈ gw := tw (i := 663) (by decide +kernel) (by decide +kernel)
theorem se_X5_takeOne : Cond.selects (yX5_takeOne).cls yX5_takeOne yX5_takeOne ∈ gw := tv (i := 2) (by decide +kernel) (by decide +kernel)
theorem ok_X5_goFurther : MOK mX5_goFurther 2 := ⟨by decide +kernel, rfl, by decide +kernel, ⟨by decide +kernel, by decide +kernel, by decide +kernel⟩, tw (i := 695) (by decide +kernel) (by decide +kernel), tw (i := 9) (by decide +kernel) (by decide +kernel)⟩
theorem im_X5_goFurther : Cond.instanceMethod yX5_goFurther ∈ gw := tw (i := 694) (by decide +kernel) (by decide +kernel)
theorem se_X5_goFurther : Cond.selects (yX5_goFurther).cls yX5_goFurther yX5_goFurther ∈ gw := tv (i := 6) (by decide +kernel) (by decide +kernel)
theorem ok_X5_copySome : MOK mX5_copySome 2 := ⟨by decide +kernel, rfl, by decide +kernel, ⟨by decide +kernel, by decide +kernel, by decide +kernel⟩, tw (i := 672) (by decide +kernel) (by decide +kernel), tw (i := 9) (by decide +kernel) (by decide +kernel)⟩
theorem im_X5_copySome : Cond.instanceMethod yX5_copySome ∈ gw := tw (i := 671) (by decide +kernel) (by decide +kernel)
theorem se_X5_copySome : Cond.selects (yX5_copySome).cls yX5_copySome yX5_copySome ∈ gw := tv (i := 3) (by decide +kernel) (by decide +kernel)
theorem ok_X5_catchUpSome : MOK mX5_catchUpSome 2 := ⟨by decide +kernel, rfl, by decide +kernel, ⟨by decide +kernel, by decide +kernel, by decide +kernel⟩, tw (i := 678) (by decide +kernel) (by decide +kernel), tw (i := 9) (by decide +kernel) (by decide +kernel)⟩
theorem im_X5_catchUpSome : Cond.instanceMethod yX5_catchUpSome ∈ gw := tw (i := 677) (by decide +kernel) (by decide +kernel)
theorem se_X5_catchUpSome : Cond.selects (yX5_catchUpSome).cls yX5_catchUpSome yX5_catchUpSome ∈ gw := tv (i := 4) (by decide +kernel) (by decide +kernel)
theorem ok_X5_cleanSome : MOK mX5_cleanSome 2 := ⟨by decide +kernel, rfl, by decide +kernel, ⟨by decide +kernel, by decide +kernel, by decide +kernel⟩, tw (i := 687) (by decide +kernel) (by decide +kernel), tw (i := 9) (by decide +kernel) (by decide +kernel)⟩
theorem im_X5_cleanSome : Cond.instanceMethod yX5_cleanSome ∈ gw := tw (i := 686) (by decide +kernel) (by decide +kernel)
theorem se_X5_cleanSome : Cond.selects (yX5_cleanSome).cls yX5_cleanSome yX5_cleanSome ∈ gw := tv (i := 5) (by decide +kernel) (by decide +kernel)
theorem ok_X5_switchOwner : MOK mX5_switchOwner 1 := ⟨by decide +kernel, rfl, by decide +kernel, ⟨by decide +kernel, by decide +kernel, by decide +kernel⟩, tw (i := 699) (by decide +kernel) (by decide +kernel), tw (i := 9) (by decide +kernel) (by decide +kernel)⟩
theorem im_X5_switchOwner : Cond.instanceMethod yX5_switchOwner ∈ gw := tw (i := 698) (by decide +kernel) (by decide +kernel)
theorem se_X5_switchOwner : Cond.selects (yX5_switchOwner).cls yX5_switchOwner yX5_switchOwner ∈ gw := tv (i := 7) (by decide +kernel) (by decide +kernel)
theorem ok_X5_endAs : MOK mX5_endAs 2 := ⟨by decide +kernel, rfl, by decide +kernel, ⟨by decide +kernel, by decide +kernel, by decide +kernel⟩, tw (i := 706) (by decide +kernel) (by decide +kernel), tw (i := 9) (by decide +kernel) (by decide +kernel)⟩
theorem im_X5_endAs : Cond.instanceMethod yX5_endAs ∈ gw := tw (i := 705) (by decide +kernel) (by decide +kernel)
theorem se_X5_endAs : Cond.selects (yX5_endAs).cls yX5_endAs yX5_endAs ∈ gw := tv (i := 8) (by decide +kernel) (by decide +kernel)
theorem ok_X5_tellToFail : MOK mX5_tellToFail 2 := ⟨by decide +kernel, rfl, by decide +kernel, ⟨by decide +kernel, by decide +kernel, by decide +kernel⟩, tw (i := 714) (by decide +kernel) (by decide +kernel), tw (i := 9) (by decide +kernel) (by decide +kernel)⟩
theorem im_X5_tellToFail : Cond.instanceMethod yX5_tellToFail ∈ gw := tw (i := 712) (by decide +kernel) (by decide +kernel)
theorem se_X5_tellToFail : Cond.selects (yX5_tellToFail).cls yX5_tellToFail yX5_tellToFail ∈ gw := tw (i := 713) (by decide +kernel) (by decide +kernel)
theorem ok_X5_takeDown : MOK mX5_takeDown 1 := ⟨by decide +kernel, rfl, by decide +kernel, ⟨by decide +kernel, by decide +kernel, by decide +kernel⟩, tw (i := 723) (by decide +kernel) (by decide +kernel), tw (i := 9) (by decide +kernel) (by decide +kernel)⟩
theorem im_X5_takeDown : Cond.instanceMethod yX5_takeDown ∈ gw := tw (i := 721) (by decide +kernel) (by decide +kernel)
theorem se_X5_takeDown : Cond.selects (yX5_takeDown).cls yX5_takeDown yX5_takeDown ∈ gw := tw (i := 722) (by decide +kernel) (by decide +kernel)
theorem ok_X5_mend : MOK mX5_mend 1 := ⟨by decide +kernel, rfl, by decide +kernel, ⟨by decide +kernel, by decide +kernel, by decide +kernel⟩, tw (i := 740) (by decide +kernel) (by decide +kernel), tw (i := 9) (by decide +kernel) (by decide +kernel)⟩
theorem im_X5_mend : Cond.instanceMethod yX5_mend ∈ gw := tw (i := 738) (by decide +kernel) (by decide +kernel)
theorem se_X5_mend : Cond.selects (yX5_mend).cls yX5_mend yX5_mend ∈ gw := tw (i := 739) (by decide +kernel) (by decide +kernel)
theorem ok_X5_giveUp : MOK mX5_giveUp 1 := ⟨by decide +kernel, rfl, by decide +kernel, ⟨by decide +kernel, by decide +kernel, by decide +kernel⟩, tw (i := 758) (by decide +kernel) (by decide +kernel), tw (i := 9) (by decide +kernel) (by decide +kernel)⟩
theorem im_X5_giveUp : Cond.instanceMethod yX5_giveUp ∈ gw := tw (i := 756) (by decide +kernel) (by decide +kernel)
theorem se_X5_giveUp : Cond.selects (yX5_giveUp).cls yX5_giveUp yX5_giveUp ∈ gw := tw (i := 757) (by decide +kernel) (by decide +kernel)
theorem ok_X5_turnBack : MOK mX5_turnBack 1 := ⟨by decide +kernel, rfl, by decide +kernel, ⟨by decide +kernel, by decide +kernel, by decide +kernel⟩, tw (i := 750) (by decide +kernel) (by decide +kernel), tw (i := 9) (by decide +kernel) (by decide +kernel)⟩
theorem im_X5_turnBack : Cond.instanceMethod yX5_turnBack ∈ gw := tw (i := 749) (by decide +kernel) (by decide +kernel)
theorem se_X5_turnBack : Cond.selects (yX5_turnBack).cls yX5_turnBack yX5_turnBack ∈ gw := tv (i := 9) (by decide +kernel) (by decide +kernel)
theorem ok_X5_stepsLeft : MOK mX5_stepsLeft 1 := ⟨by decide +kernel, rfl, by decide +kernel, ⟨by decide +kernel, by decide +kernel, by decide +kernel⟩, tw (i := 1161) (by decide +kernel) (by decide +kernel), tw (i := 9) (by decide +kernel) (by decide +kernel)⟩
theorem im_X5_stepsLeft : Cond.instanceMethod yX5_stepsLeft ∈ gw := tw (i := 1159) (by decide +kernel) (by decide +kernel)
theorem se_X5_stepsLeft : Cond.selects (yX5_stepsLeft).cls yX5_stepsLeft yX5_stepsLeft ∈ gw := tw (i := 1160) (by decide +kernel) (by decide +kernel)
theorem ok_X6_init : MOK mX6_init 0 := ⟨by decide +kernel, rfl, by decide +kernel, ⟨by decide +kernel, by decide +kernel, by decide +kernel⟩, tw (i := 240) (by decide +kernel) (by decide +kernel), tw (i := 6) (by decide +kernel) (by decide +kernel)⟩
theorem im_X6_init : Cond.instanceMethod yX6_init ∈ gw := tw (i := 239) (by decide +kernel) (by decide +kernel)
theorem ok_X6_take : MOK mX6_take 1 := ⟨by decide +kernel, rfl, by decide +kernel, ⟨by decide +kernel, by decide +kernel, by decide +kernel⟩, tw (i := 591) (by decide +kernel) (by decide +kernel), tw (i := 6) (by decide +kernel) (by decide +kernel)⟩
theorem im_X6_take : Cond.instanceMethod yX6_take ∈ gw := tw (i := 589) (by decide +kernel) (by decide +kernel)
theorem se_X6_take : Cond.selects (yX6_take).cls yX6_take yX6_take ∈ gw := tw (i := 590) (by decide +kernel) (by decide +kernel)
theorem ok_X6_weightOf : MOK mX6_weightOf 1 := ⟨by decide +kernel, rfl, by decide +kernel, ⟨by decide +kernel, by decide +kernel, by decide +kernel⟩, tw (i := 597) (by decide +kernel) (by decide +kernel), tw (i := 6) (by decide +kernel) (by decide +kernel)⟩
theorem im_X6_weightOf : Cond.instanceMethod yX6_weightOf ∈ gw := tw (i := 595) (by decide +kernel) (by decide +kernel)
theorem se_X6_weightOf : Cond.selects (yX6_weightOf).cls yX6_weightOf yX6_weightOf ∈ gw := tw (i := 596) (by decide +kernel) (by decide +kernel)
theorem ok_X6_middleIn : MOK mX6_middleIn 1 := ⟨by decide +kernel, rfl, by decide +kernel, ⟨by decide +kernel, by decide +kernel, by decide +kernel⟩, tw (i := 601) (by decide +kernel) (by decide +kernel), tw (i := 6) (by decide +kernel) (by decide +kernel)⟩
theorem im_X6_middleIn : Cond.instanceMethod yX6_middleIn ∈ gw := tw (i := 599) (by decide +kernel) (by decide +kernel)
theorem se_X6_middleIn : Cond.selects (yX6_middleIn).cls yX6_middleIn yX6_middleIn ∈ gw := tw (i := 600) (by decide +kernel) (by decide +kernel)
theorem ok_X6_isUp : MOK mX6_isUp 1 := ⟨by decide +kernel, rfl, by decide +kernel, ⟨by decide +kernel, by decide +kernel, by decide +kernel⟩, tw (i := 1101) (by decide +kernel) (by decide +kernel), tw (i := 6) (by decide +kernel) (by decide +kernel)⟩
theorem im_X6_isUp : Cond.instanceMethod yX6_isUp ∈ gw := tw (i := 1099) (by decide +kernel) (by decide +kernel)
theorem se_X6_isUp : Cond.selects (yX6_isUp).cls yX6_isUp yX6_isUp ∈ gw := tw (i := 1100) (by decide +kernel) (by decide +kernel)
theorem ok_X6_heaviest : MOK mX6_heaviest 1 := ⟨by decide +kernel, rfl, by decide +kernel, ⟨by decide +kernel, by decide +kernel, by decide +kernel⟩, tw (i := 1097) (by decide +kernel) (by decide +kernel), tw (i := 6) (by decide +kernel) (by decide +kernel)⟩
theorem im_X6_heaviest : Cond.instanceMethod yX6_heaviest ∈ gw := tw (i := 1095) (by decide +kernel) (by decide +kernel)
theorem se_X6_heaviest : Cond.selects (yX6_heaviest).cls yX6_heaviest yX6_heaviest ∈ gw := tw (i := 1096) (by decide +kernel) (by decide +kernel)
theorem ok_X6_lightest : MOK mX6_lightest 1 := ⟨by decide +kernel, rfl, by decide +kernel, ⟨by decide +kernel, by decide +kernel, by decide +kernel⟩, tw (i := 1105) (by decide +kernel) (by decide +kernel), tw (i := 6) (by decide +kernel) (by decide +kernel)⟩
theorem im_X6_lightest : Cond.instanceMethod yX6_lightest ∈ gw := tw (i := 1103) (by decide +kernel) (by decide +kernel)
theorem se_X6_lightest : Cond.selects (yX6_lightest).cls yX6_lightest yX6_lightest ∈ gw := tw (i := 1104) (by decide +kernel) (by decide +kernel)
theorem ok_X6_gap : MOK mX6_gap 1 := ⟨by decide +kernel, rfl, by decide +kernel, ⟨by decide +kernel, by decide +kernel, by decide +kernel⟩, tw (i := 1093) (by decide +kernel) (by decide +kernel), tw (i := 6) (by decide +kernel) (by decide +kernel)⟩
theorem im_X6_gap : Cond.instanceMethod yX6_gap ∈ gw := tw (i := 1091) (by decide +kernel) (by decide +kernel)
theorem se_X6_gap : Cond.selects (yX6_gap).cls yX6_gap yX6_gap ∈ gw := tw (i := 1092) (by decide +kernel) (by decide +kernel)
theorem ok_X6_decide : MOK mX6_decide 0 := ⟨by decide +kernel, rfl, by decide +kernel, ⟨by decide +kernel, by decide +kernel, by decide +kernel⟩, tw (i := 1113) (by decide +kernel) (by decide +kernel), tw (i := 6) (by decide +kernel) (by decide +kernel)⟩
theorem im_X6_decide : Cond.instanceMethod yX6_decide ∈ gw := tw (i := 1111) (by decide +kernel) (by decide +kernel)
theorem se_X6_decide : Cond.selects (yX6_decide).cls yX6_decide yX6_decide ∈ gw := tw (i := 1112) (by decide +kernel) (by decide +kernel)
theorem ok_X6_bestToMove : MOK mX6_bestToMove 2 := ⟨by decide +kernel, rfl, by decide +kernel, ⟨by decide +kernel, by decide +kernel, by decide +kernel⟩, tw (i := 1118) (by decide +kernel) (by decide +kernel), tw (i := 6) (by decide +kernel) (by decide +kernel)⟩
theorem im_X6_bestToMove : Cond.instanceMethod yX6_bestToMove ∈ gw := tw (i := 1117) (by decide +kernel) (by decide +kernel)
theorem se_X6_bestToMove : Cond.selects (yX6_bestToMove).cls yX6_bestToMove yX6_bestToMove ∈ gw := tv (i := 18) (by decide +kernel) (by decide +kernel)
theorem ok_X6_bestToSplit : MOK mX6_bestToSplit 1 := ⟨by decide +kernel, rfl, by decide +kernel, ⟨by decide +kernel, by decide +kernel, by decide +kernel⟩, tw (i := 1125) (by decide +kernel) (by decide +kernel), tw (i := 6) (by decide +kernel) (by decide +kernel)⟩
theorem im_X6_bestToSplit : Cond.instanceMethod yX6_bestToSplit ∈ gw := tw (i := 1124) (by decide +kernel) (by decide +kernel)
theorem se_X6_bestToSplit : Cond.selects (yX6_bestToSplit).cls yX6_bestToSplit yX6_bestToSplit ∈ gw := tv (i := 19) (by decide +kernel) (by decide +kernel)
theorem ok_X6_heaviestFree : MOK mX6_heaviestFree 1 := ⟨by decide +kernel, rfl, by decide +kernel, ⟨by decide +kernel, by decide +kernel, by decide +kernel⟩, tw (i := 1151) (by decide +kernel) (by decide +kernel), tw (i := 6) (by decide +kernel) (by decide +kernel)⟩
theorem im_X6_heaviestFree : Cond.instanceMethod yX6_heaviestFree ∈ gw := tw (i := 1149) (by decide +kernel) (by decide +kernel)
theorem se_X6_heaviestFree : Cond.selects (yX6_heaviestFree).cls yX6_heaviestFree yX6_heaviestFree ∈ gw := tw (i := 1150) (by decide +kernel) (by decide +kernel)
theorem ok_X6_handTo : MOK mX6_handTo 2 := ⟨by decide +kernel, rfl, by decide +kernel, ⟨by decide +kernel, by decide +kernel, by decide +kernel⟩, tw (i := 1138) (by decide +kernel) (by decide +kernel), tw (i := 6) (by decide +kernel) (by decide +kernel)⟩
theorem im_X6_handTo : Cond.instanceMethod yX6_handTo ∈ gw := tw (i := 1136) (by decide +kernel) (by decide +kernel)
theorem se_X6_handTo : Cond.selects (yX6_handTo).cls yX6_handTo yX6_handTo ∈ gw := tw (i := 1137) (by decide +kernel) (by decide +kernel)
theorem ok_X6_carryOut : MOK mX6_carryOut 0 := ⟨by decide +kernel, rfl, by decide +kernel, ⟨by decide +kernel, by decide +kernel, by decide +kernel⟩, tw (i := 1134) (by decide +kernel) (by decide +kernel), tw (i := 6) (by decide +kernel) (by decide +kernel)⟩
theorem im_X6_carryOut : Cond.instanceMethod yX6_carryOut ∈ gw := tw (i := 1132) (by decide +kernel) (by decide +kernel)
theorem se_X6_carryOut : Cond.selects (yX6_carryOut).cls yX6_carryOut yX6_carryOut ∈ gw := tw (i := 1133) (by decide +kernel) (by decide +kernel)
theorem ok_X6_cut : MOK mX6_cut 2 := ⟨by decide +kernel, rfl, by decide +kernel, ⟨by decide +kernel, by decide +kernel, by decide +kernel⟩, tw (i := 1142) (by decide +kernel) (by decide +kernel), tw (i := 6) (by decide +kernel) (by decide +kernel)⟩
theorem im_X6_cut : Cond.instanceMethod yX6_cut ∈ gw := tw (i := 1141) (by decide +kernel) (by decide +kernel)
theorem se_X6_cut : Cond.selects (yX6_cut).cls yX6_cut yX6_cut ∈ gw := tv (i := 20) (by decide +kernel) (by decide +kernel)
theorem ok_X7_init : MOK mX7_init 0 := ⟨by decide +kernel, rfl, by decide +kernel, ⟨by decide +kernel, by decide +kernel, by decide +kernel⟩, tw (i := 344) (by decide +kernel) (by decide +kernel), tw (i := 11) (by decide +kernel) (by decide +kernel)⟩
theorem im_X7_init : Cond.instanceMethod yX7_init ∈ gw := tw (i := 343) (by decide +kernel) (by decide +kernel)
theorem ok_X7_addFour : MOK mX7_addFour 1 := ⟨by decide +kernel, rfl, by decide +kernel, ⟨by decide +kernel, by decide +kernel, by decide +kernel⟩, tw (i := 782) (by decide +kernel) (by decide +kernel), tw (i := 11) (by decide +kernel) (by decide +kernel)⟩
theorem im_X7_addFour : Cond.instanceMethod yX7_addFour ∈ gw := tw (i := 780) (by decide +kernel) (by decide +kernel)
theorem se_X7_addFour : Cond.selects (yX7_addFour).cls yX7_addFour yX7_addFour ∈ gw := tw (i := 781) (by decide +kernel) (by decide +kernel)
theorem ok_X7_numberOf : MOK mX7_numberOf 2 := ⟨by decide +kernel, rfl, by decide +kernel, ⟨by decide +kernel, by decide +kernel, by decide +kernel⟩, tw (i := 876) (by decide +kernel) (by decide +kernel), tw (i := 11) (by decide +kernel) (by decide +kernel)⟩
theorem im_X7_numberOf : Cond.instanceMethod yX7_numberOf ∈ gw := tw (i := 874) (by decide +kernel) (by decide +kernel)
theorem se_X7_numberOf : Cond.selects (yX7_numberOf).cls yX7_numberOf yX7_numberOf ∈ gw := tw (i := 875) (by decide +kernel) (by decide +kernel)
theorem ok_X7_parse : MOK mX7_parse 0 := ⟨by decide +kernel, rfl, by decide +kernel, ⟨by decide +kernel, by decide +kernel, by decide +kernel⟩, tw (i := 794) (by decide +kernel) (by decide +kernel), tw (i := 11) (by decide +kernel) (by decide +kernel)⟩
theorem im_X7_parse : Cond.instanceMethod yX7_parse ∈ gw := tw (i := 792) (by decide +kernel) (by decide +kernel)
theorem se_X7_parse : Cond.selects (yX7_parse).cls yX7_parse yX7_parse ∈ gw := tw (i := 793) (by decide +kernel) (by decide +kernel)
theorem ok_X7_parseClause : MOK mX7_parseClause 0 := ⟨by decide +kernel, rfl, by decide +kernel, ⟨by decide +kernel, by decide +kernel, by decide +kernel⟩, tw (i := 802) (by decide +kernel) (by decide +kernel), tw (i := 11) (by decide +kernel) (by decide +kernel)⟩
theorem im_X7_parseClause : Cond.instanceMethod yX7_parseClause ∈ gw := tw (i := 801) (by decide +kernel) (by decide +kernel)
theorem se_X7_parseClause : Cond.selects (yX7_parseClause).cls yX7_parseClause yX7_parseClause ∈ gw := tv (i := 11) (by decide +kernel) (by decide +kernel)
theorem ok_X7_parseNumber : MOK mX7_parseNumber 1 := ⟨by decide +kernel, rfl, by decide +kernel, ⟨by decide +kernel, by decide +kernel, by decide +kernel⟩, tw (i := 865) (by decide +kernel) (by decide +kernel), tw (i := 11) (by decide +kernel) (by decide +kernel)⟩
theorem im_X7_parseNumber : Cond.instanceMethod yX7_parseNumber ∈ gw := tw (i := 864) (by decide +kernel) (by decide +kernel)
theorem se_X7_parseNumber : Cond.selects (yX7_parseNumber).cls yX7_parseNumber yX7_parseNumber ∈ gw := tv (i := 14) (by decide +kernel) (by decide +kernel)
theorem ok_X7_parseClauseEnd : MOK mX7_parseClauseEnd 1 := ⟨by decide +kernel, rfl, by decide +kernel, ⟨by decide +kernel, by decide +kernel, by decide +kernel⟩, tw (i := 872) (by decide +kernel) (by decide +kernel), tw (i := 11) (by decide +kernel) (by decide +kernel)⟩
theorem im_X7_parseClauseEnd : Cond.instanceMethod yX7_parseClauseEnd ∈ gw := tw (i := 871) (by decide +kernel) (by decide +kernel)
theorem se_X7_parseClauseEnd : Cond.selects (yX7_parseClauseEnd).cls yX7_parseClauseEnd yX7_parseClauseEnd ∈ gw := tv (i := 15) (by decide +kernel) (by decide +kernel)
theorem ok_X7_verbOf : MOK mX7_verbOf 2 := ⟨by decide +kernel, rfl, by decide +kernel, ⟨by decide +kernel, by decide +kernel, by decide +kernel⟩, tw (i := 806) (by decide +kernel) (by decide +kernel), tw (i := 11) (by decide +kernel) (by decide +kernel)⟩
theorem im_X7_verbOf : Cond.instanceMethod yX7_verbOf ∈ gw := tw (i := 805) (by decide +kernel) (by decide +kernel)
theorem se_X7_verbOf : Cond.selects (yX7_verbOf).cls yX7_verbOf yX7_verbOf ∈ gw := tv (i := 12) (by decide +kernel) (by decide +kernel)
theorem ok_X7_skipBlanks : MOK mX7_skipBlanks 0 := ⟨by decide +kernel, rfl, by decide +kernel, ⟨by decide +kernel, by decide +kernel, by decide +kernel⟩, tw (i := 798) (by decide +kernel) (by decide +kernel), tw (i := 11) (by decide +kernel) (by decide +kernel)⟩
theorem im_X7_skipBlanks : Cond.instanceMethod yX7_skipBlanks ∈ gw := tw (i := 797) (by decide +kernel) (by decide +kernel)
theorem se_X7_skipBlanks : Cond.selects (yX7_skipBlanks).cls yX7_skipBlanks yX7_skipBlanks ∈ gw := tv (i := 10) (by decide +kernel) (by decide +kernel)
theorem ok_X7_tell : MOK mX7_tell 2 := ⟨by decide +kernel, rfl, by decide +kernel, ⟨by decide +kernel, by decide +kernel, by decide +kernel⟩, tw (i := 859) (by decide +kernel) (by decide +kernel), tw (i := 11) (by decide +kernel) (by decide +kernel)⟩
theorem im_X7_tell : Cond.instanceMethod yX7_tell ∈ gw := tw (i := 858) (by decide +kernel) (by decide +kernel)
theorem se_X7_tell : Cond.selects (yX7_tell).cls yX7_tell yX7_tell ∈ gw := tv (i := 13) (by decide +kernel) (by decide +kernel)
theorem ok_X8_init : MOK mX8_init 0 := ⟨by decide +kernel, rfl, by decide +kernel, ⟨by decide +kernel, by decide +kernel, by decide +kernel⟩, tw (i := 37) (by decide +kernel) (by decide +kernel), tw (i := 3) (by decide +kernel) (by decide +kernel)⟩
theorem im_X8_init : Cond.instanceMethod yX8_init ∈ gw := tw (i := 36) (by decide +kernel) (by decide +kernel)
theorem ok_X8_has : MOK mX8_has 1 := ⟨by decide +kernel, rfl, by decide +kernel, ⟨by decide +kernel, by decide +kernel, by decide +kernel⟩, tw (i := 916) (by decide +kernel) (by decide +kernel), tw (i := 3) (by decide +kernel) (by decide +kernel)⟩
theorem im_X8_has : Cond.instanceMethod yX8_has ∈ gw := tw (i := 914) (by decide +kernel) (by decide +kernel)
theorem se_X8_has : Cond.selects (yX8_has).cls yX8_has yX8_has ∈ gw := tw (i := 915) (by decide +kernel) (by decide +kernel)
theorem ok_X8_endOf : MOK mX8_endOf 1 := ⟨by decide +kernel, rfl, by decide +kernel, ⟨by decide +kernel, by decide +kernel, by decide +kernel⟩, tw (i := 550) (by decide +kernel) (by decide +kernel), tw (i := 3) (by decide +kernel) (by decide +kernel)⟩
theorem im_X8_endOf : Cond.instanceMethod yX8_endOf ∈ gw := tw (i := 548) (by decide +kernel) (by decide +kernel)
theorem se_X8_endOf : Cond.selects (yX8_endOf).cls yX8_endOf yX8_endOf ∈ gw := tw (i := 549) (by decide +kernel) (by decide +kernel)
theorem ok_X8_indexOf : MOK mX8_indexOf 1 := ⟨by decide +kernel, rfl, by decide +kernel, ⟨by decide +kernel, by decide +kernel, by decide +kernel⟩, tw (i := 447) (by decide +kernel) (by decide +kernel), tw (i := 3) (by decide +kernel) (by decide +kernel)⟩
theorem im_X8_indexOf : Cond.instanceMethod yX8_indexOf ∈ gw := tw (i := 445) (by decide +kernel) (by decide +kernel)
theorem se_X8_indexOf : Cond.selects (yX8_indexOf).cls yX8_indexOf yX8_indexOf ∈ gw := tw (i := 446) (by decide +kernel) (by decide +kernel)
theorem ok_X8_indexOfLow : MOK mX8_indexOfLow 1 := ⟨by decide +kernel, rfl, by decide +kernel, ⟨by decide +kernel, by decide +kernel, by decide +kernel⟩, tw (i := 546) (by decide +kernel) (by decide +kernel), tw (i := 3) (by decide +kernel) (by decide +kernel)⟩
theorem im_X8_indexOfLow : Cond.instanceMethod yX8_indexOfLow ∈ gw := tw (i := 544) (by decide +kernel) (by decide +kernel)
theorem se_X8_indexOfLow : Cond.selects (yX8_indexOfLow).cls yX8_indexOfLow yX8_indexOfLow ∈ gw := tw (i := 545) (by decide +kernel) (by decide +kernel)
theorem ok_X8_ownedBy : MOK mX8_ownedBy 1 := ⟨by decide +kernel, rfl, by decide +kernel, ⟨by decide +kernel, by decide +kernel, by decide +kernel⟩, tw (i := 954) (by decide +kernel) (by decide +kernel), tw (i := 3) (by decide +kernel) (by decide +kernel)⟩
theorem im_X8_ownedBy : Cond.instanceMethod yX8_ownedBy ∈ gw := tw (i := 952) (by decide +kernel) (by decide +kernel)
theorem se_X8_ownedBy : Cond.selects (yX8_ownedBy).cls yX8_ownedBy yX8_ownedBy ∈ gw := tw (i := 953) (by decide +kernel) (by decide +kernel)
theorem ok_X8_put : MOK mX8_put 3 := ⟨by decide +kernel, rfl, by decide +kernel, ⟨by decide +kernel, by decide +kernel, by decide +kernel⟩, tw (i := 85) (by decide +kernel) (by decide +kernel), tw (i := 3) (by decide +kernel) (by decide +kernel)⟩
theorem im_X8_put : Cond.instanceMethod yX8_put ∈ gw := tw (i := 83) (by decide +kernel) (by decide +kernel)
theorem se_X8_put : Cond.selects (yX8_put).cls yX8_put yX8_put ∈ gw := tw (i := 84) (by decide +kernel) (by decide +kernel)
theorem ok_X8_insertBehind : MOK mX8_insertBehind 1 := ⟨by decide +kernel, rfl, by decide +kernel, ⟨by decide +kernel, by decide +kernel, by decide +kernel⟩, tw (i := 555) (by decide +kernel) (by decide +kernel), tw (i := 3) (by decide +kernel) (by decide +kernel)⟩
theorem im_X8_insertBehind : Cond.instanceMethod yX8_insertBehind ∈ gw := tw (i := 553) (by decide +kernel) (by decide +kernel)
theorem se_X8_insertBehind : Cond.selects (yX8_insertBehind).cls yX8_insertBehind yX8_insertBehind ∈ gw := tw (i := 554) (by decide +kernel) (by decide +kernel)
theorem ok_X8_removeBehind : MOK mX8_removeBehind 1 := ⟨by decide +kernel, rfl, by decide +kernel, ⟨by decide +kernel, by decide +kernel, by decide +kernel⟩, tw (i := 614) (by decide +kernel) (by decide +kernel), tw (i := 3) (by decide +kernel) (by decide +kernel)⟩
theorem im_X8_removeBehind : Cond.instanceMethod yX8_removeBehind ∈ gw := tw (i := 612) (by decide +kernel) (by decide +kernel)
theorem se_X8_removeBehind : Cond.selects (yX8_removeBehind).cls yX8_removeBehind yX8_removeBehind ∈ gw := tw (i := 613) (by decide +kernel) (by decide +kernel)
theorem ok_X8_copyRow : MOK mX8_copyRow 2 := ⟨by decide +kernel, rfl, by decide +kernel, ⟨by decide +kernel, by decide +kernel, by decide +kernel⟩, tw (i := 559) (by decide +kernel) (by decide +kernel), tw (i := 3) (by decide +kernel) (by decide +kernel)⟩
theorem im_X8_copyRow : Cond.instanceMethod yX8_copyRow ∈ gw := tw (i := 557) (by decide +kernel) (by decide +kernel)
theorem se_X8_copyRow : Cond.selects (yX8_copyRow).cls yX8_copyRow yX8_copyRow ∈ gw := tw (i := 558) (by decide +kernel) (by decide +kernel)
theorem ok_X8_copyFrom : MOK mX8_copyFrom 1 := ⟨by decide +kernel, rfl, by decide +kernel, ⟨by decide +kernel, by decide +kernel, by decide +kernel⟩, tw (i := 425) (by decide +kernel) (by decide +kernel), tw (i := 3) (by decide +kernel) (by decide +kernel)⟩
theorem im_X8_copyFrom : Cond.instanceMethod yX8_copyFrom ∈ gw := tw (i := 423) (by decide +kernel) (by decide +kernel)
theorem se_X8_copyFrom : Cond.selects (yX8_copyFrom).cls yX8_copyFrom yX8_copyFrom ∈ gw := tw (i := 424) (by decide +kernel) (by decide +kernel)
theorem ok_X9_init : MOK mX9_init 0 := ⟨by decide +kernel, rfl, by decide +kernel, ⟨by decide +kernel, by decide +kernel, by decide +kernel⟩, tw (i := 31) (by decide +kernel) (by decide +kernel), tw (i := 2) (by decide +kernel) (by decide +kernel)⟩
theorem im_X9_init : Cond.instanceMethod yX9_init ∈ gw := tw (i := 30) (by decide +kernel) (by decide +kernel)
theorem ok_X9_copyFrom : MOK mX9_copyFrom 1 := ⟨by decide +kernel, rfl, by decide +kernel, ⟨by decide +kernel, by decide +kernel, by decide +kernel⟩, tw (i := 531) (by decide +kernel) (by decide +kernel), tw (i := 2) (by decide +kernel) (by decide +kernel)⟩
theorem im_X9_copyFrom : Cond.instanceMethod yX9_copyFrom ∈ gw := tw (i := 529) (by decide +kernel) (by decide +kernel)
theorem se_X9_copyFrom : Cond.selects (yX9_copyFrom).cls yX9_copyFrom yX9_copyFrom ∈ gw := tw (i := 530) (by decide +kernel) (by decide +kernel)
theorem ok_X9_isUp : MOK mX9_isUp 1 := ⟨by decide +kernel, rfl, by decide +kernel, ⟨by decide +kernel, by decide +kernel, by decide +kernel⟩, tw (i := 455) (by decide +kernel) (by decide +kernel), tw (i := 2) (by decide +kernel) (by decide +kernel)⟩
theorem im_X9_isUp : Cond.instanceMethod yX9_isUp ∈ gw := tw (i := 453) (by decide +kernel) (by decide +kernel)
theorem se_X9_isUp : Cond.selects (yX9_isUp).cls yX9_isUp yX9_isUp ∈ gw := tw (i := 454) (by decide +kernel) (by decide +kernel)
theorem ok_X9_bringUp : MOK mX9_bringUp 1 := ⟨by decide +kernel, rfl, by decide +kernel, ⟨by decide +kernel, by decide +kernel, by decide +kernel⟩, tw (i := 731) (by decide +kernel) (by decide +kernel), tw (i := 2) (by decide +kernel) (by decide +kernel)⟩
theorem im_X9_bringUp : Cond.instanceMethod yX9_bringUp ∈ gw := tw (i := 729) (by decide +kernel) (by decide +kernel)
theorem se_X9_bringUp : Cond.selects (yX9_bringUp).cls yX9_bringUp yX9_bringUp ∈ gw := tw (i := 730) (by decide +kernel) (by decide +kernel)
theorem ok_X9_valueOf : MOK mX9_valueOf 2 := ⟨by decide +kernel, rfl, by decide +kernel, ⟨by decide +kernel, by decide +kernel, by decide +kernel⟩, tw (i := 483) (by decide +kernel) (by decide +kernel), tw (i := 2) (by decide +kernel) (by decide +kernel)⟩
theorem im_X9_valueOf : Cond.instanceMethod yX9_valueOf ∈ gw := tw (i := 481) (by decide +kernel) (by decide +kernel)
theorem se_X9_valueOf : Cond.selects (yX9_valueOf).cls yX9_valueOf yX9_valueOf ∈ gw := tw (i := 482) (by decide +kernel) (by decide +kernel)
theorem ok_X9_putValue : MOK mX9_putValue 3 := ⟨by decide +kernel, rfl, by decide +kernel, ⟨by decide +kernel, by decide +kernel, by decide +kernel⟩, tw (i := 496) (by decide +kernel) (by decide +kernel), tw (i := 2) (by decide +kernel) (by decide +kernel)⟩
theorem im_X9_putValue : Cond.instanceMethod yX9_putValue ∈ gw := tw (i := 494) (by decide +kernel) (by decide +kernel)
theorem se_X9_putValue : Cond.selects (yX9_putValue).cls yX9_putValue yX9_putValue ∈ gw := tw (i := 495) (by decide +kernel) (by decide +kernel)
theorem ok_X9_loseValues : MOK mX9_loseValues 3 := ⟨by decide +kernel, rfl, by decide +kernel, ⟨by decide +kernel, by decide +kernel, by decide +kernel⟩, tw (i := 745) (by decide +kernel) (by decide +kernel), tw (i := 2) (by decide +kernel) (by decide +kernel)⟩
theorem im_X9_loseValues : Cond.instanceMethod yX9_loseValues ∈ gw := tw (i := 743) (by decide +kernel) (by decide +kernel)
theorem se_X9_loseValues : Cond.selects (yX9_loseValues).cls yX9_loseValues yX9_loseValues ∈ gw := tw (i := 744) (by decide +kernel) (by decide +kernel)
theorem ok_X9_valuesIn : MOK mX9_valuesIn 3 := ⟨by decide +kernel, rfl, by decide +kernel, ⟨by decide +kernel, by decide +kernel, by decide +kernel⟩, tw (i := 927) (by decide +kernel) (by decide +kernel), tw (i := 2) (by decide +kernel) (by decide +kernel)⟩
theorem im_X9_valuesIn : Cond.instanceMethod yX9_valuesIn ∈ gw := tw (i := 925) (by decide +kernel) (by decide +kernel)
theorem se_X9_valuesIn : Cond.selects (yX9_valuesIn).cls yX9_valuesIn yX9_valuesIn ∈ gw := tw (i := 926) (by decide +kernel) (by decide +kernel)
theorem ok_X9_valuesAtOwners : MOK mX9_valuesAtOwners 0 := ⟨by decide +kernel, rfl, by decide +kernel, ⟨by decide +kernel, by decide +kernel, by decide +kernel⟩, tw (i := 1033) (by decide +kernel) (by decide +kernel), tw (i := 2) (by decide +kernel) (by decide +kernel)⟩
theorem im_X9_valuesAtOwners : Cond.instanceMethod yX9_valuesAtOwners ∈ gw := tw (i := 1031) (by decide +kernel) (by decide +kernel)
theorem se_X9_valuesAtOwners : Cond.selects (yX9_valuesAtOwners).cls yX9_valuesAtOwners yX9_valuesAtOwners ∈ gw := tw (i := 1032) (by decide +kernel) (by decide +kernel)
theorem ok_X9_isSound : MOK mX9_isSound 0 := ⟨by decide +kernel, rfl, by decide +kernel, ⟨by decide +kernel, by decide +kernel, by decide +kernel⟩, tw (i := 1048) (by decide +kernel) (by decide +kernel), tw (i := 2) (by decide +kernel) (by decide +kernel)⟩
theorem im_X9_isSound : Cond.instanceMethod yX9_isSound ∈ gw := tw (i := 1046) (by decide +kernel) (by decide +kernel)
theorem se_X9_isSound : Cond.selects (yX9_isSound).cls yX9_isSound yX9_isSound ∈ gw := tw (i := 1047) (by decide +kernel) (by decide +kernel)
theorem ok_X9_hasMove : MOK mX9_hasMove 1 := ⟨by decide +kernel, rfl, by decide +kernel, ⟨by decide +kernel, by decide +kernel, by decide +kernel⟩, tw (i := 654) (by decide +kernel) (by decide +kernel), tw (i := 2) (by decide +kernel) (by decide +kernel)⟩
theorem im_X9_hasMove : Cond.instanceMethod yX9_hasMove ∈ gw := tw (i := 652) (by decide +kernel) (by decide +kernel)
theorem se_X9_hasMove : Cond.selects (yX9_hasMove).cls yX9_hasMove yX9_hasMove ∈ gw := tw (i := 653) (by decide +kernel) (by decide +kernel)
theorem ok_X9_moveAt : MOK mX9_moveAt 1 := ⟨by decide +kernel, rfl, by decide +kernel, ⟨by decide +kernel, by decide +kernel, by decide +kernel⟩, tw (i := 459) (by decide +kernel) (by decide +kernel), tw (i := 2) (by decide +kernel) (by decide +kernel)⟩
theorem im_X9_moveAt : Cond.instanceMethod yX9_moveAt ∈ gw := tw (i := 457) (by decide +kernel) (by decide +kernel)
theorem se_X9_moveAt : Cond.selects (yX9_moveAt).cls yX9_moveAt yX9_moveAt ∈ gw := tw (i := 458) (by decide +kernel) (by decide +kernel)
theorem ok_X9_isFrozen : MOK mX9_isFrozen 1 := ⟨by decide +kernel, rfl, by decide +kernel, ⟨by decide +kernel, by decide +kernel, by decide +kernel⟩, tw (i := 922) (by decide +kernel) (by decide +kernel), tw (i := 2) (by decide +kernel) (by decide +kernel)⟩
theorem im_X9_isFrozen : Cond.instanceMethod yX9_isFrozen ∈ gw := tw (i := 920) (by decide +kernel) (by decide +kernel)
theorem se_X9_isFrozen : Cond.selects (yX9_isFrozen).cls yX9_isFrozen yX9_isFrozen ∈ gw := tw (i := 921) (by decide +kernel) (by decide +kernel)
theorem ok_X9_spansFrozen : MOK mX9_spansFrozen 0 := ⟨by decide +kernel, rfl, by decide +kernel, ⟨by decide +kernel, by decide +kernel, by decide +kernel⟩, tw (i := 1039) (by decide +kernel) (by decide +kernel), tw (i := 2) (by decide +kernel) (by decide +kernel)⟩
theorem im_X9_spansFrozen : Cond.instanceMethod yX9_spansFrozen ∈ gw := tw (i := 1037) (by decide +kernel) (by decide +kernel)
theorem se_X9_spansFrozen : Cond.selects (yX9_spansFrozen).cls yX9_spansFrozen yX9_spansFrozen ∈ gw := tw (i := 1038) (by decide +kernel) (by decide +kernel)
theorem ok_X9_canStep : MOK mX9_canStep 1 := ⟨by decide +kernel, rfl, by decide +kernel, ⟨by decide +kernel, by decide +kernel, by decide +kernel⟩, tw (i := 650) (by decide +kernel) (by decide +kernel), tw (i := 2) (by decide +kernel) (by decide +kernel)⟩
theorem im_X9_canStep : Cond.instanceMethod yX9_canStep ∈ gw := tw (i := 648) (by decide +kernel) (by decide +kernel)
theorem se_X9_canStep : Cond.selects (yX9_canStep).cls yX9_canStep yX9_canStep ∈ gw := tw (i := 649) (by decide +kernel) (by decide +kernel)
theorem ok_X9_bothUp : MOK mX9_bothUp 1 := ⟨by decide +kernel, rfl, by decide +kernel, ⟨by decide +kernel, by decide +kernel, by decide +kernel⟩, tw (i := 658) (by decide +kernel) (by decide +kernel), tw (i := 2) (by decide +kernel) (by decide +kernel)⟩
theorem im_X9_bothUp : Cond.instanceMethod yX9_bothUp ∈ gw := tw (i := 656) (by decide +kernel) (by decide +kernel)
theorem se_X9_bothUp : Cond.selects (yX9_bothUp).cls yX9_bothUp yX9_bothUp ∈ gw := tw (i := 657) (by decide +kernel) (by decide +kernel)
theorem ok_X9_movesFrom : MOK mX9_movesFrom 1 := ⟨by decide +kernel, rfl, by decide +kernel, ⟨by decide +kernel, by decide +kernel, by decide +kernel⟩, tw (i := 958) (by decide +kernel) (by decide +kernel), tw (i := 2) (by decide +kernel) (by decide +kernel)⟩
theorem im_X9_movesFrom : Cond.instanceMethod yX9_movesFrom ∈ gw := tw (i := 956) (by decide +kernel) (by decide +kernel)
theorem se_X9_movesFrom : Cond.selects (yX9_movesFrom).cls yX9_movesFrom yX9_movesFrom ∈ gw := tw (i := 957) (by decide +kernel) (by decide +kernel)
theorem ok_X9_movesTo : MOK mX9_movesTo 1 := ⟨by decide +kernel, rfl, by decide +kernel, ⟨by decide +kernel, by decide +kernel, by decide +kernel⟩, tw (i := 962) (by decide +kernel) (by decide +kernel), tw (i := 2) (by decide +kernel) (by decide +kernel)⟩
theorem im_X9_movesTo : Cond.instanceMethod yX9_movesTo ∈ gw := tw (i := 960) (by decide +kernel) (by decide +kernel)
theorem se_X9_movesTo : Cond.selects (yX9_movesTo).cls yX9_movesTo yX9_movesTo ∈ gw := tw (i := 961) (by decide +kernel) (by decide +kernel)
theorem ok_X9_movesGoingOn : MOK mX9_movesGoingOn 0 := ⟨by decide +kernel, rfl, by decide +kernel, ⟨by decide +kernel, by decide +kernel, by decide +kernel⟩, tw (i := 632) (by decide +kernel) (by decide +kernel), tw (i := 2) (by decide +kernel) (by decide +kernel)⟩
theorem im_X9_movesGoingOn : Cond.instanceMethod yX9_movesGoingOn ∈ gw := tw (i := 630) (by decide +kernel) (by decide +kernel)
theorem se_X9_movesGoingOn : Cond.selects (yX9_movesGoingOn).cls yX9_movesGoingOn yX9_movesGoingOn ∈ gw := tw (i := 631) (by decide +kernel) (by decide +kernel)
theorem ok_X9_movesBroken : MOK mX9_movesBroken 0 := ⟨by decide +kernel, rfl, by decide +kernel, ⟨by decide +kernel, by decide +kernel, by decide +kernel⟩, tw (i := 1029) (by decide +kernel) (by decide +kernel), tw (i := 2) (by decide +kernel) (by decide +kernel)⟩
theorem im_X9_movesBroken : Cond.instanceMethod yX9_movesBroken ∈ gw := tw (i := 1027) (by decide +kernel) (by decide +kernel)
theorem se_X9_movesBroken : Cond.selects (yX9_movesBroken).cls yX9_movesBroken yX9_movesBroken ∈ gw := tw (i := 1028) (by decide +kernel) (by decide +kernel)
theorem ok_X9_tellChunk : MOK mX9_tellChunk 1 := ⟨by decide +kernel, rfl, by decide +kernel, ⟨by decide +kernel, by decide +kernel, by decide +kernel⟩, tw (i := 774) (by decide +kernel) (by decide +kernel), tw (i := 2) (by decide +kernel) (by decide +kernel)⟩
theorem im_X9_tellChunk : Cond.instanceMethod yX9_tellChunk ∈ gw := tw (i := 772) (by decide +kernel) (by decide +kernel)
theorem se_X9_tellChunk : Cond.selects (yX9_tellChunk).cls yX9_tellChunk yX9_tellChunk ∈ gw := tw (i := 773) (by decide +kernel) (by decide +kernel)
theorem ok_X9_passedOn : MOK mX9_passedOn 2 := ⟨by decide +kernel, rfl, by decide +kernel, ⟨by decide +kernel, by decide +kernel, by decide +kernel⟩, tw (i := 1000) (by decide +kernel) (by decide +kernel), tw (i := 2) (by decide +kernel) (by decide +kernel)⟩
theorem im_X9_passedOn : Cond.instanceMethod yX9_passedOn ∈ gw := tw (i := 998) (by decide +kernel) (by decide +kernel)
theorem se_X9_passedOn : Cond.selects (yX9_passedOn).cls yX9_passedOn yX9_passedOn ∈ gw := tw (i := 999) (by decide +kernel) (by decide +kernel)
theorem ok_X9_ownerAt : MOK mX9_ownerAt 2 := ⟨by decide +kernel, rfl, by decide +kernel, ⟨by decide +kernel, by decide +kernel, by decide +kernel⟩, tw (i := 988) (by decide +kernel) (by decide +kernel), tw (i := 2) (by decide +kernel) (by decide +kernel)⟩
theorem im_X9_ownerAt : Cond.instanceMethod yX9_ownerAt ∈ gw := tw (i := 986) (by decide +kernel) (by decide +kernel)
theorem se_X9_ownerAt : Cond.selects (yX9_ownerAt).cls yX9_ownerAt yX9_ownerAt ∈ gw := tw (i := 987) (by decide +kernel) (by decide +kernel)
theorem ok_X9_halveWeights : MOK mX9_halveWeights 0 := ⟨by decide +kernel, rfl, by decide +kernel, ⟨by decide +kernel, by decide +kernel, by decide +kernel⟩, tw (i := 766) (by decide +kernel) (by decide +kernel), tw (i := 2) (by decide +kernel) (by decide +kernel)⟩
theorem im_X9_halveWeights : Cond.instanceMethod yX9_halveWeights ∈ gw := tw (i := 764) (by decide +kernel) (by decide +kernel)
theorem se_X9_halveWeights : Cond.selects (yX9_halveWeights).cls yX9_halveWeights yX9_halveWeights ∈ gw := tw (i := 765) (by decide +kernel) (by decide +kernel)
theorem ok_X9_keysAbove : MOK mX9_keysAbove 1 := ⟨by decide +kernel, rfl, by decide +kernel, ⟨by decide +kernel, by decide +kernel, by decide +kernel⟩, tw (i := 1071) (by decide +kernel) (by decide +kernel), tw (i := 2) (by decide +kernel) (by decide +kernel)⟩
theorem im_X9_keysAbove : Cond.instanceMethod yX9_keysAbove ∈ gw := tw (i := 1069) (by decide +kernel) (by decide +kernel)
theorem se_X9_keysAbove : Cond.selects (yX9_keysAbove).cls yX9_keysAbove yX9_keysAbove ∈ gw := tw (i := 1070) (by decide +kernel) (by decide +kernel)
theorem ok_X9_greatestWeight : MOK mX9_greatestWeight 0 := ⟨by decide +kernel, rfl, by decide +kernel, ⟨by decide +kernel, by decide +kernel, by decide +kernel⟩, tw (i := 1064) (by decide +kernel) (by decide +kernel), tw (i := 2) (by decide +kernel) (by decide +kernel)⟩
theorem im_X9_greatestWeight : Cond.instanceMethod yX9_greatestWeight ∈ gw := tw (i := 1062) (by decide +kernel) (by decide +kernel)
theorem se_X9_greatestWeight : Cond.selects (yX9_greatestWeight).cls yX9_greatestWeight yX9_greatestWeight ∈ gw := tw (i := 1063) (by decide +kernel) (by decide +kernel)
theorem ok_X9_weightByRank : MOK mX9_weightByRank 1 := ⟨by decide +kernel, rfl, by decide +kernel, ⟨by decide +kernel, by decide +kernel, by decide +kernel⟩, tw (i := 1060) (by decide +kernel) (by decide +kernel), tw (i := 2) (by decide +kernel) (by decide +kernel)⟩
theorem im_X9_weightByRank : Cond.instanceMethod yX9_weightByRank ∈ gw := tw (i := 1058) (by decide +kernel) (by decide +kernel)
theorem se_X9_weightByRank : Cond.selects (yX9_weightByRank).cls yX9_weightByRank yX9_weightByRank ∈ gw := tw (i := 1059) (by decide +kernel) (by decide +kernel)
theorem ok_X9_keyOfWeight : MOK mX9_keyOfWeight 2 := ⟨by decide +kernel, rfl, by decide +kernel, ⟨by decide +kernel, by decide +kernel, by decide +kernel⟩, tw (i := 1076) (by decide +kernel) (by decide +kernel), tw (i := 2) (by decide +kernel) (by decide +kernel)⟩
theorem im_X9_keyOfWeight : Cond.instanceMethod yX9_keyOfWeight ∈ gw := tw (i := 1074) (by decide +kernel) (by decide +kernel)
theorem se_X9_keyOfWeight : Cond.selects (yX9_keyOfWeight).cls yX9_keyOfWeight yX9_keyOfWeight ∈ gw := tw (i := 1075) (by decide +kernel) (by decide +kernel)
theorem ok_X9_cutsWithin : MOK mX9_cutsWithin 3 := ⟨by decide +kernel, rfl, by decide +kernel, ⟨by decide +kernel, by decide +kernel, by decide +kernel⟩, tw (i := 1085) (by decide +kernel) (by decide +kernel), tw (i := 2) (by decide +kernel) (by decide +kernel)⟩
theorem im_X9_cutsWithin : Cond.instanceMethod yX9_cutsWithin ∈ gw := tw (i := 1083) (by decide +kernel) (by decide +kernel)
theorem se_X9_cutsWithin : Cond.selects (yX9_cutsWithin).cls yX9_cutsWithin yX9_cutsWithin ∈ gw := tw (i := 1084) (by decide +kernel) (by decide +kernel)
theorem ok_X10_init : MOK mX10_init 0 := ⟨by decide +kernel, rfl, by decide +kernel, ⟨by decide +kernel, by decide +kernel, by decide +kernel⟩, tw (i := 23) (by decide +kernel) (by decide +kernel), tw (i := 1) (by decide +kernel) (by decide +kernel)⟩
theorem im_X10_init : Cond.instanceMethod yX10_init ∈ gw := tw (i := 22) (by decide +kernel) (by decide +kernel)
theorem ok_X10_fetch : MOK mX10_fetch 1 := ⟨by decide +kernel, rfl, by decide +kernel, ⟨by decide +kernel, by decide +kernel, by decide +kernel⟩, tw (i := 414) (by decide +kernel) (by decide +kernel), tw (i := 1) (by decide +kernel) (by decide +kernel)⟩
theorem im_X10_fetch : Cond.instanceMethod yX10_fetch ∈ gw := tw (i := 412) (by decide +kernel) (by decide +kernel)
theorem se_X10_fetch : Cond.selects (yX10_fetch).cls yX10_fetch yX10_fetch ∈ gw := tw (i := 413) (by decide +kernel) (by decide +kernel)
theorem ok_X10_read : MOK mX10_read 2 := ⟨by decide +kernel, rfl, by decide +kernel, ⟨by decide +kernel, by decide +kernel, by decide +kernel⟩, tw (i := 436) (by decide +kernel) (by decide +kernel), tw (i := 1) (by decide +kernel) (by decide +kernel)⟩
theorem im_X10_read : Cond.instanceMethod yX10_read ∈ gw := tw (i := 434) (by decide +kernel) (by decide +kernel)
theorem se_X10_read : Cond.selects (yX10_read).cls yX10_read yX10_read ∈ gw := tw (i := 435) (by decide +kernel) (by decide +kernel)
theorem ok_X10_write : MOK mX10_write 3 := ⟨by decide +kernel, rfl, by decide +kernel, ⟨by decide +kernel, by decide +kernel, by decide +kernel⟩, tw (i := 487) (by decide +kernel) (by decide +kernel), tw (i := 1) (by decide +kernel) (by decide +kernel)⟩
theorem im_X10_write : Cond.instanceMethod yX10_write ∈ gw := tw (i := 485) (by decide +kernel) (by decide +kernel)
theorem se_X10_write : Cond.selects (yX10_write).cls yX10_write yX10_write ∈ gw := tw (i := 486) (by decide +kernel) (by decide +kernel)
theorem ok_X10_insist : MOK mX10_insist 3 := ⟨by decide +kernel, rfl, by decide +kernel, ⟨by decide +kernel, by decide +kernel, by decide +kernel⟩, tw (i := 504) (by decide +kernel) (by decide +kernel), tw (i := 1) (by decide +kernel) (by decide +kernel)⟩
theorem im_X10_insist : Cond.instanceMethod yX10_insist ∈ gw := tw (i := 502) (by decide +kernel) (by decide +kernel)
theorem se_X10_insist : Cond.selects (yX10_insist).cls yX10_insist yX10_insist ∈ gw := tw (i := 503) (by decide +kernel) (by decide +kernel)
theorem ok_X10_scan : MOK mX10_scan 3 := ⟨by decide +kernel, rfl, by decide +kernel, ⟨by decide +kernel, by decide +kernel, by decide +kernel⟩, tw (i := 508) (by decide +kernel) (by decide +kernel), tw (i := 1) (by decide +kernel) (by decide +kernel)⟩
theorem im_X10_scan : Cond.instanceMethod yX10_scan ∈ gw := tw (i := 506) (by decide +kernel) (by decide +kernel)
theorem se_X10_scan : Cond.selects (yX10_scan).cls yX10_scan yX10_scan ∈ gw := tw (i := 507) (by decide +kernel) (by decide +kernel)
theorem ok_X10_clientOf : MOK mX10_clientOf 2 := ⟨by decide +kernel, rfl, by decide +kernel, ⟨by decide +kernel, by decide +kernel, by decide +kernel⟩, tw (i := 513) (by decide +kernel) (by decide +kernel), tw (i := 1) (by decide +kernel) (by decide +kernel)⟩
theorem im_X10_clientOf : Cond.instanceMethod yX10_clientOf ∈ gw := tw (i := 511) (by decide +kernel) (by decide +kernel)
theorem se_X10_clientOf : Cond.selects (yX10_clientOf).cls yX10_clientOf yX10_clientOf ∈ gw := tw (i := 512) (by decide +kernel) (by decide +kernel)
theorem ok_X10_split : MOK mX10_split 2 := ⟨by decide +kernel, rfl, by decide +kernel, ⟨by decide +kernel, by decide +kernel, by decide +kernel⟩, tw (i := 522) (by decide +kernel) (by decide +kernel), tw (i := 1) (by decide +kernel) (by decide +kernel)⟩
theorem im_X10_split : Cond.instanceMethod yX10_split ∈ gw := tw (i := 520) (by decide +kernel) (by decide +kernel)
theorem se_X10_split : Cond.selects (yX10_split).cls yX10_split yX10_split ∈ gw := tw (i := 521) (by decide +kernel) (by decide +kernel)
theorem ok_X10_middle : MOK mX10_middle 1 := ⟨by decide +kernel, rfl, by decide +kernel, ⟨by decide +kernel, by decide +kernel, by decide +kernel⟩, tw (i := 583) (by decide +kernel) (by decide +kernel), tw (i := 1) (by decide +kernel) (by decide +kernel)⟩
theorem im_X10_middle : Cond.instanceMethod yX10_middle ∈ gw := tw (i := 581) (by decide +kernel) (by decide +kernel)
theorem se_X10_middle : Cond.selects (yX10_middle).cls yX10_middle yX10_middle ∈ gw := tw (i := 582) (by decide +kernel) (by decide +kernel)
theorem ok_X10_join : MOK mX10_join 1 := ⟨by decide +kernel, rfl, by decide +kernel, ⟨by decide +kernel, by decide +kernel, by decide +kernel⟩, tw (i := 606) (by decide +kernel) (by decide +kernel), tw (i := 1) (by decide +kernel) (by decide +kernel)⟩
theorem im_X10_join : Cond.instanceMethod yX10_join ∈ gw := tw (i := 604) (by decide +kernel) (by decide +kernel)
theorem se_X10_join : Cond.selects (yX10_join).cls yX10_join yX10_join ∈ gw := tw (i := 605) (by decide +kernel) (by decide +kernel)
theorem ok_X10_move : MOK mX10_move 2 := ⟨by decide +kernel, rfl, by decide +kernel, ⟨by decide +kernel, by decide +kernel, by decide +kernel⟩, tw (i := 618) (by decide +kernel) (by decide +kernel), tw (i := 1) (by decide +kernel) (by decide +kernel)⟩
theorem im_X10_move : Cond.instanceMethod yX10_move ∈ gw := tw (i := 616) (by decide +kernel) (by decide +kernel)
theorem se_X10_move : Cond.selects (yX10_move).cls yX10_move yX10_move ∈ gw := tw (i := 617) (by decide +kernel) (by decide +kernel)
theorem ok_X10_step : MOK mX10_step 2 := ⟨by decide +kernel, rfl, by decide +kernel, ⟨by decide +kernel, by decide +kernel, by decide +kernel⟩, tw (i := 642) (by decide +kernel) (by decide +kernel), tw (i := 1) (by decide +kernel) (by decide +kernel)⟩
theorem im_X10_step : Cond.instanceMethod yX10_step ∈ gw := tw (i := 640) (by decide +kernel) (by decide +kernel)
theorem se_X10_step : Cond.selects (yX10_step).cls yX10_step yX10_step ∈ gw := tw (i := 641) (by decide +kernel) (by decide +kernel)
theorem ok_X10_fail : MOK mX10_fail 2 := ⟨by decide +kernel, rfl, by decide +kernel, ⟨by decide +kernel, by decide +kernel, by decide +kernel⟩, tw (i := 710) (by decide +kernel) (by decide +kernel), tw (i := 1) (by decide +kernel) (by decide +kernel)⟩
theorem im_X10_fail : Cond.instanceMethod yX10_fail ∈ gw := tw (i := 708) (by decide +kernel) (by decide +kernel)
theorem se_X10_fail : Cond.selects (yX10_fail).cls yX10_fail yX10_fail ∈ gw := tw (i := 709) (by decide +kernel) (by decide +kernel)
theorem ok_X10_down : MOK mX10_down 1 := ⟨by decide +kernel, rfl, by decide +kernel, ⟨by decide +kernel, by decide +kernel, by decide +kernel⟩, tw (i := 719) (by decide +kernel) (by decide +kernel), tw (i := 1) (by decide +kernel) (by decide +kernel)⟩
theorem im_X10_down : Cond.instanceMethod yX10_down ∈ gw := tw (i := 717) (by decide +kernel) (by decide +kernel)
theorem se_X10_down : Cond.selects (yX10_down).cls yX10_down yX10_down ∈ gw := tw (i := 718) (by decide +kernel) (by decide +kernel)
theorem ok_X10_up : MOK mX10_up 1 := ⟨by decide +kernel, rfl, by decide +kernel, ⟨by decide +kernel, by decide +kernel, by decide +kernel⟩, tw (i := 727) (by decide +kernel) (by decide +kernel), tw (i := 1) (by decide +kernel) (by decide +kernel)⟩
theorem im_X10_up : Cond.instanceMethod yX10_up ∈ gw := tw (i := 725) (by decide +kernel) (by decide +kernel)
theorem se_X10_up : Cond.selects (yX10_up).cls yX10_up yX10_up ∈ gw := tw (i := 726) (by decide +kernel) (by decide +kernel)
theorem ok_X10_recover : MOK mX10_recover 1 := ⟨by decide +kernel, rfl, by decide +kernel, ⟨by decide +kernel, by decide +kernel, by decide +kernel⟩, tw (i := 736) (by decide +kernel) (by decide +kernel), tw (i := 1) (by decide +kernel) (by decide +kernel)⟩
theorem im_X10_recover : Cond.instanceMethod yX10_recover ∈ gw := tw (i := 734) (by decide +kernel) (by decide +kernel)
theorem se_X10_recover : Cond.selects (yX10_recover).cls yX10_recover yX10_recover ∈ gw := tw (i := 735) (by decide +kernel) (by decide +kernel)
theorem ok_X10_give : MOK mX10_give 1 := ⟨by decide +kernel, rfl, by decide +kernel, ⟨by decide +kernel, by decide +kernel, by decide +kernel⟩, tw (i := 754) (by decide +kernel) (by decide +kernel), tw (i := 1) (by decide +kernel) (by decide +kernel)⟩
theorem im_X10_give : Cond.instanceMethod yX10_give ∈ gw := tw (i := 752) (by decide +kernel) (by decide +kernel)
theorem se_X10_give : Cond.selects (yX10_give).cls yX10_give yX10_give ∈ gw := tw (i := 753) (by decide +kernel) (by decide +kernel)
theorem ok_X10_age : MOK mX10_age 0 := ⟨by decide +kernel, rfl, by decide +kernel, ⟨by decide +kernel, by decide +kernel, by decide +kernel⟩, tw (i := 762) (by decide +kernel) (by decide +kernel), tw (i := 1) (by decide +kernel) (by decide +kernel)⟩
theorem im_X10_age : Cond.instanceMethod yX10_age ∈ gw := tw (i := 760) (by decide +kernel) (by decide +kernel)
theorem se_X10_age : Cond.selects (yX10_age).cls yX10_age yX10_age ∈ gw := tw (i := 761) (by decide +kernel) (by decide +kernel)
theorem ok_X10_chunk : MOK mX10_chunk 1 := ⟨by decide +kernel, rfl, by decide +kernel, ⟨by decide +kernel, by decide +kernel, by decide +kernel⟩, tw (i := 770) (by decide +kernel) (by decide +kernel), tw (i := 1) (by decide +kernel) (by decide +kernel)⟩
theorem im_X10_chunk : Cond.instanceMethod yX10_chunk ∈ gw := tw (i := 768) (by decide +kernel) (by decide +kernel)
theorem se_X10_chunk : Cond.selects (yX10_chunk).cls yX10_chunk yX10_chunk ∈ gw := tw (i := 769) (by decide +kernel) (by decide +kernel)
theorem ok_X10_feed : MOK mX10_feed 5 := ⟨by decide +kernel, rfl, by decide +kernel, ⟨by decide +kernel, by decide +kernel, by decide +kernel⟩, tw (i := 778) (by decide +kernel) (by decide +kernel), tw (i := 1) (by decide +kernel) (by decide +kernel)⟩
theorem im_X10_feed : Cond.instanceMethod yX10_feed ∈ gw := tw (i := 776) (by decide +kernel) (by decide +kernel)
theorem se_X10_feed : Cond.selects (yX10_feed).cls yX10_feed yX10_feed ∈ gw := tw (i := 777) (by decide +kernel) (by decide +kernel)
theorem ok_X10_end : MOK mX10_end 1 := ⟨by decide +kernel, rfl, by decide +kernel, ⟨by decide +kernel, by decide +kernel, by decide +kernel⟩, tw (i := 786) (by decide +kernel) (by decide +kernel), tw (i := 1) (by decide +kernel) (by decide +kernel)⟩
theorem im_X10_end : Cond.instanceMethod yX10_end ∈ gw := tw (i := 784) (by decide +kernel) (by decide +kernel)
theorem se_X10_end : Cond.selects (yX10_end).cls yX10_end yX10_end ∈ gw := tw (i := 785) (by decide +kernel) (by decide +kernel)
theorem ok_X10_script : MOK mX10_script 0 := ⟨by decide +kernel, rfl, by decide +kernel, ⟨by decide +kernel, by decide +kernel, by decide +kernel⟩, tw (i := 790) (by decide +kernel) (by decide +kernel), tw (i := 1) (by decide +kernel) (by decide +kernel)⟩
theorem im_X10_script : Cond.instanceMethod yX10_script ∈ gw := tw (i := 788) (by decide +kernel) (by decide +kernel)
theorem se_X10_script : Cond.selects (yX10_script).cls yX10_script yX10_script ∈ gw := tw (i := 789) (by decide +kernel) (by decide +kernel)
theorem ok_X10_fault : MOK mX10_fault 1 := ⟨by decide +kernel, rfl, by decide +kernel, ⟨by decide +kernel, by decide +kernel, by decide +kernel⟩, tw (i := 885) (by decide +kernel) (by decide +kernel), tw (i := 1) (by decide +kernel) (by decide +kernel)⟩
theorem im_X10_fault : Cond.instanceMethod yX10_fault ∈ gw := tw (i := 883) (by decide +kernel) (by decide +kernel)
theorem se_X10_fault : Cond.selects (yX10_fault).cls yX10_fault yX10_fault ∈ gw := tw (i := 884) (by decide +kernel) (by decide +kernel)
theorem ok_X10_undo : MOK mX10_undo 0 := ⟨by decide +kernel, rfl, by decide +kernel, ⟨by decide +kernel, by decide +kernel, by decide +kernel⟩, tw (i := 889) (by decide +kernel) (by decide +kernel), tw (i := 1) (by decide +kernel) (by decide +kernel)⟩
theorem im_X10_undo : Cond.instanceMethod yX10_undo ∈ gw := tw (i := 887) (by decide +kernel) (by decide +kernel)
theorem se_X10_undo : Cond.selects (yX10_undo).cls yX10_undo yX10_undo ∈ gw := tw (i := 888) (by decide +kernel) (by decide +kernel)
theorem ok_X10_image : MOK mX10_image 1 := ⟨by decide +kernel, rfl, by decide +kernel, ⟨by decide +kernel, by decide +kernel, by decide +kernel⟩, tw (i := 897) (by decide +kernel) (by decide +kernel), tw (i := 1) (by decide +kernel) (by decide +kernel)⟩
theorem im_X10_image : Cond.instanceMethod yX10_image ∈ gw := tw (i := 895) (by decide +kernel) (by decide +kernel)
theorem se_X10_image : Cond.selects (yX10_image).cls yX10_image yX10_image ∈ gw := tw (i := 896) (by decide +kernel) (by decide +kernel)
theorem ok_X10_span : MOK mX10_span 2 := ⟨by decide +kernel, rfl, by decide +kernel, ⟨by decide +kernel, by decide +kernel, by decide +kernel⟩, tw (i := 912) (by decide +kernel) (by decide +kernel), tw (i := 1) (by decide +kernel) (by decide +kernel)⟩
theorem im_X10_span : Cond.instanceMethod yX10_span ∈ gw := tw (i := 910) (by decide +kernel) (by decide +kernel)
theorem se_X10_span : Cond.selects (yX10_span).cls yX10_span yX10_span ∈ gw := tw (i := 911) (by decide +kernel) (by decide +kernel)
theorem ok_X10_weight : MOK mX10_weight 1 := ⟨by decide +kernel, rfl, by decide +kernel, ⟨by decide +kernel, by decide +kernel, by decide +kernel⟩, tw (i := 931) (by decide +kernel) (by decide +kernel), tw (i := 1) (by decide +kernel) (by decide +kernel)⟩
theorem im_X10_weight : Cond.instanceMethod yX10_weight ∈ gw := tw (i := 929) (by decide +kernel) (by decide +kernel)
theorem se_X10_weight : Cond.selects (yX10_weight).cls yX10_weight yX10_weight ∈ gw := tw (i := 930) (by decide +kernel) (by decide +kernel)
theorem ok_X10_middleOf : MOK mX10_middleOf 1 := ⟨by decide +kernel, rfl, by decide +kernel, ⟨by decide +kernel, by decide +kernel, by decide +kernel⟩, tw (i := 938) (by decide +kernel) (by decide +kernel), tw (i := 1) (by decide +kernel) (by decide +kernel)⟩
theorem im_X10_middleOf : Cond.instanceMethod yX10_middleOf ∈ gw := tw (i := 936) (by decide +kernel) (by decide +kernel)
theorem se_X10_middleOf : Cond.selects (yX10_middleOf).cls yX10_middleOf yX10_middleOf ∈ gw := tw (i := 937) (by decide +kernel) (by decide +kernel)
theorem ok_X10_lowOf : MOK mX10_lowOf 1 := ⟨by decide +kernel, rfl, by decide +kernel, ⟨by decide +kernel, by decide +kernel, by decide +kernel⟩, tw (i := 943) (by decide +kernel) (by decide +kernel), tw (i := 1) (by decide +kernel) (by decide +kernel)⟩
theorem im_X10_lowOf : Cond.instanceMethod yX10_lowOf ∈ gw := tw (i := 941) (by decide +kernel) (by decide +kernel)
theorem se_X10_lowOf : Cond.selects (yX10_lowOf).cls yX10_lowOf yX10_lowOf ∈ gw := tw (i := 942) (by decide +kernel) (by decide +kernel)
theorem ok_X10_server : MOK mX10_server 2 := ⟨by decide +kernel, rfl, by decide +kernel, ⟨by decide +kernel, by decide +kernel, by decide +kernel⟩, tw (i := 948) (by decide +kernel) (by decide +kernel), tw (i := 1) (by decide +kernel) (by decide +kernel)⟩
theorem im_X10_server : Cond.instanceMethod yX10_server ∈ gw := tw (i := 946) (by decide +kernel) (by decide +kernel)
theorem se_X10_server : Cond.selects (yX10_server).cls yX10_server yX10_server ∈ gw := tw (i := 947) (by decide +kernel) (by decide +kernel)
theorem ok_X10_load : MOK mX10_load 1 := ⟨by decide +kernel, rfl, by decide +kernel, ⟨by decide +kernel, by decide +kernel, by decide +kernel⟩, tw (i := 966) (by decide +kernel) (by decide +kernel), tw (i := 1) (by decide +kernel) (by decide +kernel)⟩
theorem im_X10_load : Cond.instanceMethod yX10_load ∈ gw := tw (i := 964) (by decide +kernel) (by decide +kernel)
theorem se_X10_load : Cond.selects (yX10_load).cls yX10_load yX10_load ∈ gw := tw (i := 965) (by decide +kernel) (by decide +kernel)
theorem ok_X10_stored : MOK mX10_stored 2 := ⟨by decide +kernel, rfl, by decide +kernel, ⟨by decide +kernel, by decide +kernel, by decide +kernel⟩, tw (i := 970) (by decide +kernel) (by decide +kernel), tw (i := 1) (by decide +kernel) (by decide +kernel)⟩
theorem im_X10_stored : Cond.instanceMethod yX10_stored ∈ gw := tw (i := 968) (by decide +kernel) (by decide +kernel)
theorem se_X10_stored : Cond.selects (yX10_stored).cls yX10_stored yX10_stored ∈ gw := tw (i := 969) (by decide +kernel) (by decide +kernel)
theorem ok_X10_moveOf : MOK mX10_moveOf 2 := ⟨by decide +kernel, rfl, by decide +kernel, ⟨by decide +kernel, by decide +kernel, by decide +kernel⟩, tw (i := 975) (by decide +kernel) (by decide +kernel), tw (i := 1) (by decide +kernel) (by decide +kernel)⟩
theorem im_X10_moveOf : Cond.instanceMethod yX10_moveOf ∈ gw := tw (i := 973) (by decide +kernel) (by decide +kernel)
theorem se_X10_moveOf : Cond.selects (yX10_moveOf).cls yX10_moveOf yX10_moveOf ∈ gw := tw (i := 974) (by decide +kernel) (by decide +kernel)
theorem ok_X10_trail : MOK mX10_trail 2 := ⟨by decide +kernel, rfl, by decide +kernel, ⟨by decide +kernel, by decide +kernel, by decide +kernel⟩, tw (i := 980) (by decide +kernel) (by decide +kernel), tw (i := 1) (by decide +kernel) (by decide +kernel)⟩
theorem im_X10_trail : Cond.instanceMethod yX10_trail ∈ gw := tw (i := 978) (by decide +kernel) (by decide +kernel)
theorem se_X10_trail : Cond.selects (yX10_trail).cls yX10_trail yX10_trail ∈ gw := tw (i := 979) (by decide +kernel) (by decide +kernel)
theorem ok_X10_owned : MOK mX10_owned 2 := ⟨by decide +kernel, rfl, by decide +kernel, ⟨by decide +kernel, by decide +kernel, by decide +kernel⟩, tw (i := 984) (by decide +kernel) (by decide +kernel), tw (i := 1) (by decide +kernel) (by decide +kernel)⟩
theorem im_X10_owned : Cond.instanceMethod yX10_owned ∈ gw := tw (i := 982) (by decide +kernel) (by decide +kernel)
theorem se_X10_owned : Cond.selects (yX10_owned).cls yX10_owned yX10_owned ∈ gw := tw (i := 983) (by decide +kernel) (by decide +kernel)
theorem ok_X10_passed : MOK mX10_passed 2 := ⟨by decide +kernel, rfl, by decide +kernel, ⟨by decide +kernel, by decide +kernel, by decide +kernel⟩, tw (i := 996) (by decide +kernel) (by decide +kernel), tw (i := 1) (by decide +kernel) (by decide +kernel)⟩
theorem im_X10_passed : Cond.instanceMethod yX10_passed ∈ gw := tw (i := 994) (by decide +kernel) (by decide +kernel)
theorem se_X10_passed : Cond.selects (yX10_passed).cls yX10_passed yX10_passed ∈ gw := tw (i := 995) (by decide +kernel) (by decide +kernel)
theorem ok_X10_changeOf : MOK mX10_changeOf 2 := ⟨by decide +kernel, rfl, by decide +kernel, ⟨by decide +kernel, by decide +kernel, by decide +kernel⟩, tw (i := 1004) (by decide +kernel) (by decide +kernel), tw (i := 1) (by decide +kernel) (by decide +kernel)⟩
theorem im_X10_changeOf : Cond.instanceMethod yX10_changeOf ∈ gw := tw (i := 1002) (by decide +kernel) (by decide +kernel)
theorem se_X10_changeOf : Cond.selects (yX10_changeOf).cls yX10_changeOf yX10_changeOf ∈ gw := tw (i := 1003) (by decide +kernel) (by decide +kernel)
theorem ok_X10_count : MOK mX10_count 1 := ⟨by decide +kernel, rfl, by decide +kernel, ⟨by decide +kernel, by decide +kernel, by decide +kernel⟩, tw (i := 1020) (by decide +kernel) (by decide +kernel), tw (i := 1) (by decide +kernel) (by decide +kernel)⟩
theorem im_X10_count : Cond.instanceMethod yX10_count ∈ gw := tw (i := 1018) (by decide +kernel) (by decide +kernel)
theorem se_X10_count : Cond.selects (yX10_count).cls yX10_count yX10_count ∈ gw := tw (i := 1019) (by decide +kernel) (by decide +kernel)
theorem ok_X10_look : MOK mX10_look 1 := ⟨by decide +kernel, rfl, by decide +kernel, ⟨by decide +kernel, by decide +kernel, by decide +kernel⟩, tw (i := 1024) (by decide +kernel) (by decide +kernel), tw (i := 1) (by decide +kernel) (by decide +kernel)⟩
theorem im_X10_look : Cond.instanceMethod yX10_look ∈ gw := tw (i := 1022) (by decide +kernel) (by decide +kernel)
theorem se_X10_look : Cond.selects (yX10_look).cls yX10_look yX10_look ∈ gw := tw (i := 1023) (by decide +kernel) (by decide +kernel)
theorem ok_X10_sound : MOK mX10_sound 0 := ⟨by decide +kernel, rfl, by decide +kernel, ⟨by decide +kernel, by decide +kernel, by decide +kernel⟩, tw (i := 1044) (by decide +kernel) (by decide +kernel), tw (i := 1) (by decide +kernel) (by decide +kernel)⟩
theorem im_X10_sound : Cond.instanceMethod yX10_sound ∈ gw := tw (i := 1042) (by decide +kernel) (by decide +kernel)
theorem se_X10_sound : Cond.selects (yX10_sound).cls yX10_sound yX10_sound ∈ gw := tw (i := 1043) (by decide +kernel) (by decide +kernel)
theorem ok_X10_spare : MOK mX10_spare 0 := ⟨by decide +kernel, rfl, by decide +kernel, ⟨by decide +kernel, by decide +kernel, by decide +kernel⟩, tw (i := 1052) (by decide +kernel) (by decide +kernel), tw (i := 1) (by decide +kernel) (by decide +kernel)⟩
theorem im_X10_spare : Cond.instanceMethod yX10_spare ∈ gw := tw (i := 1050) (by decide +kernel) (by decide +kernel)
theorem se_X10_spare : Cond.selects (yX10_spare).cls yX10_spare yX10_spare ∈ gw := tw (i := 1051) (by decide +kernel) (by decide +kernel)
theorem ok_X10_hot : MOK mX10_hot 2 := ⟨by decide +kernel, rfl, by decide +kernel, ⟨by decide +kernel, by decide +kernel, by decide +kernel⟩, tw (i := 1056) (by decide +kernel) (by decide +kernel), tw (i := 1) (by decide +kernel) (by decide +kernel)⟩
theorem im_X10_hot : Cond.instanceMethod yX10_hot ∈ gw := tw (i := 1054) (by decide +kernel) (by decide +kernel)
theorem se_X10_hot : Cond.selects (yX10_hot).cls yX10_hot yX10_hot ∈ gw := tw (i := 1055) (by decide +kernel) (by decide +kernel)
theorem ok_X10_cuts : MOK mX10_cuts 1 := ⟨by decide +kernel, rfl, by decide +kernel, ⟨by decide +kernel, by decide +kernel, by decide +kernel⟩, tw (i := 1080) (by decide +kernel) (by decide +kernel), tw (i := 1) (by decide +kernel) (by decide +kernel)⟩
theorem im_X10_cuts : Cond.instanceMethod yX10_cuts ∈ gw := tw (i := 1078) (by decide +kernel) (by decide +kernel)
theorem se_X10_cuts : Cond.selects (yX10_cuts).cls yX10_cuts yX10_cuts ∈ gw := tw (i := 1079) (by decide +kernel) (by decide +kernel)
theorem ok_X10_even : MOK mX10_even 0 := ⟨by decide +kernel, rfl, by decide +kernel, ⟨by decide +kernel, by decide +kernel, by decide +kernel⟩, tw (i := 1089) (by decide +kernel) (by decide +kernel), tw (i := 1) (by decide +kernel) (by decide +kernel)⟩
theorem im_X10_even : Cond.instanceMethod yX10_even ∈ gw := tw (i := 1087) (by decide +kernel) (by decide +kernel)
theorem se_X10_even : Cond.selects (yX10_even).cls yX10_even yX10_even ∈ gw := tw (i := 1088) (by decide +kernel) (by decide +kernel)
theorem ok_X10_next : MOK mX10_next 1 := ⟨by decide +kernel, rfl, by decide +kernel, ⟨by decide +kernel, by decide +kernel, by decide +kernel⟩, tw (i := 1109) (by decide +kernel) (by decide +kernel), tw (i := 1) (by decide +kernel) (by decide +kernel)⟩
theorem im_X10_next : Cond.instanceMethod yX10_next ∈ gw := tw (i := 1107) (by decide +kernel) (by decide +kernel)
theorem se_X10_next : Cond.selects (yX10_next).cls yX10_next yX10_next ∈ gw := tw (i := 1108) (by decide +kernel) (by decide +kernel)
theorem ok_X10_rounds : MOK mX10_rounds 1 := ⟨by decide +kernel, rfl, by decide +kernel, ⟨by decide +kernel, by decide +kernel, by decide +kernel⟩, tw (i := 1130) (by decide +kernel) (by decide +kernel), tw (i := 1) (by decide +kernel) (by decide +kernel)⟩
theorem im_X10_rounds : Cond.instanceMethod yX10_rounds ∈ gw := tw (i := 1128) (by decide +kernel) (by decide +kernel)
theorem se_X10_rounds : Cond.selects (yX10_rounds).cls yX10_rounds yX10_rounds ∈ gw := tw (i := 1129) (by decide +kernel) (by decide +kernel)
theorem ok_X10_emptied : MOK mX10_emptied 2 := ⟨by decide +kernel, rfl, by decide +kernel, ⟨by decide +kernel, by decide +kernel, by decide +kernel⟩, tw (i := 1146) (by decide +kernel) (by decide +kernel), tw (i := 1) (by decide +kernel) (by decide +kernel)⟩
theorem im_X10_emptied : Cond.instanceMethod yX10_emptied ∈ gw := tw (i := 1144) (by decide +kernel) (by decide +kernel)
theorem se_X10_emptied : Cond.selects (yX10_emptied).cls yX10_emptied yX10_emptied ∈ gw := tw (i := 1145) (by decide +kernel) (by decide +kernel)
theorem ok_X10_lasts : MOK mX10_lasts 1 := ⟨by decide +kernel, rfl, by decide +kernel, ⟨by decide +kernel, by decide +kernel, by decide +kernel⟩, tw (i := 1156) (by decide +kernel) (by decide +kernel), tw (i := 1) (by decide +kernel) (by decide +kernel)⟩
theorem im_X10_lasts : Cond.instanceMethod yX10_lasts ∈ gw := tw (i := 1154) (by decide +kernel) (by decide +kernel)
theorem se_X10_lasts : Cond.selects (yX10_lasts).cls yX10_lasts yX10_lasts ∈ gw := tw (i := 1155) (by decide +kernel) (by decide +kernel)
theorem ok_X10_kept : MOK mX10_kept 1 := ⟨by decide +kernel, rfl, by decide +kernel, ⟨by decide +kernel, by decide +kernel, by decide +kernel⟩, tw (i := 572) (by decide +kernel) (by decide +kernel), tw (i := 1) (by decide +kernel) (by decide +kernel)⟩
theorem im_X10_kept : Cond.instanceMethod yX10_kept ∈ gw := tw (i := 571) (by decide +kernel) (by decide +kernel)
theorem se_X10_kept : Cond.selects (yX10_kept).cls yX10_kept yX10_kept ∈ gw := tv (i := 1) (by decide +kernel) (by decide +kernel)
theorem ok_X10_takeImage : MOK mX10_takeImage 0 := ⟨by decide +kernel, rfl, by decide +kernel, ⟨by decide +kernel, by decide +kernel, by decide +kernel⟩, tw (i := 901) (by decide +kernel) (by decide +kernel), tw (i := 1) (by decide +kernel) (by decide +kernel)⟩
theorem im_X10_takeImage : Cond.instanceMethod yX10_takeImage ∈ gw := tw (i := 900) (by decide +kernel) (by decide +kernel)
theorem se_X10_takeImage : Cond.selects (yX10_takeImage).cls yX10_takeImage yX10_takeImage ∈ gw := tv (i := 17) (by decide +kernel) (by decide +kernel)
theorem ok_X10_runClause : MOK mX10_runClause 4 := ⟨by decide +kernel, rfl, by decide +kernel, ⟨by decide +kernel, by decide +kernel, by decide +kernel⟩, tw (i := 880) (by decide +kernel) (by decide +kernel), tw (i := 1) (by decide +kernel) (by decide +kernel)⟩
theorem im_X10_runClause : Cond.instanceMethod yX10_runClause ∈ gw := tw (i := 879) (by decide +kernel) (by decide +kernel)
theorem se_X10_runClause : Cond.selects (yX10_runClause).cls yX10_runClause yX10_runClause ∈ gw := tv (i := 16) (by decide +kernel) (by decide +kernel)
theorem ok_X10_isKey : MOK mX10_isKey 1 := ⟨by decide +kernel, rfl, by decide +kernel, ⟨by decide +kernel, by decide +kernel, by decide +kernel⟩, tw (i := 443) (by decide +kernel) (by decide +kernel), tw (i := 1) (by decide +kernel) (by decide +kernel)⟩
theorem sc_X10_isKey : Cond.static yX10_isKey ∈ gw := tw (i := 442) (by decide +kernel) (by decide +kernel)
theorem ok_X10_isServer : MOK mX10_isServer 1 := ⟨by decide +kernel, rfl, by decide +kernel, ⟨by decide +kernel, by decide +kernel, by decide +kernel⟩, tw (i := 626) (by decide +kernel) (by decide +kernel), tw (i := 1) (by decide +kernel) (by decide +kernel)⟩
theorem sc_X10_isServer : Cond.static yX10_isServer ∈ gw := tw (i := 625) (by decide +kernel) (by decide +kernel)
theorem ok_X10_isClient : MOK mX10_isClient 1 := ⟨by decide +kernel, rfl, by decide +kernel, ⟨by decide +kernel, by decide +kernel, by decide +kernel⟩, tw (i := 421) (by decide +kernel) (by decide +kernel), tw (i := 1) (by decide +kernel) (by decide +kernel)⟩
theorem sc_X10_isClient : Cond.static yX10_isClient ∈ gw := tw (i := 420) (by decide +kernel) (by decide +kernel)
theorem ok_X11_isIn : MOK mX11_isIn 3 := ⟨by decide +kernel, rfl, by decide +kernel, ⟨by decide +kernel, by decide +kernel, by decide +kernel⟩, tw (i := 1245) (by decide +kernel) (by decide +kernel), tw (i := 12) (by decide +kernel) (by decide +kernel)⟩
theorem sc_X11_isIn : Cond.static yX11_isIn ∈ gw := tw (i := 1244) (by decide +kernel) (by decide +kernel)
theorem ok_X11_init : MOK mX11_init 0 := ⟨by decide +kernel, rfl, by decide +kernel, ⟨by decide +kernel, by decide +kernel, by decide +kernel⟩, tw (i := 1168) (by decide +kernel) (by decide +kernel), tw (i := 12) (by decide +kernel) (by decide +kernel)⟩
theorem im_X11_init : Cond.instanceMethod yX11_init ∈ gw := tw (i := 1167) (by decide +kernel) (by decide +kernel)
theorem ok_X11_counts : MOK mX11_counts 2 := ⟨by decide +kernel, rfl, by decide +kernel, ⟨by decide +kernel, by decide +kernel, by decide +kernel⟩, tw (i := 1306) (by decide +kernel) (by decide +kernel), tw (i := 12) (by decide +kernel) (by decide +kernel)⟩
theorem im_X11_counts : Cond.instanceMethod yX11_counts ∈ gw := tw (i := 1305) (by decide +kernel) (by decide +kernel)
theorem se_X11_counts : Cond.selects (yX11_counts).cls yX11_counts yX11_counts ∈ gw := tv (i := 32) (by decide +kernel) (by decide +kernel)
theorem ok_X11_isKey : MOK mX11_isKey 1 := ⟨by decide +kernel, rfl, by decide +kernel, ⟨by decide +kernel, by decide +kernel, by decide +kernel⟩, tw (i := 1257) (by decide +kernel) (by decide +kernel), tw (i := 12) (by decide +kernel) (by decide +kernel)⟩
theorem sc_X11_isKey : Cond.static yX11_isKey ∈ gw := tw (i := 1256) (by decide +kernel) (by decide +kernel)
theorem ok_X11_isServer : MOK mX11_isServer 1 := ⟨by decide +kernel, rfl, by decide +kernel, ⟨by decide +kernel, by decide +kernel, by decide +kernel⟩, tw (i := 1392) (by decide +kernel) (by decide +kernel), tw (i := 12) (by decide +kernel) (by decide +kernel)⟩
theorem sc_X11_isServer : Cond.static yX11_isServer ∈ gw := tw (i := 1391) (by decide +kernel) (by decide +kernel)
theorem ok_X11_isClient : MOK mX11_isClient 1 := ⟨by decide +kernel, rfl, by decide +kernel, ⟨by decide +kernel, by decide +kernel, by decide +kernel⟩, tw (i := 1329) (by decide +kernel) (by decide +kernel), tw (i := 12) (by decide +kernel) (by decide +kernel)⟩
theorem sc_X11_isClient : Cond.static yX11_isClient ∈ gw := tw (i := 1328) (by decide +kernel) (by decide +kernel)
theorem ok_X11_storeAt : MOK mX11_storeAt 2 := ⟨by decide +kernel, rfl, by decide +kernel, ⟨by decide +kernel, by decide +kernel, by decide +kernel⟩, tw (i := 1372) (by decide +kernel) (by decide +kernel), tw (i := 12) (by decide +kernel) (by decide +kernel)⟩
theorem sc_X11_storeAt : Cond.static yX11_storeAt ∈ gw := tw (i := 1371) (by decide +kernel) (by decide +kernel)
theorem ok_X11_remembers : MOK mX11_remembers 1 := ⟨by decide +kernel, rfl, by decide +kernel, ⟨by decide +kernel, by decide +kernel, by decide +kernel⟩, tw (i := 1294) (by decide +kernel) (by decide +kernel), tw (i := 12) (by decide +kernel) (by decide +kernel)⟩
theorem im_X11_remembers : Cond.instanceMethod yX11_remembers ∈ gw := tw (i := 1293) (by decide +kernel) (by decide +kernel)
theorem se_X11_remembers : Cond.selects (yX11_remembers).cls yX11_remembers yX11_remembers ∈ gw := tv (i := 29) (by decide +kernel) (by decide +kernel)
theorem ok_X11_laysAside : MOK mX11_laysAside 0 := ⟨by decide +kernel, rfl, by decide +kernel, ⟨by decide +kernel, by decide +kernel, by decide +kernel⟩, tw (i := 1539) (by decide +kernel) (by decide +kernel), tw (i := 12) (by decide +kernel) (by decide +kernel)⟩
theorem im_X11_laysAside : Cond.instanceMethod yX11_laysAside ∈ gw := tw (i := 1538) (by decide +kernel) (by decide +kernel)
theorem se_X11_laysAside : Cond.selects (yX11_laysAside).cls yX11_laysAside yX11_laysAside ∈ gw := tv (i := 65) (by decide +kernel) (by decide +kernel)
theorem ok_X11_comesBack : MOK mX11_comesBack 0 := ⟨by decide +kernel, rfl, by decide +kernel, ⟨by decide +kernel, by decide +kernel, by decide +kernel⟩, tw (i := 1703) (by decide +kernel) (by decide +kernel), tw (i := 12) (by decide +kernel) (by decide +kernel)⟩
theorem im_X11_comesBack : Cond.instanceMethod yX11_comesBack ∈ gw := tw (i := 1702) (by decide +kernel) (by decide +kernel)
theorem se_X11_comesBack : Cond.selects (yX11_comesBack).cls yX11_comesBack yX11_comesBack ∈ gw := tv (i := 83) (by decide +kernel) (by decide +kernel)
theorem ok_X11_undo : MOK mX11_undo 0 := ⟨by decide +kernel, rfl, by decide +kernel, ⟨by decide +kernel, by decide +kernel, by decide +kernel⟩, tw (i := 1238) (by decide +kernel) (by decide +kernel), tw (i := 12) (by decide +kernel) (by decide +kernel)⟩
theorem im_X11_undo : Cond.instanceMethod yX11_undo ∈ gw := tw (i := 1236) (by decide +kernel) (by decide +kernel)
theorem se_X11_undo : Cond.selects (yX11_undo).cls yX11_undo yX11_undo ∈ gw := tw (i := 1237) (by decide +kernel) (by decide +kernel)
theorem ok_X11_spanWith : MOK mX11_spanWith 1 := ⟨by decide +kernel, rfl, by decide +kernel, ⟨by decide +kernel, by decide +kernel, by decide +kernel⟩, tw (i := 1262) (by decide +kernel) (by decide +kernel), tw (i := 12) (by decide +kernel) (by decide +kernel)⟩
theorem im_X11_spanWith : Cond.instanceMethod yX11_spanWith ∈ gw := tw (i := 1261) (by decide +kernel) (by decide +kernel)
theorem se_X11_spanWith : Cond.selects (yX11_spanWith).cls yX11_spanWith yX11_spanWith ∈ gw := tv (i := 22) (by decide +kernel) (by decide +kernel)
theorem ok_X11_endOf : MOK mX11_endOf 1 := ⟨by decide +kernel, rfl, by decide +kernel, ⟨by decide +kernel, by decide +kernel, by decide +kernel⟩, tw (i := 1286) (by decide +kernel) (by decide +kernel), tw (i := 12) (by decide +kernel) (by decide +kernel)⟩
theorem im_X11_endOf : Cond.instanceMethod yX11_endOf ∈ gw := tw (i := 1285) (by decide +kernel) (by decide +kernel)
theorem se_X11_endOf : Cond.selects (yX11_endOf).cls yX11_endOf yX11_endOf ∈ gw := tv (i := 27) (by decide +kernel) (by decide +kernel)
theorem ok_X11_named : MOK mX11_named 1 := ⟨by decide +kernel, rfl, by decide +kernel, ⟨by decide +kernel, by decide +kernel, by decide +kernel⟩, tw (i := 1254) (by decide +kernel) (by decide +kernel), tw (i := 12) (by decide +kernel) (by decide +kernel)⟩
theorem im_X11_named : Cond.instanceMethod yX11_named ∈ gw := tw (i := 1253) (by decide +kernel) (by decide +kernel)
theorem se_X11_named : Cond.selects (yX11_named).cls yX11_named yX11_named ∈ gw := tv (i := 21) (by decide +kernel) (by decide +kernel)
theorem ok_X11_moveAt : MOK mX11_moveAt 1 := ⟨by decide +kernel, rfl, by decide +kernel, ⟨by decide +kernel, by decide +kernel, by decide +kernel⟩, tw (i := 1281) (by decide +kernel) (by decide +kernel), tw (i := 12) (by decide +kernel) (by decide +kernel)⟩
theorem sc_X11_moveAt : Cond.static yX11_moveAt ∈ gw := tw (i := 1280) (by decide +kernel) (by decide +kernel)
theorem ok_X11_isGoing : MOK mX11_isGoing 1 := ⟨by decide +kernel, rfl, by decide +kernel, ⟨by decide +kernel, by decide +kernel, by decide +kernel⟩, tw (i := 1278) (by decide +kernel) (by decide +kernel), tw (i := 12) (by decide +kernel) (by decide +kernel)⟩
theorem im_X11_isGoing : Cond.instanceMethod yX11_isGoing ∈ gw := tw (i := 1277) (by decide +kernel) (by decide +kernel)
theorem se_X11_isGoing : Cond.selects (yX11_isGoing).cls yX11_isGoing yX11_isGoing ∈ gw := tv (i := 26) (by decide +kernel) (by decide +kernel)
theorem ok_X11_moveOfSpan : MOK mX11_moveOfSpan 1 := ⟨by decide +kernel, rfl, by decide +kernel, ⟨by decide +kernel, by decide +kernel, by decide +kernel⟩, tw (i := 1274) (by decide +kernel) (by decide +kernel), tw (i := 12) (by decide +kernel) (by decide +kernel)⟩
theorem im_X11_moveOfSpan : Cond.instanceMethod yX11_moveOfSpan ∈ gw := tw (i := 1273) (by decide +kernel) (by decide +kernel)
theorem se_X11_moveOfSpan : Cond.selects (yX11_moveOfSpan).cls yX11_moveOfSpan yX11_moveOfSpan ∈ gw := tv (i := 25) (by decide +kernel) (by decide +kernel)
theorem ok_X11_weightOf : MOK mX11_weightOf 1 := ⟨by decide +kernel, rfl, by decide +kernel, ⟨by decide +kernel, by decide +kernel, by decide +kernel⟩, tw (i := 1318) (by decide +kernel) (by decide +kernel), tw (i := 12) (by decide +kernel) (by decide +kernel)⟩
theorem im_X11_weightOf : Cond.instanceMethod yX11_weightOf ∈ gw := tw (i := 1317) (by decide +kernel) (by decide +kernel)
theorem se_X11_weightOf : Cond.selects (yX11_weightOf).cls yX11_weightOf yX11_weightOf ∈ gw := tv (i := 34) (by decide +kernel) (by decide +kernel)
theorem ok_X11_loadOf : MOK mX11_loadOf 1 := ⟨by decide +kernel, rfl, by decide +kernel, ⟨by decide +kernel, by decide +kernel, by decide +kernel⟩, tw (i := 1614) (by decide +kernel) (by decide +kernel), tw (i := 12) (by decide +kernel) (by decide +kernel)⟩
theorem im_X11_loadOf : Cond.instanceMethod yX11_loadOf ∈ gw := tw (i := 1613) (by decide +kernel) (by decide +kernel)
theorem se_X11_loadOf : Cond.selects (yX11_loadOf).cls yX11_loadOf yX11_loadOf ∈ gw := tv (i := 73) (by decide +kernel) (by decide +kernel)
theorem ok_X11_middleIn : MOK mX11_middleIn 1 := ⟨by decide +kernel, rfl, by decide +kernel, ⟨by decide +kernel, by decide +kernel, by decide +kernel⟩, tw (i := 1314) (by decide +kernel) (by decide +kernel), tw (i := 12) (by decide +kernel) (by decide +kernel)⟩
theorem im_X11_middleIn : Cond.instanceMethod yX11_middleIn ∈ gw := tw (i := 1313) (by decide +kernel) (by decide +kernel)
theorem se_X11_middleIn : Cond.selects (yX11_middleIn).cls yX11_middleIn yX11_middleIn ∈ gw := tv (i := 33) (by decide +kernel) (by decide +kernel)
theorem ok_X11_notes : MOK mX11_notes 3 := ⟨by decide +kernel, rfl, by decide +kernel, ⟨by decide +kernel, by decide +kernel, by decide +kernel⟩, tw (i := 1302) (by decide +kernel) (by decide +kernel), tw (i := 12) (by decide +kernel) (by decide +kernel)⟩
theorem im_X11_notes : Cond.instanceMethod yX11_notes ∈ gw := tw (i := 1301) (by decide +kernel) (by decide +kernel)
theorem se_X11_notes : Cond.selects (yX11_notes).cls yX11_notes yX11_notes ∈ gw := tv (i := 31) (by decide +kernel) (by decide +kernel)
theorem ok_X11_changeOf : MOK mX11_changeOf 2 := ⟨by decide +kernel, rfl, by decide +kernel, ⟨by decide +kernel, by decide +kernel, by decide +kernel⟩, tw (i := 1242) (by decide +kernel) (by decide +kernel), tw (i := 12) (by decide +kernel) (by decide +kernel)⟩
theorem im_X11_changeOf : Cond.instanceMethod yX11_changeOf ∈ gw := tw (i := 1240) (by decide +kernel) (by decide +kernel)
theorem se_X11_changeOf : Cond.selects (yX11_changeOf).cls yX11_changeOf yX11_changeOf ∈ gw := tw (i := 1241) (by decide +kernel) (by decide +kernel)
theorem ok_X11_splits : MOK mX11_splits 2 := ⟨by decide +kernel, rfl, by decide +kernel, ⟨by decide +kernel, by decide +kernel, by decide +kernel⟩, tw (i := 1298) (by decide +kernel) (by decide +kernel), tw (i := 12) (by decide +kernel) (by decide +kernel)⟩
theorem im_X11_splits : Cond.instanceMethod yX11_splits ∈ gw := tw (i := 1297) (by decide +kernel) (by decide +kernel)
theorem se_X11_splits : Cond.selects (yX11_splits).cls yX11_splits yX11_splits ∈ gw := tv (i := 30) (by decide +kernel) (by decide +kernel)
theorem ok_X11_canSplit : MOK mX11_canSplit 2 := ⟨by decide +kernel, rfl, by decide +kernel, ⟨by decide +kernel, by decide +kernel, by decide +kernel⟩, tw (i := 1270) (by decide +kernel) (by decide +kernel), tw (i := 12) (by decide +kernel) (by decide +kernel)⟩
theorem im_X11_canSplit : Cond.instanceMethod yX11_canSplit ∈ gw := tw (i := 1269) (by decide +kernel) (by decide +kernel)
theorem se_X11_canSplit : Cond.selects (yX11_canSplit).cls yX11_canSplit yX11_canSplit ∈ gw := tv (i := 24) (by decide +kernel) (by decide +kernel)
theorem ok_X11_splitAt : MOK mX11_splitAt 3 := ⟨by decide +kernel, rfl, by decide +kernel, ⟨by decide +kernel, by decide +kernel, by decide +kernel⟩, tw (i := 1266) (by decide +kernel) (by decide +kernel), tw (i := 12) (by decide +kernel) (by decide +kernel)⟩
theorem im_X11_splitAt : Cond.instanceMethod yX11_splitAt ∈ gw := tw (i := 1265) (by decide +kernel) (by decide +kernel)
theorem se_X11_splitAt : Cond.selects (yX11_splitAt).cls yX11_splitAt yX11_splitAt ∈ gw := tv (i := 23) (by decide +kernel) (by decide +kernel)
theorem ok_X11_split : MOK mX11_split 2 := ⟨by decide +kernel, rfl, by decide +kernel, ⟨by decide +kernel, by decide +kernel, by decide +kernel⟩, tw (i := 1250) (by decide +kernel) (by decide +kernel), tw (i := 12) (by decide +kernel) (by decide +kernel)⟩
theorem im_X11_split : Cond.instanceMethod yX11_split ∈ gw := tw (i := 1248) (by decide +kernel) (by decide +kernel)
theorem se_X11_split : Cond.selects (yX11_split).cls yX11_split yX11_split ∈ gw := tw (i := 1249) (by decide +kernel) (by decide +kernel)
theorem ok_X11_middle : MOK mX11_middle 1 := ⟨by decide +kernel, rfl, by decide +kernel, ⟨by decide +kernel, by decide +kernel, by decide +kernel⟩, tw (i := 1310) (by decide +kernel) (by decide +kernel), tw (i := 12) (by decide +kernel) (by decide +kernel)⟩
theorem im_X11_middle : Cond.instanceMethod yX11_middle ∈ gw := tw (i := 1308) (by decide +kernel) (by decide +kernel)
theorem se_X11_middle : Cond.selects (yX11_middle).cls yX11_middle yX11_middle ∈ gw := tw (i := 1309) (by decide +kernel) (by decide +kernel)
theorem ok_X11_join : MOK mX11_join 1 := ⟨by decide +kernel, rfl, by decide +kernel, ⟨by decide +kernel, by decide +kernel, by decide +kernel⟩, tw (i := 1322) (by decide +kernel) (by decide +kernel), tw (i := 12) (by decide +kernel) (by decide +kernel)⟩
theorem im_X11_join : Cond.instanceMethod yX11_join ∈ gw := tw (i := 1320) (by decide +kernel) (by decide +kernel)
theorem se_X11_join : Cond.selects (yX11_join).cls yX11_join yX11_join ∈ gw := tw (i := 1321) (by decide +kernel) (by decide +kernel)
theorem ok_X11_acts : MOK mX11_acts 0 := ⟨by decide +kernel, rfl, by decide +kernel, ⟨by decide +kernel, by decide +kernel, by decide +kernel⟩, tw (i := 1290) (by decide +kernel) (by decide +kernel), tw (i := 12) (by decide +kernel) (by decide +kernel)⟩
theorem im_X11_acts : Cond.instanceMethod yX11_acts ∈ gw := tw (i := 1289) (by decide +kernel) (by decide +kernel)
theorem se_X11_acts : Cond.selects (yX11_acts).cls yX11_acts yX11_acts ∈ gw := tv (i := 28) (by decide +kernel) (by decide +kernel)
theorem ok_X11_forgets : MOK mX11_forgets 0 := ⟨by decide +kernel, rfl, by decide +kernel, ⟨by decide +kernel, by decide +kernel, by decide +kernel⟩, tw (i := 1334) (by decide +kernel) (by decide +kernel), tw (i := 12) (by decide +kernel) (by decide +kernel)⟩
theorem im_X11_forgets : Cond.instanceMethod yX11_forgets ∈ gw := tw (i := 1333) (by decide +kernel) (by decide +kernel)
theorem se_X11_forgets : Cond.selects (yX11_forgets).cls yX11_forgets yX11_forgets ∈ gw := tv (i := 35) (by decide +kernel) (by decide +kernel)
theorem ok_X11_clientAt : MOK mX11_clientAt 1 := ⟨by decide +kernel, rfl, by decide +kernel, ⟨by decide +kernel, by decide +kernel, by decide +kernel⟩, tw (i := 1341) (by decide +kernel) (by decide +kernel), tw (i := 12) (by decide +kernel) (by decide +kernel)⟩
theorem sc_X11_clientAt : Cond.static yX11_clientAt ∈ gw := tw (i := 1340) (by decide +kernel) (by decide +kernel)
theorem ok_X11_fetches : MOK mX11_fetches 1 := ⟨by decide +kernel, rfl, by decide +kernel, ⟨by decide +kernel, by decide +kernel, by decide +kernel⟩, tw (i := 1338) (by decide +kernel) (by decide +kernel), tw (i := 12) (by decide +kernel) (by decide +kernel)⟩
theorem im_X11_fetches : Cond.instanceMethod yX11_fetches ∈ gw := tw (i := 1337) (by decide +kernel) (by decide +kernel)
theorem se_X11_fetches : Cond.selects (yX11_fetches).cls yX11_fetches yX11_fetches ∈ gw := tv (i := 36) (by decide +kernel) (by decide +kernel)
theorem ok_X11_fetch : MOK mX11_fetch 1 := ⟨by decide +kernel, rfl, by decide +kernel, ⟨by decide +kernel, by decide +kernel, by decide +kernel⟩, tw (i := 1326) (by decide +kernel) (by decide +kernel), tw (i := 12) (by decide +kernel) (by decide +kernel)⟩
theorem im_X11_fetch : Cond.instanceMethod yX11_fetch ∈ gw := tw (i := 1324) (by decide +kernel) (by decide +kernel)
theorem se_X11_fetch : Cond.selects (yX11_fetch).cls yX11_fetch yX11_fetch ∈ gw := tw (i := 1325) (by decide +kernel) (by decide +kernel)
theorem ok_X11_answerBy : MOK mX11_answerBy 2 := ⟨by decide +kernel, rfl, by decide +kernel, ⟨by decide +kernel, by decide +kernel, by decide +kernel⟩, tw (i := 1353) (by decide +kernel) (by decide +kernel), tw (i := 12) (by decide +kernel) (by decide +kernel)⟩
theorem im_X11_answerBy : Cond.instanceMethod yX11_answerBy ∈ gw := tw (i := 1352) (by decide +kernel) (by decide +kernel)
theorem se_X11_answerBy : Cond.selects (yX11_answerBy).cls yX11_answerBy yX11_answerBy ∈ gw := tv (i := 38) (by decide +kernel) (by decide +kernel)
theorem ok_X11_isInTrail : MOK mX11_isInTrail 2 := ⟨by decide +kernel, rfl, by decide +kernel, ⟨by decide +kernel, by decide +kernel, by decide +kernel⟩, tw (i := 1365) (by decide +kernel) (by decide +kernel), tw (i := 12) (by decide +kernel) (by decide +kernel)⟩
theorem im_X11_isInTrail : Cond.instanceMethod yX11_isInTrail ∈ gw := tw (i := 1364) (by decide +kernel) (by decide +kernel)
theorem se_X11_isInTrail : Cond.selects (yX11_isInTrail).cls yX11_isInTrail yX11_isInTrail ∈ gw := tv (i := 41) (by decide +kernel) (by decide +kernel)
theorem ok_X11_isCatching : MOK mX11_isCatching 1 := ⟨by decide +kernel, rfl, by decide +kernel, ⟨by decide +kernel, by decide +kernel, by decide +kernel⟩, tw (i := 1361) (by decide +kernel) (by decide +kernel), tw (i := 12) (by decide +kernel) (by decide +kernel)⟩
theorem im_X11_isCatching : Cond.instanceMethod yX11_isCatching ∈ gw := tw (i := 1360) (by decide +kernel) (by decide +kernel)
theorem se_X11_isCatching : Cond.selects (yX11_isCatching).cls yX11_isCatching yX11_isCatching ∈ gw := tv (i := 40) (by decide +kernel) (by decide +kernel)
theorem ok_X11_isFrozen : MOK mX11_isFrozen 1 := ⟨by decide +kernel, rfl, by decide +kernel, ⟨by decide +kernel, by decide +kernel, by decide +kernel⟩, tw (i := 1357) (by decide +kernel) (by decide +kernel), tw (i := 12) (by decide +kernel) (by decide +kernel)⟩
theorem im_X11_isFrozen : Cond.instanceMethod yX11_isFrozen ∈ gw := tw (i := 1356) (by decide +kernel) (by decide +kernel)
theorem se_X11_isFrozen : Cond.selects (yX11_isFrozen).cls yX11_isFrozen yX11_isFrozen ∈ gw := tv (i := 39) (by decide +kernel) (by decide +kernel)
theorem ok_X11_isWritten : MOK mX11_isWritten 2 := ⟨by decide +kernel, rfl, by decide +kernel, ⟨by decide +kernel, by decide +kernel, by decide +kernel⟩, tw (i := 1369) (by decide +kernel) (by decide +kernel), tw (i := 12) (by decide +kernel) (by decide +kernel)⟩
theorem im_X11_isWritten : Cond.instanceMethod yX11_isWritten ∈ gw := tw (i := 1368) (by decide +kernel) (by decide +kernel)
theorem se_X11_isWritten : Cond.selects (yX11_isWritten).cls yX11_isWritten yX11_isWritten ∈ gw := tv (i := 42) (by decide +kernel) (by decide +kernel)
theorem ok_X11_asks : MOK mX11_asks 3 := ⟨by decide +kernel, rfl, by decide +kernel, ⟨by decide +kernel, by decide +kernel, by decide +kernel⟩, tw (i := 1349) (by decide +kernel) (by decide +kernel), tw (i := 12) (by decide +kernel) (by decide +kernel)⟩
theorem im_X11_asks : Cond.instanceMethod yX11_asks ∈ gw := tw (i := 1348) (by decide +kernel) (by decide +kernel)
theorem se_X11_asks : Cond.selects (yX11_asks).cls yX11_asks yX11_asks ∈ gw := tv (i := 37) (by decide +kernel) (by decide +kernel)
theorem ok_X11_read : MOK mX11_read 2 := ⟨by decide +kernel, rfl, by decide +kernel, ⟨by decide +kernel, by decide +kernel, by decide +kernel⟩, tw (i := 1345) (by decide +kernel) (by decide +kernel), tw (i := 12) (by decide +kernel) (by decide +kernel)⟩
theorem im_X11_read : Cond.instanceMethod yX11_read ∈ gw := tw (i := 1343) (by decide +kernel) (by decide +kernel)
theorem se_X11_read : Cond.selects (yX11_read).cls yX11_read yX11_read ∈ gw := tw (i := 1344) (by decide +kernel) (by decide +kernel)
theorem ok_X11_canWrite : MOK mX11_canWrite 3 := ⟨by decide +kernel, rfl, by decide +kernel, ⟨by decide +kernel, by decide +kernel, by decide +kernel⟩, tw (i := 1379) (by decide +kernel) (by decide +kernel), tw (i := 12) (by decide +kernel) (by decide +kernel)⟩
theorem sc_X11_canWrite : Cond.static yX11_canWrite ∈ gw := tw (i := 1378) (by decide +kernel) (by decide +kernel)
theorem ok_X11_write : MOK mX11_write 3 := ⟨by decide +kernel, rfl, by decide +kernel, ⟨by decide +kernel, by decide +kernel, by decide +kernel⟩, tw (i := 1376) (by decide +kernel) (by decide +kernel), tw (i := 12) (by decide +kernel) (by decide +kernel)⟩
theorem im_X11_write : Cond.instanceMethod yX11_write ∈ gw := tw (i := 1374) (by decide +kernel) (by decide +kernel)
theorem se_X11_write : Cond.selects (yX11_write).cls yX11_write yX11_write ∈ gw := tw (i := 1375) (by decide +kernel) (by decide +kernel)
theorem ok_X11_insist : MOK mX11_insist 3 := ⟨by decide +kernel, rfl, by decide +kernel, ⟨by decide +kernel, by decide +kernel, by decide +kernel⟩, tw (i := 1384) (by decide +kernel) (by decide +kernel), tw (i := 12) (by decide +kernel) (by decide +kernel)⟩
theorem im_X11_insist : Cond.instanceMethod yX11_insist ∈ gw := tw (i := 1382) (by decide +kernel) (by decide +kernel)
theorem se_X11_insist : Cond.selects (yX11_insist).cls yX11_insist yX11_insist ∈ gw := tw (i := 1383) (by decide +kernel) (by decide +kernel)
theorem ok_X11_going : MOK mX11_going 0 := ⟨by decide +kernel, rfl, by decide +kernel, ⟨by decide +kernel, by decide +kernel, by decide +kernel⟩, tw (i := 1396) (by decide +kernel) (by decide +kernel), tw (i := 12) (by decide +kernel) (by decide +kernel)⟩
theorem im_X11_going : Cond.instanceMethod yX11_going ∈ gw := tw (i := 1395) (by decide +kernel) (by decide +kernel)
theorem se_X11_going : Cond.selects (yX11_going).cls yX11_going yX11_going ∈ gw := tv (i := 43) (by decide +kernel) (by decide +kernel)
theorem ok_X11_move : MOK mX11_move 2 := ⟨by decide +kernel, rfl, by decide +kernel, ⟨by decide +kernel, by decide +kernel, by decide +kernel⟩, tw (i := 1389) (by decide +kernel) (by decide +kernel), tw (i := 12) (by decide +kernel) (by decide +kernel)⟩
theorem im_X11_move : Cond.instanceMethod yX11_move ∈ gw := tw (i := 1387) (by decide +kernel) (by decide +kernel)
theorem se_X11_move : Cond.selects (yX11_move).cls yX11_move yX11_move ∈ gw := tw (i := 1388) (by decide +kernel) (by decide +kernel)
theorem ok_X11_goesOver : MOK mX11_goesOver 3 := ⟨by decide +kernel, rfl, by decide +kernel, ⟨by decide +kernel, by decide +kernel, by decide +kernel⟩, tw (i := 1425) (by decide +kernel) (by decide +kernel), tw (i := 12) (by decide +kernel) (by decide +kernel)⟩
theorem im_X11_goesOver : Cond.instanceMethod yX11_goesOver ∈ gw := tw (i := 1424) (by decide +kernel) (by decide +kernel)
theorem se_X11_goesOver : Cond.selects (yX11_goesOver).cls yX11_goesOver yX11_goesOver ∈ gw := tv (i := 49) (by decide +kernel) (by decide +kernel)
theorem ok_X11_catchesUp : MOK mX11_catchesUp 2 := ⟨by decide +kernel, rfl, by decide +kernel, ⟨by decide +kernel, by decide +kernel, by decide +kernel⟩, tw (i := 1421) (by decide +kernel) (by decide +kernel), tw (i := 12) (by decide +kernel) (by decide +kernel)⟩
theorem im_X11_catchesUp : Cond.instanceMethod yX11_catchesUp ∈ gw := tw (i := 1420) (by decide +kernel) (by decide +kernel)
theorem se_X11_catchesUp : Cond.selects (yX11_catchesUp).cls yX11_catchesUp yX11_catchesUp ∈ gw := tv (i := 48) (by decide +kernel) (by decide +kernel)
theorem ok_X11_switches : MOK mX11_switches 1 := ⟨by decide +kernel, rfl, by decide +kernel, ⟨by decide +kernel, by decide +kernel, by decide +kernel⟩, tw (i := 1437) (by decide +kernel) (by decide +kernel), tw (i := 12) (by decide +kernel) (by decide +kernel)⟩
theorem im_X11_switches : Cond.instanceMethod yX11_switches ∈ gw := tw (i := 1436) (by decide +kernel) (by decide +kernel)
theorem se_X11_switches : Cond.selects (yX11_switches).cls yX11_switches yX11_switches ∈ gw := tv (i := 52) (by decide +kernel) (by decide +kernel)
theorem ok_X11_goesOn : MOK mX11_goesOn 3 := ⟨by decide +kernel, rfl, by decide +kernel, ⟨by decide +kernel, by decide +kernel, by decide +kernel⟩, tw (i := 1433) (by decide +kernel) (by decide +kernel), tw (i := 12) (by decide +kernel) (by decide +kernel)⟩
theorem im_X11_goesOn : Cond.instanceMethod yX11_goesOn ∈ gw := tw (i := 1432) (by decide +kernel) (by decide +kernel)
theorem se_X11_goesOn : Cond.selects (yX11_goesOn).cls yX11_goesOn yX11_goesOn ∈ gw := tv (i := 51) (by decide +kernel) (by decide +kernel)
theorem ok_X11_steps : MOK mX11_steps 1 := ⟨by decide +kernel, rfl, by decide +kernel, ⟨by decide +kernel, by decide +kernel, by decide +kernel⟩, tw (i := 1429) (by decide +kernel) (by decide +kernel), tw (i := 12) (by decide +kernel) (by decide +kernel)⟩
theorem im_X11_steps : Cond.instanceMethod yX11_steps ∈ gw := tw (i := 1428) (by decide +kernel) (by decide +kernel)
theorem se_X11_steps : Cond.selects (yX11_steps).cls yX11_steps yX11_steps ∈ gw := tv (i := 50) (by decide +kernel) (by decide +kernel)
theorem ok_X11_fails : MOK mX11_fails 1 := ⟨by decide +kernel, rfl, by decide +kernel, ⟨by decide +kernel, by decide +kernel, by decide +kernel⟩, tw (i := 1417) (by decide +kernel) (by decide +kernel), tw (i := 12) (by decide +kernel) (by decide +kernel)⟩
theorem im_X11_fails : Cond.instanceMethod yX11_fails ∈ gw := tw (i := 1416) (by decide +kernel) (by decide +kernel)
theorem se_X11_fails : Cond.selects (yX11_fails).cls yX11_fails yX11_fails ∈ gw := tv (i := 47) (by decide +kernel) (by decide +kernel)
theorem ok_X11_stepsOnce : MOK mX11_stepsOnce 1 := ⟨by decide +kernel, rfl, by decide +kernel, ⟨by decide +kernel, by decide +kernel, by decide +kernel⟩, tw (i := 1413) (by decide +kernel) (by decide +kernel), tw (i := 12) (by decide +kernel) (by decide +kernel)⟩
theorem im_X11_stepsOnce : Cond.instanceMethod yX11_stepsOnce ∈ gw := tw (i := 1412) (by decide +kernel) (by decide +kernel)
theorem se_X11_stepsOnce : Cond.selects (yX11_stepsOnce).cls yX11_stepsOnce yX11_stepsOnce ∈ gw := tv (i := 46) (by decide +kernel) (by decide +kernel)
theorem ok_X11_isMove : MOK mX11_isMove 1 := ⟨by decide +kernel, rfl, by decide +kernel, ⟨by decide +kernel, by decide +kernel, by decide +kernel⟩, tw (i := 1409) (by decide +kernel) (by decide +kernel), tw (i := 12) (by decide +kernel) (by decide +kernel)⟩
theorem im_X11_isMove : Cond.instanceMethod yX11_isMove ∈ gw := tw (i := 1408) (by decide +kernel) (by decide +kernel)
theorem se_X11_isMove : Cond.selects (yX11_isMove).cls yX11_isMove yX11_isMove ∈ gw := tv (i := 45) (by decide +kernel) (by decide +kernel)
theorem ok_X11_canStep : MOK mX11_canStep 1 := ⟨by decide +kernel, rfl, by decide +kernel, ⟨by decide +kernel, by decide +kernel, by decide +kernel⟩, tw (i := 1405) (by decide +kernel) (by decide +kernel), tw (i := 12) (by decide +kernel) (by decide +kernel)⟩
theorem im_X11_canStep : Cond.instanceMethod yX11_canStep ∈ gw := tw (i := 1404) (by decide +kernel) (by decide +kernel)
theorem se_X11_canStep : Cond.selects (yX11_canStep).cls yX11_canStep yX11_canStep ∈ gw := tv (i := 44) (by decide +kernel) (by decide +kernel)
theorem ok_X11_step : MOK mX11_step 2 := ⟨by decide +kernel, rfl, by decide +kernel, ⟨by decide +kernel, by decide +kernel, by decide +kernel⟩, tw (i := 1400) (by decide +kernel) (by decide +kernel), tw (i := 12) (by decide +kernel) (by decide +kernel)⟩
theorem im_X11_step : Cond.instanceMethod yX11_step ∈ gw := tw (i := 1398) (by decide +kernel) (by decide +kernel)
theorem se_X11_step : Cond.selects (yX11_step).cls yX11_step yX11_step ∈ gw := tw (i := 1399) (by decide +kernel) (by decide +kernel)
theorem ok_X11_fail : MOK mX11_fail 2 := ⟨by decide +kernel, rfl, by decide +kernel, ⟨by decide +kernel, by decide +kernel, by decide +kernel⟩, tw (i := 1441) (by decide +kernel) (by decide +kernel), tw (i := 12) (by decide +kernel) (by decide +kernel)⟩
theorem im_X11_fail : Cond.instanceMethod yX11_fail ∈ gw := tw (i := 1439) (by decide +kernel) (by decide +kernel)
theorem se_X11_fail : Cond.selects (yX11_fail).cls yX11_fail yX11_fail ∈ gw := tw (i := 1440) (by decide +kernel) (by decide +kernel)
theorem ok_X11_down : MOK mX11_down 1 := ⟨by decide +kernel, rfl, by decide +kernel, ⟨by decide +kernel, by decide +kernel, by decide +kernel⟩, tw (i := 1446) (by decide +kernel) (by decide +kernel), tw (i := 12) (by decide +kernel) (by decide +kernel)⟩
theorem im_X11_down : Cond.instanceMethod yX11_down ∈ gw := tw (i := 1444) (by decide +kernel) (by decide +kernel)
theorem se_X11_down : Cond.selects (yX11_down).cls yX11_down yX11_down ∈ gw := tw (i := 1445) (by decide +kernel) (by decide +kernel)
theorem ok_X11_up : MOK mX11_up 1 := ⟨by decide +kernel, rfl, by decide +kernel, ⟨by decide +kernel, by decide +kernel, by decide +kernel⟩, tw (i := 1450) (by decide +kernel) (by decide +kernel), tw (i := 12) (by decide +kernel) (by decide +kernel)⟩
theorem im_X11_up : Cond.instanceMethod yX11_up ∈ gw := tw (i := 1448) (by decide +kernel) (by decide +kernel)
theorem se_X11_up : Cond.selects (yX11_up).cls yX11_up yX11_up ∈ gw := tw (i := 1449) (by decide +kernel) (by decide +kernel)
theorem ok_X11_loses : MOK mX11_loses 2 := ⟨by decide +kernel, rfl, by decide +kernel, ⟨by decide +kernel, by decide +kernel, by decide +kernel⟩, tw (i := 1466) (by decide +kernel) (by decide +kernel), tw (i := 12) (by decide +kernel) (by decide +kernel)⟩
theorem im_X11_loses : Cond.instanceMethod yX11_loses ∈ gw := tw (i := 1465) (by decide +kernel) (by decide +kernel)
theorem se_X11_loses : Cond.selects (yX11_loses).cls yX11_loses yX11_loses ∈ gw := tv (i := 55) (by decide +kernel) (by decide +kernel)
theorem ok_X11_areUp : MOK mX11_areUp 1 := ⟨by decide +kernel, rfl, by decide +kernel, ⟨by decide +kernel, by decide +kernel, by decide +kernel⟩, tw (i := 1458) (by decide +kernel) (by decide +kernel), tw (i := 12) (by decide +kernel) (by decide +kernel)⟩
theorem im_X11_areUp : Cond.instanceMethod yX11_areUp ∈ gw := tw (i := 1457) (by decide +kernel) (by decide +kernel)
theorem se_X11_areUp : Cond.selects (yX11_areUp).cls yX11_areUp yX11_areUp ∈ gw := tv (i := 53) (by decide +kernel) (by decide +kernel)
theorem ok_X11_ends : MOK mX11_ends 1 := ⟨by decide +kernel, rfl, by decide +kernel, ⟨by decide +kernel, by decide +kernel, by decide +kernel⟩, tw (i := 1462) (by decide +kernel) (by decide +kernel), tw (i := 12) (by decide +kernel) (by decide +kernel)⟩
theorem im_X11_ends : Cond.instanceMethod yX11_ends ∈ gw := tw (i := 1461) (by decide +kernel) (by decide +kernel)
theorem se_X11_ends : Cond.selects (yX11_ends).cls yX11_ends yX11_ends ∈ gw := tv (i := 54) (by decide +kernel) (by decide +kernel)
theorem ok_X11_recover : MOK mX11_recover 1 := ⟨by decide +kernel, rfl, by decide +kernel, ⟨by decide +kernel, by decide +kernel, by decide +kernel⟩, tw (i := 1454) (by decide +kernel) (by decide +kernel), tw (i := 12) (by decide +kernel) (by decide +kernel)⟩
theorem im_X11_recover : Cond.instanceMethod yX11_recover ∈ gw := tw (i := 1452) (by decide +kernel) (by decide +kernel)
theorem se_X11_recover : Cond.selects (yX11_recover).cls yX11_recover yX11_recover ∈ gw := tw (i := 1453) (by decide +kernel) (by decide +kernel)
theorem ok_X11_give : MOK mX11_give 1 := ⟨by decide +kernel, rfl, by decide +kernel, ⟨by decide +kernel, by decide +kernel, by decide +kernel⟩, tw (i := 1470) (by decide +kernel) (by decide +kernel), tw (i := 12) (by decide +kernel) (by decide +kernel)⟩
theorem im_X11_give : Cond.instanceMethod yX11_give ∈ gw := tw (i := 1468) (by decide +kernel) (by decide +kernel)
theorem se_X11_give : Cond.selects (yX11_give).cls yX11_give yX11_give ∈ gw := tw (i := 1469) (by decide +kernel) (by decide +kernel)
theorem ok_X11_allWeight : MOK mX11_allWeight 0 := ⟨by decide +kernel, rfl, by decide +kernel, ⟨by decide +kernel, by decide +kernel, by decide +kernel⟩, tw (i := 1478) (by decide +kernel) (by decide +kernel), tw (i := 12) (by decide +kernel) (by decide +kernel)⟩
theorem im_X11_allWeight : Cond.instanceMethod yX11_allWeight ∈ gw := tw (i := 1477) (by decide +kernel) (by decide +kernel)
theorem se_X11_allWeight : Cond.selects (yX11_allWeight).cls yX11_allWeight yX11_allWeight ∈ gw := tv (i := 56) (by decide +kernel) (by decide +kernel)
theorem ok_X11_age : MOK mX11_age 0 := ⟨by decide +kernel, rfl, by decide +kernel, ⟨by decide +kernel, by decide +kernel, by decide +kernel⟩, tw (i := 1474) (by decide +kernel) (by decide +kernel), tw (i := 12) (by decide +kernel) (by decide +kernel)⟩
theorem im_X11_age : Cond.instanceMethod yX11_age ∈ gw := tw (i := 1472) (by decide +kernel) (by decide +kernel)
theorem se_X11_age : Cond.selects (yX11_age).cls yX11_age yX11_age ∈ gw := tw (i := 1473) (by decide +kernel) (by decide +kernel)
theorem ok_X11_chunk : MOK mX11_chunk 1 := ⟨by decide +kernel, rfl, by decide +kernel, ⟨by decide +kernel, by decide +kernel, by decide +kernel⟩, tw (i := 1482) (by decide +kernel) (by decide +kernel), tw (i := 12) (by decide +kernel) (by decide +kernel)⟩
theorem im_X11_chunk : Cond.instanceMethod yX11_chunk ∈ gw := tw (i := 1480) (by decide +kernel) (by decide +kernel)
theorem se_X11_chunk : Cond.selects (yX11_chunk).cls yX11_chunk yX11_chunk ∈ gw := tw (i := 1481) (by decide +kernel) (by decide +kernel)
theorem ok_X11_comes : MOK mX11_comes 1 := ⟨by decide +kernel, rfl, by decide +kernel, ⟨by decide +kernel, by decide +kernel, by decide +kernel⟩, tw (i := 1491) (by decide +kernel) (by decide +kernel), tw (i := 12) (by decide +kernel) (by decide +kernel)⟩
theorem im_X11_comes : Cond.instanceMethod yX11_comes ∈ gw := tw (i := 1490) (by decide +kernel) (by decide +kernel)
theorem se_X11_comes : Cond.selects (yX11_comes).cls yX11_comes yX11_comes ∈ gw := tv (i := 57) (by decide +kernel) (by decide +kernel)
theorem ok_X11_feed : MOK mX11_feed 5 := ⟨by decide +kernel, rfl, by decide +kernel, ⟨by decide +kernel, by decide +kernel, by decide +kernel⟩, tw (i := 1487) (by decide +kernel) (by decide +kernel), tw (i := 12) (by decide +kernel) (by decide +kernel)⟩
theorem im_X11_feed : Cond.instanceMethod yX11_feed ∈ gw := tw (i := 1485) (by decide +kernel) (by decide +kernel)
theorem se_X11_feed : Cond.selects (yX11_feed).cls yX11_feed yX11_feed ∈ gw := tw (i := 1486) (by decide +kernel) (by decide +kernel)
theorem ok_X11_end : MOK mX11_end 1 := ⟨by decide +kernel, rfl, by decide +kernel, ⟨by decide +kernel, by decide +kernel, by decide +kernel⟩, tw (i := 1495) (by decide +kernel) (by decide +kernel), tw (i := 12) (by decide +kernel) (by decide +kernel)⟩
theorem im_X11_end : Cond.instanceMethod yX11_end ∈ gw := tw (i := 1493) (by decide +kernel) (by decide +kernel)
theorem se_X11_end : Cond.selects (yX11_end).cls yX11_end yX11_end ∈ gw := tw (i := 1494) (by decide +kernel) (by decide +kernel)
theorem ok_X11_wrong : MOK mX11_wrong 2 := ⟨by decide +kernel, rfl, by decide +kernel, ⟨by decide +kernel, by decide +kernel, by decide +kernel⟩, tw (i := 1525) (by decide +kernel) (by decide +kernel), tw (i := 12) (by decide +kernel) (by decide +kernel)⟩
theorem im_X11_wrong : Cond.instanceMethod yX11_wrong ∈ gw := tw (i := 1524) (by decide +kernel) (by decide +kernel)
theorem se_X11_wrong : Cond.selects (yX11_wrong).cls yX11_wrong yX11_wrong ∈ gw := tv (i := 63) (by decide +kernel) (by decide +kernel)
theorem ok_X11_blanks : MOK mX11_blanks 0 := ⟨by decide +kernel, rfl, by decide +kernel, ⟨by decide +kernel, by decide +kernel, by decide +kernel⟩, tw (i := 1503) (by decide +kernel) (by decide +kernel), tw (i := 12) (by decide +kernel) (by decide +kernel)⟩
theorem im_X11_blanks : Cond.instanceMethod yX11_blanks ∈ gw := tw (i := 1502) (by decide +kernel) (by decide +kernel)
theorem se_X11_blanks : Cond.selects (yX11_blanks).cls yX11_blanks yX11_blanks ∈ gw := tv (i := 58) (by decide +kernel) (by decide +kernel)
theorem ok_X11_wordEnd : MOK mX11_wordEnd 0 := ⟨by decide +kernel, rfl, by decide +kernel, ⟨by decide +kernel, by decide +kernel, by decide +kernel⟩, tw (i := 1519) (by decide +kernel) (by decide +kernel), tw (i := 12) (by decide +kernel) (by decide +kernel)⟩
theorem im_X11_wordEnd : Cond.instanceMethod yX11_wordEnd ∈ gw := tw (i := 1518) (by decide +kernel) (by decide +kernel)
theorem se_X11_wordEnd : Cond.selects (yX11_wordEnd).cls yX11_wordEnd yX11_wordEnd ∈ gw := tv (i := 62) (by decide +kernel) (by decide +kernel)
theorem ok_X11_spells : MOK mX11_spells 8 := ⟨by decide +kernel, rfl, by decide +kernel, ⟨by decide +kernel, by decide +kernel, by decide +kernel⟩, tw (i := 1515) (by decide +kernel) (by decide +kernel), tw (i := 12) (by decide +kernel) (by decide +kernel)⟩
theorem im_X11_spells : Cond.instanceMethod yX11_spells ∈ gw := tw (i := 1514) (by decide +kernel) (by decide +kernel)
theorem se_X11_spells : Cond.selects (yX11_spells).cls yX11_spells yX11_spells ∈ gw := tv (i := 61) (by decide +kernel) (by decide +kernel)
theorem ok_X11_word : MOK mX11_word 0 := ⟨by decide +kernel, rfl, by decide +kernel, ⟨by decide +kernel, by decide +kernel, by decide +kernel⟩, tw (i := 1511) (by decide +kernel) (by decide +kernel), tw (i := 12) (by decide +kernel) (by decide +kernel)⟩
theorem im_X11_word : Cond.instanceMethod yX11_word ∈ gw := tw (i := 1510) (by decide +kernel) (by decide +kernel)
theorem se_X11_word : Cond.selects (yX11_word).cls yX11_word yX11_word ∈ gw := tv (i := 60) (by decide +kernel) (by decide +kernel)
theorem ok_X11_numbersOf : MOK mX11_numbersOf 1 := ⟨by decide +kernel, rfl, by decide +kernel, ⟨by decide +kernel, by decide +kernel, by decide +kernel⟩, tw (i := 1528) (by decide +kernel) (by decide +kernel), tw (i := 12) (by decide +kernel) (by decide +kernel)⟩
theorem sc_X11_numbersOf : Cond.static yX11_numbersOf ∈ gw := tw (i := 1527) (by decide +kernel) (by decide +kernel)
theorem ok_X11_number : MOK mX11_number 0 := ⟨by decide +kernel, rfl, by decide +kernel, ⟨by decide +kernel, by decide +kernel, by decide +kernel⟩, tw (i := 1532) (by decide +kernel) (by decide +kernel), tw (i := 12) (by decide +kernel) (by decide +kernel)⟩
theorem im_X11_number : Cond.instanceMethod yX11_number ∈ gw := tw (i := 1531) (by decide +kernel) (by decide +kernel)
theorem se_X11_number : Cond.selects (yX11_number).cls yX11_number yX11_number ∈ gw := tv (i := 64) (by decide +kernel) (by decide +kernel)
theorem ok_X11_reads : MOK mX11_reads 0 := ⟨by decide +kernel, rfl, by decide +kernel, ⟨by decide +kernel, by decide +kernel, by decide +kernel⟩, tw (i := 1507) (by decide +kernel) (by decide +kernel), tw (i := 12) (by decide +kernel) (by decide +kernel)⟩
theorem im_X11_reads : Cond.instanceMethod yX11_reads ∈ gw := tw (i := 1506) (by decide +kernel) (by decide +kernel)
theorem se_X11_reads : Cond.selects (yX11_reads).cls yX11_reads yX11_reads ∈ gw := tv (i := 59) (by decide +kernel) (by decide +kernel)
theorem ok_X11_isDone : MOK mX11_isDone 1 := ⟨by decide +kernel, rfl, by decide +kernel, ⟨by decide +kernel, by decide +kernel, by decide +kernel⟩, tw (i := 1543) (by decide +kernel) (by decide +kernel), tw (i := 12) (by decide +kernel) (by decide +kernel)⟩
theorem im_X11_isDone : Cond.instanceMethod yX11_isDone ∈ gw := tw (i := 1542) (by decide +kernel) (by decide +kernel)
theorem se_X11_isDone : Cond.selects (yX11_isDone).cls yX11_isDone yX11_isDone ∈ gw := tv (i := 66) (by decide +kernel) (by decide +kernel)
theorem ok_X11_script : MOK mX11_script 0 := ⟨by decide +kernel, rfl, by decide +kernel, ⟨by decide +kernel, by decide +kernel, by decide +kernel⟩, tw (i := 1499) (by decide +kernel) (by decide +kernel), tw (i := 12) (by decide +kernel) (by decide +kernel)⟩
theorem im_X11_script : Cond.instanceMethod yX11_script ∈ gw := tw (i := 1497) (by decide +kernel) (by decide +kernel)
theorem se_X11_script : Cond.selects (yX11_script).cls yX11_script yX11_script ∈ gw := tw (i := 1498) (by decide +kernel) (by decide +kernel)
theorem ok_X11_fault : MOK mX11_fault 1 := ⟨by decide +kernel, rfl, by decide +kernel, ⟨by decide +kernel, by decide +kernel, by decide +kernel⟩, tw (i := 1561) (by decide +kernel) (by decide +kernel), tw (i := 12) (by decide +kernel) (by decide +kernel)⟩
theorem im_X11_fault : Cond.instanceMethod yX11_fault ∈ gw := tw (i := 1559) (by decide +kernel) (by decide +kernel)
theorem se_X11_fault : Cond.selects (yX11_fault).cls yX11_fault yX11_fault ∈ gw := tw (i := 1560) (by decide +kernel) (by decide +kernel)
theorem ok_X11_isSpan : MOK mX11_isSpan 1 := ⟨by decide +kernel, rfl, by decide +kernel, ⟨by decide +kernel, by decide +kernel, by decide +kernel⟩, tw (i := 1569) (by decide +kernel) (by decide +kernel), tw (i := 12) (by decide +kernel) (by decide +kernel)⟩
theorem im_X11_isSpan : Cond.instanceMethod yX11_isSpan ∈ gw := tw (i := 1568) (by decide +kernel) (by decide +kernel)
theorem se_X11_isSpan : Cond.selects (yX11_isSpan).cls yX11_isSpan yX11_isSpan ∈ gw := tv (i := 67) (by decide +kernel) (by decide +kernel)
theorem ok_X11_valuesIn : MOK mX11_valuesIn 1 := ⟨by decide +kernel, rfl, by decide +kernel, ⟨by decide +kernel, by decide +kernel, by decide +kernel⟩, tw (i := 1577) (by decide +kernel) (by decide +kernel), tw (i := 12) (by decide +kernel) (by decide +kernel)⟩
theorem im_X11_valuesIn : Cond.instanceMethod yX11_valuesIn ∈ gw := tw (i := 1576) (by decide +kernel) (by decide +kernel)
theorem se_X11_valuesIn : Cond.selects (yX11_valuesIn).cls yX11_valuesIn yX11_valuesIn ∈ gw := tv (i := 69) (by decide +kernel) (by decide +kernel)
theorem ok_X11_isFrozenSpan : MOK mX11_isFrozenSpan 1 := ⟨by decide +kernel, rfl, by decide +kernel, ⟨by decide +kernel, by decide +kernel, by decide +kernel⟩, tw (i := 1573) (by decide +kernel) (by decide +kernel), tw (i := 12) (by decide +kernel) (by decide +kernel)⟩
theorem im_X11_isFrozenSpan : Cond.instanceMethod yX11_isFrozenSpan ∈ gw := tw (i := 1572) (by decide +kernel) (by decide +kernel)
theorem se_X11_isFrozenSpan : Cond.selects (yX11_isFrozenSpan).cls yX11_isFrozenSpan yX11_isFrozenSpan ∈ gw := tv (i := 68) (by decide +kernel) (by decide +kernel)
theorem ok_X11_span : MOK mX11_span 2 := ⟨by decide +kernel, rfl, by decide +kernel, ⟨by decide +kernel, by decide +kernel, by decide +kernel⟩, tw (i := 1565) (by decide +kernel) (by decide +kernel), tw (i := 12) (by decide +kernel) (by decide +kernel)⟩
theorem im_X11_span : Cond.instanceMethod yX11_span ∈ gw := tw (i := 1563) (by decide +kernel) (by decide +kernel)
theorem se_X11_span : Cond.selects (yX11_span).cls yX11_span yX11_span ∈ gw := tw (i := 1564) (by decide +kernel) (by decide +kernel)
theorem ok_X11_weight : MOK mX11_weight 1 := ⟨by decide +kernel, rfl, by decide +kernel, ⟨by decide +kernel, by decide +kernel, by decide +kernel⟩, tw (i := 1581) (by decide +kernel) (by decide +kernel), tw (i := 12) (by decide +kernel) (by decide +kernel)⟩
theorem im_X11_weight : Cond.instanceMethod yX11_weight ∈ gw := tw (i := 1579) (by decide +kernel) (by decide +kernel)
theorem se_X11_weight : Cond.selects (yX11_weight).cls yX11_weight yX11_weight ∈ gw := tw (i := 1580) (by decide +kernel) (by decide +kernel)
theorem ok_X11_middleOf : MOK mX11_middleOf 1 := ⟨by decide +kernel, rfl, by decide +kernel, ⟨by decide +kernel, by decide +kernel, by decide +kernel⟩, tw (i := 1586) (by decide +kernel) (by decide +kernel), tw (i := 12) (by decide +kernel) (by decide +kernel)⟩
theorem im_X11_middleOf : Cond.instanceMethod yX11_middleOf ∈ gw := tw (i := 1584) (by decide +kernel) (by decide +kernel)
theorem se_X11_middleOf : Cond.selects (yX11_middleOf).cls yX11_middleOf yX11_middleOf ∈ gw := tw (i := 1585) (by decide +kernel) (by decide +kernel)
theorem ok_X11_lowOf : MOK mX11_lowOf 1 := ⟨by decide +kernel, rfl, by decide +kernel, ⟨by decide +kernel, by decide +kernel, by decide +kernel⟩, tw (i := 1590) (by decide +kernel) (by decide +kernel), tw (i := 12) (by decide +kernel) (by decide +kernel)⟩
theorem im_X11_lowOf : Cond.instanceMethod yX11_lowOf ∈ gw := tw (i := 1588) (by decide +kernel) (by decide +kernel)
theorem se_X11_lowOf : Cond.selects (yX11_lowOf).cls yX11_lowOf yX11_lowOf ∈ gw := tw (i := 1589) (by decide +kernel) (by decide +kernel)
theorem ok_X11_spansOf : MOK mX11_spansOf 1 := ⟨by decide +kernel, rfl, by decide +kernel, ⟨by decide +kernel, by decide +kernel, by decide +kernel⟩, tw (i := 1598) (by decide +kernel) (by decide +kernel), tw (i := 12) (by decide +kernel) (by decide +kernel)⟩
theorem im_X11_spansOf : Cond.instanceMethod yX11_spansOf ∈ gw := tw (i := 1597) (by decide +kernel) (by decide +kernel)
theorem se_X11_spansOf : Cond.selects (yX11_spansOf).cls yX11_spansOf yX11_spansOf ∈ gw := tv (i := 70) (by decide +kernel) (by decide +kernel)
theorem ok_X11_valuesOf : MOK mX11_valuesOf 1 := ⟨by decide +kernel, rfl, by decide +kernel, ⟨by decide +kernel, by decide +kernel, by decide +kernel⟩, tw (i := 1602) (by decide +kernel) (by decide +kernel), tw (i := 12) (by decide +kernel) (by decide +kernel)⟩
theorem im_X11_valuesOf : Cond.instanceMethod yX11_valuesOf ∈ gw := tw (i := 1601) (by decide +kernel) (by decide +kernel)
theorem se_X11_valuesOf : Cond.selects (yX11_valuesOf).cls yX11_valuesOf yX11_valuesOf ∈ gw := tv (i := 71) (by decide +kernel) (by decide +kernel)
theorem ok_X11_movesBy : MOK mX11_movesBy 2 := ⟨by decide +kernel, rfl, by decide +kernel, ⟨by decide +kernel, by decide +kernel, by decide +kernel⟩, tw (i := 1606) (by decide +kernel) (by decide +kernel), tw (i := 12) (by decide +kernel) (by decide +kernel)⟩
theorem im_X11_movesBy : Cond.instanceMethod yX11_movesBy ∈ gw := tw (i := 1605) (by decide +kernel) (by decide +kernel)
theorem se_X11_movesBy : Cond.selects (yX11_movesBy).cls yX11_movesBy yX11_movesBy ∈ gw := tv (i := 72) (by decide +kernel) (by decide +kernel)
theorem ok_X11_server : MOK mX11_server 2 := ⟨by decide +kernel, rfl, by decide +kernel, ⟨by decide +kernel, by decide +kernel, by decide +kernel⟩, tw (i := 1594) (by decide +kernel) (by decide +kernel), tw (i := 12) (by decide +kernel) (by decide +kernel)⟩
theorem im_X11_server : Cond.instanceMethod yX11_server ∈ gw := tw (i := 1592) (by decide +kernel) (by decide +kernel)
theorem se_X11_server : Cond.selects (yX11_server).cls yX11_server yX11_server ∈ gw := tw (i := 1593) (by decide +kernel) (by decide +kernel)
theorem ok_X11_load : MOK mX11_load 1 := ⟨by decide +kernel, rfl, by decide +kernel, ⟨by decide +kernel, by decide +kernel, by decide +kernel⟩, tw (i := 1610) (by decide +kernel) (by decide +kernel), tw (i := 12) (by decide +kernel) (by decide +kernel)⟩
theorem im_X11_load : Cond.instanceMethod yX11_load ∈ gw := tw (i := 1608) (by decide +kernel) (by decide +kernel)
theorem se_X11_load : Cond.selects (yX11_load).cls yX11_load yX11_load ∈ gw := tw (i := 1609) (by decide +kernel) (by decide +kernel)
theorem ok_X11_stored : MOK mX11_stored 2 := ⟨by decide +kernel, rfl, by decide +kernel, ⟨by decide +kernel, by decide +kernel, by decide +kernel⟩, tw (i := 1618) (by decide +kernel) (by decide +kernel), tw (i := 12) (by decide +kernel) (by decide +kernel)⟩
theorem im_X11_stored : Cond.instanceMethod yX11_stored ∈ gw := tw (i := 1616) (by decide +kernel) (by decide +kernel)
theorem se_X11_stored : Cond.selects (yX11_stored).cls yX11_stored yX11_stored ∈ gw := tw (i := 1617) (by decide +kernel) (by decide +kernel)
theorem ok_X11_staleOf : MOK mX11_staleOf 1 := ⟨by decide +kernel, rfl, by decide +kernel, ⟨by decide +kernel, by decide +kernel, by decide +kernel⟩, tw (i := 1626) (by decide +kernel) (by decide +kernel), tw (i := 12) (by decide +kernel) (by decide +kernel)⟩
theorem im_X11_staleOf : Cond.instanceMethod yX11_staleOf ∈ gw := tw (i := 1625) (by decide +kernel) (by decide +kernel)
theorem se_X11_staleOf : Cond.selects (yX11_staleOf).cls yX11_staleOf yX11_staleOf ∈ gw := tv (i := 74) (by decide +kernel) (by decide +kernel)
theorem ok_X11_clientOf : MOK mX11_clientOf 2 := ⟨by decide +kernel, rfl, by decide +kernel, ⟨by decide +kernel, by decide +kernel, by decide +kernel⟩, tw (i := 1622) (by decide +kernel) (by decide +kernel), tw (i := 12) (by decide +kernel) (by decide +kernel)⟩
theorem im_X11_clientOf : Cond.instanceMethod yX11_clientOf ∈ gw := tw (i := 1620) (by decide +kernel) (by decide +kernel)
theorem se_X11_clientOf : Cond.selects (yX11_clientOf).cls yX11_clientOf yX11_clientOf ∈ gw := tw (i := 1621) (by decide +kernel) (by decide +kernel)
theorem ok_X11_moveOf : MOK mX11_moveOf 2 := ⟨by decide +kernel, rfl, by decide +kernel, ⟨by decide +kernel, by decide +kernel, by decide +kernel⟩, tw (i := 1630) (by decide +kernel) (by decide +kernel), tw (i := 12) (by decide +kernel) (by decide +kernel)⟩
theorem im_X11_moveOf : Cond.instanceMethod yX11_moveOf ∈ gw := tw (i := 1628) (by decide +kernel) (by decide +kernel)
theorem se_X11_moveOf : Cond.selects (yX11_moveOf).cls yX11_moveOf yX11_moveOf ∈ gw := tw (i := 1629) (by decide +kernel) (by decide +kernel)
theorem ok_X11_trail : MOK mX11_trail 2 := ⟨by decide +kernel, rfl, by decide +kernel, ⟨by decide +kernel, by decide +kernel, by decide +kernel⟩, tw (i := 1635) (by decide +kernel) (by decide +kernel), tw (i := 12) (by decide +kernel) (by decide +kernel)⟩
theorem im_X11_trail : Cond.instanceMethod yX11_trail ∈ gw := tw (i := 1633) (by decide +kernel) (by decide +kernel)
theorem se_X11_trail : Cond.selects (yX11_trail).cls yX11_trail yX11_trail ∈ gw := tw (i := 1634) (by decide +kernel) (by decide +kernel)
theorem ok_X11_switchBehind : MOK mX11_switchBehind 3 := ⟨by decide +kernel, rfl, by decide +kernel, ⟨by decide +kernel, by decide +kernel, by decide +kernel⟩, tw (i := 1643) (by decide +kernel) (by decide +kernel), tw (i := 12) (by decide +kernel) (by decide +kernel)⟩
theorem im_X11_switchBehind : Cond.instanceMethod yX11_switchBehind ∈ gw := tw (i := 1642) (by decide +kernel) (by decide +kernel)
theorem se_X11_switchBehind : Cond.selects (yX11_switchBehind).cls yX11_switchBehind yX11_switchBehind ∈ gw := tv (i := 75) (by decide +kernel) (by decide +kernel)
theorem ok_X11_owned : MOK mX11_owned 2 := ⟨by decide +kernel, rfl, by decide +kernel, ⟨by decide +kernel, by decide +kernel, by decide +kernel⟩, tw (i := 1639) (by decide +kernel) (by decide +kernel), tw (i := 12) (by decide +kernel) (by decide +kernel)⟩
theorem im_X11_owned : Cond.instanceMethod yX11_owned ∈ gw := tw (i := 1637) (by decide +kernel) (by decide +kernel)
theorem se_X11_owned : Cond.selects (yX11_owned).cls yX11_owned yX11_owned ∈ gw := tw (i := 1638) (by decide +kernel) (by decide +kernel)
theorem ok_X11_passed : MOK mX11_passed 2 := ⟨by decide +kernel, rfl, by decide +kernel, ⟨by decide +kernel, by decide +kernel, by decide +kernel⟩, tw (i := 1647) (by decide +kernel) (by decide +kernel), tw (i := 12) (by decide +kernel) (by decide +kernel)⟩
theorem im_X11_passed : Cond.instanceMethod yX11_passed ∈ gw := tw (i := 1645) (by decide +kernel) (by decide +kernel)
theorem se_X11_passed : Cond.selects (yX11_passed).cls yX11_passed yX11_passed ∈ gw := tw (i := 1646) (by decide +kernel) (by decide +kernel)
theorem ok_X11_mayHave : MOK mX11_mayHave 2 := ⟨by decide +kernel, rfl, by decide +kernel, ⟨by decide +kernel, by decide +kernel, by decide +kernel⟩, tw (i := 1655) (by decide +kernel) (by decide +kernel), tw (i := 12) (by decide +kernel) (by decide +kernel)⟩
theorem im_X11_mayHave : Cond.instanceMethod yX11_mayHave ∈ gw := tw (i := 1654) (by decide +kernel) (by decide +kernel)
theorem se_X11_mayHave : Cond.selects (yX11_mayHave).cls yX11_mayHave yX11_mayHave ∈ gw := tv (i := 76) (by decide +kernel) (by decide +kernel)
theorem ok_X11_sound : MOK mX11_sound 0 := ⟨by decide +kernel, rfl, by decide +kernel, ⟨by decide +kernel, by decide +kernel, by decide +kernel⟩, tw (i := 1651) (by decide +kernel) (by decide +kernel), tw (i := 12) (by decide +kernel) (by decide +kernel)⟩
theorem im_X11_sound : Cond.instanceMethod yX11_sound ∈ gw := tw (i := 1649) (by decide +kernel) (by decide +kernel)
theorem se_X11_sound : Cond.selects (yX11_sound).cls yX11_sound yX11_sound ∈ gw := tw (i := 1650) (by decide +kernel) (by decide +kernel)
theorem ok_X11_owners : MOK mX11_owners 0 := ⟨by decide +kernel, rfl, by decide +kernel, ⟨by decide +kernel, by decide +kernel, by decide +kernel⟩, tw (i := 1663) (by decide +kernel) (by decide +kernel), tw (i := 12) (by decide +kernel) (by decide +kernel)⟩
theorem im_X11_owners : Cond.instanceMethod yX11_owners ∈ gw := tw (i := 1662) (by decide +kernel) (by decide +kernel)
theorem se_X11_owners : Cond.selects (yX11_owners).cls yX11_owners yX11_owners ∈ gw := tv (i := 77) (by decide +kernel) (by decide +kernel)
theorem ok_X11_spare : MOK mX11_spare 0 := ⟨by decide +kernel, rfl, by decide +kernel, ⟨by decide +kernel, by decide +kernel, by decide +kernel⟩, tw (i := 1659) (by decide +kernel) (by decide +kernel), tw (i := 12) (by decide +kernel) (by decide +kernel)⟩
theorem im_X11_spare : Cond.instanceMethod yX11_spare ∈ gw := tw (i := 1657) (by decide +kernel) (by decide +kernel)
theorem se_X11_spare : Cond.selects (yX11_spare).cls yX11_spare yX11_spare ∈ gw := tw (i := 1658) (by decide +kernel) (by decide +kernel)
theorem ok_X11_outer : MOK mX11_outer 1 := ⟨by decide +kernel, rfl, by decide +kernel, ⟨by decide +kernel, by decide +kernel, by decide +kernel⟩, tw (i := 1675) (by decide +kernel) (by decide +kernel), tw (i := 12) (by decide +kernel) (by decide +kernel)⟩
theorem im_X11_outer : Cond.instanceMethod yX11_outer ∈ gw := tw (i := 1674) (by decide +kernel) (by decide +kernel)
theorem se_X11_outer : Cond.selects (yX11_outer).cls yX11_outer yX11_outer ∈ gw := tv (i := 79) (by decide +kernel) (by decide +kernel)
theorem ok_X11_evenOf : MOK mX11_evenOf 0 := ⟨by decide +kernel, rfl, by decide +kernel, ⟨by decide +kernel, by decide +kernel, by decide +kernel⟩, tw (i := 1671) (by decide +kernel) (by decide +kernel), tw (i := 12) (by decide +kernel) (by decide +kernel)⟩
theorem im_X11_evenOf : Cond.instanceMethod yX11_evenOf ∈ gw := tw (i := 1670) (by decide +kernel) (by decide +kernel)
theorem se_X11_evenOf : Cond.selects (yX11_evenOf).cls yX11_evenOf yX11_evenOf ∈ gw := tv (i := 78) (by decide +kernel) (by decide +kernel)
theorem ok_X11_even : MOK mX11_even 0 := ⟨by decide +kernel, rfl, by decide +kernel, ⟨by decide +kernel, by decide +kernel, by decide +kernel⟩, tw (i := 1667) (by decide +kernel) (by decide +kernel), tw (i := 12) (by decide +kernel) (by decide +kernel)⟩
theorem im_X11_even : Cond.instanceMethod yX11_even ∈ gw := tw (i := 1665) (by decide +kernel) (by decide +kernel)
theorem se_X11_even : Cond.selects (yX11_even).cls yX11_even yX11_even ∈ gw := tw (i := 1666) (by decide +kernel) (by decide +kernel)
theorem ok_X11_size : MOK mX11_size 1 := ⟨by decide +kernel, rfl, by decide +kernel, ⟨by decide +kernel, by decide +kernel, by decide +kernel⟩, tw (i := 1690) (by decide +kernel) (by decide +kernel), tw (i := 12) (by decide +kernel) (by decide +kernel)⟩
theorem sc_X11_size : Cond.static yX11_size ∈ gw := tw (i := 1689) (by decide +kernel) (by decide +kernel)
theorem ok_X11_spanToMove : MOK mX11_spanToMove 3 := ⟨by decide +kernel, rfl, by decide +kernel, ⟨by decide +kernel, by decide +kernel, by decide +kernel⟩, tw (i := 1687) (by decide +kernel) (by decide +kernel), tw (i := 12) (by decide +kernel) (by decide +kernel)⟩
theorem im_X11_spanToMove : Cond.instanceMethod yX11_spanToMove ∈ gw := tw (i := 1686) (by decide +kernel) (by decide +kernel)
theorem se_X11_spanToMove : Cond.selects (yX11_spanToMove).cls yX11_spanToMove yX11_spanToMove ∈ gw := tv (i := 81) (by decide +kernel) (by decide +kernel)
theorem ok_X11_spanToSplit : MOK mX11_spanToSplit 1 := ⟨by decide +kernel, rfl, by decide +kernel, ⟨by decide +kernel, by decide +kernel, by decide +kernel⟩, tw (i := 1694) (by decide +kernel) (by decide +kernel), tw (i := 12) (by decide +kernel) (by decide +kernel)⟩
theorem im_X11_spanToSplit : Cond.instanceMethod yX11_spanToSplit ∈ gw := tw (i := 1693) (by decide +kernel) (by decide +kernel)
theorem se_X11_spanToSplit : Cond.selects (yX11_spanToSplit).cls yX11_spanToSplit yX11_spanToSplit ∈ gw := tv (i := 82) (by decide +kernel) (by decide +kernel)
theorem ok_X11_laysNext : MOK mX11_laysNext 0 := ⟨by decide +kernel, rfl, by decide +kernel, ⟨by decide +kernel, by decide +kernel, by decide +kernel⟩, tw (i := 1683) (by decide +kernel) (by decide +kernel), tw (i := 12) (by decide +kernel) (by decide +kernel)⟩
theorem im_X11_laysNext : Cond.instanceMethod yX11_laysNext ∈ gw := tw (i := 1682) (by decide +kernel) (by decide +kernel)
theorem se_X11_laysNext : Cond.selects (yX11_laysNext).cls yX11_laysNext yX11_laysNext ∈ gw := tv (i := 80) (by decide +kernel) (by decide +kernel)
theorem ok_X11_next : MOK mX11_next 1 := ⟨by decide +kernel, rfl, by decide +kernel, ⟨by decide +kernel, by decide +kernel, by decide +kernel⟩, tw (i := 1679) (by decide +kernel) (by decide +kernel), tw (i := 12) (by decide +kernel) (by decide +kernel)⟩
theorem im_X11_next : Cond.instanceMethod yX11_next ∈ gw := tw (i := 1677) (by decide +kernel) (by decide +kernel)
theorem se_X11_next : Cond.selects (yX11_next).cls yX11_next yX11_next ∈ gw := tw (i := 1678) (by decide +kernel) (by decide +kernel)
theorem ok_X11_rounds : MOK mX11_rounds 1 := ⟨by decide +kernel, rfl, by decide +kernel, ⟨by decide +kernel, by decide +kernel, by decide +kernel⟩, tw (i := 1698) (by decide +kernel) (by decide +kernel), tw (i := 12) (by decide +kernel) (by decide +kernel)⟩
theorem im_X11_rounds : Cond.instanceMethod yX11_rounds ∈ gw := tw (i := 1696) (by decide +kernel) (by decide +kernel)
theorem se_X11_rounds : Cond.selects (yX11_rounds).cls yX11_rounds yX11_rounds ∈ gw := tw (i := 1697) (by decide +kernel) (by decide +kernel)
theorem ok_X11_heavier : MOK mX11_heavier 1 := ⟨by decide +kernel, rfl, by decide +kernel, ⟨by decide +kernel, by decide +kernel, by decide +kernel⟩, tw (i := 1711) (by decide +kernel) (by decide +kernel), tw (i := 12) (by decide +kernel) (by decide +kernel)⟩
theorem im_X11_heavier : Cond.instanceMethod yX11_heavier ∈ gw := tw (i := 1710) (by decide +kernel) (by decide +kernel)
theorem se_X11_heavier : Cond.selects (yX11_heavier).cls yX11_heavier yX11_heavier ∈ gw := tv (i := 84) (by decide +kernel) (by decide +kernel)
theorem ok_X11_hot : MOK mX11_hot 2 := ⟨by decide +kernel, rfl, by decide +kernel, ⟨by decide +kernel, by decide +kernel, by decide +kernel⟩, tw (i := 1707) (by decide +kernel) (by decide +kernel), tw (i := 12) (by decide +kernel) (by decide +kernel)⟩
theorem im_X11_hot : Cond.instanceMethod yX11_hot ∈ gw := tw (i := 1705) (by decide +kernel) (by decide +kernel)
theorem se_X11_hot : Cond.selects (yX11_hot).cls yX11_hot yX11_hot ∈ gw := tw (i := 1706) (by decide +kernel) (by decide +kernel)
theorem ok_X11_scan : MOK mX11_scan 3 := ⟨by decide +kernel, rfl, by decide +kernel, ⟨by decide +kernel, by decide +kernel, by decide +kernel⟩, tw (i := 1715) (by decide +kernel) (by decide +kernel), tw (i := 12) (by decide +kernel) (by decide +kernel)⟩
theorem im_X11_scan : Cond.instanceMethod yX11_scan ∈ gw := tw (i := 1713) (by decide +kernel) (by decide +kernel)
theorem se_X11_scan : Cond.selects (yX11_scan).cls yX11_scan yX11_scan ∈ gw := tw (i := 1714) (by decide +kernel) (by decide +kernel)
theorem ok_X11_outerBut : MOK mX11_outerBut 2 := ⟨by decide +kernel, rfl, by decide +kernel, ⟨by decide +kernel, by decide +kernel, by decide +kernel⟩, tw (i := 1724) (by decide +kernel) (by decide +kernel), tw (i := 12) (by decide +kernel) (by decide +kernel)⟩
theorem im_X11_outerBut : Cond.instanceMethod yX11_outerBut ∈ gw := tw (i := 1723) (by decide +kernel) (by decide +kernel)
theorem se_X11_outerBut : Cond.selects (yX11_outerBut).cls yX11_outerBut yX11_outerBut ∈ gw := tv (i := 85) (by decide +kernel) (by decide +kernel)
theorem ok_X11_heaviestOf : MOK mX11_heaviestOf 1 := ⟨by decide +kernel, rfl, by decide +kernel, ⟨by decide +kernel, by decide +kernel, by decide +kernel⟩, tw (i := 1728) (by decide +kernel) (by decide +kernel), tw (i := 12) (by decide +kernel) (by decide +kernel)⟩
theorem im_X11_heaviestOf : Cond.instanceMethod yX11_heaviestOf ∈ gw := tw (i := 1727) (by decide +kernel) (by decide +kernel)
theorem se_X11_heaviestOf : Cond.selects (yX11_heaviestOf).cls yX11_heaviestOf yX11_heaviestOf ∈ gw := tv (i := 86) (by decide +kernel) (by decide +kernel)
theorem ok_X11_emptied : MOK mX11_emptied 2 := ⟨by decide +kernel, rfl, by decide +kernel, ⟨by decide +kernel, by decide +kernel, by decide +kernel⟩, tw (i := 1720) (by decide +kernel) (by decide +kernel), tw (i := 12) (by decide +kernel) (by decide +kernel)⟩
theorem im_X11_emptied : Cond.instanceMethod yX11_emptied ∈ gw := tw (i := 1718) (by decide +kernel) (by decide +kernel)
theorem se_X11_emptied : Cond.selects (yX11_emptied).cls yX11_emptied yX11_emptied ∈ gw := tw (i := 1719) (by decide +kernel) (by decide +kernel)
theorem ok_X11_cuts : MOK mX11_cuts 1 := ⟨by decide +kernel, rfl, by decide +kernel, ⟨by decide +kernel, by decide +kernel, by decide +kernel⟩, tw (i := 1732) (by decide +kernel) (by decide +kernel), tw (i := 12) (by decide +kernel) (by decide +kernel)⟩
theorem im_X11_cuts : Cond.instanceMethod yX11_cuts ∈ gw := tw (i := 1730) (by decide +kernel) (by decide +kernel)
theorem se_X11_cuts : Cond.selects (yX11_cuts).cls yX11_cuts yX11_cuts ∈ gw := tw (i := 1731) (by decide +kernel) (by decide +kernel)
theorem ok_X11_lasts : MOK mX11_lasts 1 := ⟨by decide +kernel, rfl, by decide +kernel, ⟨by decide +kernel, by decide +kernel, by decide +kernel⟩, tw (i := 1736) (by decide +kernel) (by decide +kernel), tw (i := 12) (by decide +kernel) (by decide +kernel)⟩
theorem im_X11_lasts : Cond.instanceMethod yX11_lasts ∈ gw := tw (i := 1734) (by decide +kernel) (by decide +kernel)
theorem se_X11_lasts : Cond.selects (yX11_lasts).cls yX11_lasts yX11_lasts ∈ gw := tw (i := 1735) (by decide +kernel) (by decide +kernel)
theorem ok_X11_count : MOK mX11_count 1 := ⟨by decide +kernel, rfl, by decide +kernel, ⟨by decide +kernel, by decide +kernel, by decide +kernel⟩, tw (i := 1740) (by decide +kernel) (by decide +kernel), tw (i := 12) (by decide +kernel) (by decide +kernel)⟩
theorem im_X11_count : Cond.instanceMethod yX11_count ∈ gw := tw (i := 1738) (by decide +kernel) (by decide +kernel)
theorem se_X11_count : Cond.selects (yX11_count).cls yX11_count yX11_count ∈ gw := tw (i := 1739) (by decide +kernel) (by decide +kernel)
theorem ok_X11_image : MOK mX11_image 1 := ⟨by decide +kernel, rfl, by decide +kernel, ⟨by decide +kernel, by decide +kernel, by decide +kernel⟩, tw (i := 1745) (by decide +kernel) (by decide +kernel), tw (i := 12) (by decide +kernel) (by decide +kernel)⟩
theorem im_X11_image : Cond.instanceMethod yX11_image ∈ gw := tw (i := 1743) (by decide +kernel) (by decide +kernel)
theorem se_X11_image : Cond.selects (yX11_image).cls yX11_image yX11_image ∈ gw := tw (i := 1744) (by decide +kernel) (by decide +kernel)
theorem ok_X11_upOnes : MOK mX11_upOnes 0 := ⟨by decide +kernel, rfl, by decide +kernel, ⟨by decide +kernel, by decide +kernel, by decide +kernel⟩, tw (i := 1753) (by decide +kernel) (by decide +kernel), tw (i := 12) (by decide +kernel) (by decide +kernel)⟩
theorem im_X11_upOnes : Cond.instanceMethod yX11_upOnes ∈ gw := tw (i := 1752) (by decide +kernel) (by decide +kernel)
theorem se_X11_upOnes : Cond.selects (yX11_upOnes).cls yX11_upOnes yX11_upOnes ∈ gw := tv (i := 87) (by decide +kernel) (by decide +kernel)
theorem ok_X11_brokenOnes : MOK mX11_brokenOnes 0 := ⟨by decide +kernel, rfl, by decide +kernel, ⟨by decide +kernel, by decide +kernel, by decide +kernel⟩, tw (i := 1757) (by decide +kernel) (by decide +kernel), tw (i := 12) (by decide +kernel) (by decide +kernel)⟩
theorem im_X11_brokenOnes : Cond.instanceMethod yX11_brokenOnes ∈ gw := tw (i := 1756) (by decide +kernel) (by decide +kernel)
theorem se_X11_brokenOnes : Cond.selects (yX11_brokenOnes).cls yX11_brokenOnes yX11_brokenOnes ∈ gw := tv (i := 88) (by decide +kernel) (by decide +kernel)
theorem ok_X11_frozenOnes : MOK mX11_frozenOnes 0 := ⟨by decide +kernel, rfl, by decide +kernel, ⟨by decide +kernel, by decide +kernel, by decide +kernel⟩, tw (i := 1761) (by decide +kernel) (by decide +kernel), tw (i := 12) (by decide +kernel) (by decide +kernel)⟩
theorem im_X11_frozenOnes : Cond.instanceMethod yX11_frozenOnes ∈ gw := tw (i := 1760) (by decide +kernel) (by decide +kernel)
theorem se_X11_frozenOnes : Cond.selects (yX11_frozenOnes).cls yX11_frozenOnes yX11_frozenOnes ∈ gw := tv (i := 89) (by decide +kernel) (by decide +kernel)
theorem ok_X11_look : MOK mX11_look 1 := ⟨by decide +kernel, rfl, by decide +kernel, ⟨by decide +kernel, by decide +kernel, by decide +kernel⟩, tw (i := 1749) (by decide +kernel) (by decide +kernel), tw (i := 12) (by decide +kernel) (by decide +kernel)⟩
theorem im_X11_look : Cond.instanceMethod yX11_look ∈ gw := tw (i := 1747) (by decide +kernel) (by decide +kernel)
theorem se_X11_look : Cond.selects (yX11_look).cls yX11_look yX11_look ∈ gw := tw (i := 1748) (by decide +kernel) (by decide +kernel)
theorem ml_X0_3 : Cond.methodLink RX0 3 objectInit ∈ gw := tw (i := 326) (by decide +kernel) (by decide +kernel)
theorem cl_X0_9 : Cond.classLink RX0 9 (cK 9).1 ∈ gw := tw (i := 327) (by decide +kernel) (by decide +kernel)
theorem fl_X0_11 : FLK RX0 11 0 0 := ⟨by decide, by decide +kernel, tw (i := 329) (by decide +kernel) (by decide +kernel)⟩
theorem fl_X0_17 : FLK RX0 17 0 1 := ⟨by decide, by decide +kernel, tw (i := 330) (by decide +kernel) (by decide +kernel)⟩
theorem ml_X0_21 : Cond.methodLink RX0 21 yX9_init ∈ gw := tw (i := 527) (by decide +kernel) (by decide +kernel)
theorem ml_X0_22 : Cond.methodLink RX0 22 yX9_copyFrom ∈ gw := tw (i := 528) (by decide +kernel) (by decide +kernel)
theorem fl_X0_26 : FLK RX0 26 0 2 := ⟨by decide, by decide +kernel, tw (i := 331) (by decide +kernel) (by decide +kernel)⟩
theorem ml_X0_29 : Cond.methodLink RX0 29 Lib.Math.min.name ∈ gw := tw (i := 577) (by decide +kernel) (by decide +kernel)
theorem ml_X1_3 : Cond.methodLink RX1 3 objectInit ∈ gw := tw (i := 284) (by decide +kernel) (by decide +kernel)
theorem fl_X1_9 : FLK RX1 9 1 0 := ⟨by decide, by decide +kernel, tw (i := 285) (by decide +kernel) (by decide +kernel)⟩
theorem fl_X1_15 : FLK RX1 15 1 1 := ⟨by decide, by decide +kernel, tw (i := 286) (by decide +kernel) (by decide +kernel)⟩
theorem fl_X1_23 : FLK RX1 23 9 3 := ⟨by decide, by decide +kernel, tw (i := 173) (by decide +kernel) (by decide +kernel)⟩
theorem fl_X1_29 : FLK RX1 29 9 2 := ⟨by decide, by decide +kernel, tw (i := 169) (by decide +kernel) (by decide +kernel)⟩
theorem ml_X1_33 : Cond.methodLink RX1 33 yX8_copyFrom ∈ gw := tw (i := 422) (by decide +kernel) (by decide +kernel)
theorem fl_X1_39 : FLK RX1 39 8 4 := ⟨by decide, by decide +kernel, tw (i := 62) (by decide +kernel) (by decide +kernel)⟩
theorem ml_X1_46 : Cond.methodLink RX1 46 yX8_indexOf ∈ gw := tw (i := 444) (by decide +kernel) (by decide +kernel)
theorem ml_X1_50 : Cond.methodLink RX1 50 yX1_answerTo ∈ gw := tw (i := 448) (by decide +kernel) (by decide +kernel)
theorem fl_X1_54 : FLK RX1 54 8 2 := ⟨by decide, by decide +kernel, tw (i := 53) (by decide +kernel) (by decide +kernel)⟩
theorem ml_X1_58 : Cond.methodLink RX1 58 yX3_noteAnswer ∈ gw := tw (i := 476) (by decide +kernel) (by decide +kernel)
theorem fl_X1_64 : FLK RX1 64 9 1 := ⟨by decide, by decide +kernel, tw (i := 165) (by decide +kernel) (by decide +kernel)⟩
theorem fl_X1_67 : FLK RX1 67 8 1 := ⟨by decide, by decide +kernel, tw (i := 49) (by decide +kernel) (by decide +kernel)⟩
theorem ml_X1_70 : Cond.methodLink RX1 70 yX9_valueOf ∈ gw := tw (i := 480) (by decide +kernel) (by decide +kernel)
theorem co_X1_74 : Cond.constant RX1 74 (nI 99999) ∈ gw := tw (i := 492) (by decide +kernel) (by decide +kernel)
theorem ml_X1_75 : Cond.methodLink RX1 75 yX9_putValue ∈ gw := tw (i := 493) (by decide +kernel) (by decide +kernel)
theorem fl_X1_79 : FLK RX1 79 8 0 := ⟨by decide, by decide +kernel, tw (i := 42) (by decide +kernel) (by decide +kernel)⟩
theorem ml_X1_82 : Cond.methodLink RX1 82 yX9_moveAt ∈ gw := tw (i := 456) (by decide +kernel) (by decide +kernel)
theorem fl_X1_85 : FLK RX1 85 9 4 := ⟨by decide, by decide +kernel, tw (i := 177) (by decide +kernel) (by decide +kernel)⟩
theorem ml_X1_89 : Cond.methodLink RX1 89 yX4_noteWrite ∈ gw := tw (i := 497) (by decide +kernel) (by decide +kernel)
theorem fl_X1_95 : FLK RX1 95 8 3 := ⟨by decide, by decide +kernel, tw (i := 59) (by decide +kernel) (by decide +kernel)⟩
theorem ml_X1_98 : Cond.methodLink RX1 98 yX9_isUp ∈ gw := tw (i := 452) (by decide +kernel) (by decide +kernel)
theorem ml_X1_101 : Cond.methodLink RX1 101 yX4_refusesWrite ∈ gw := tw (i := 464) (by decide +kernel) (by decide +kernel)
theorem ml_X2_3 : Cond.methodLink RX2 3 objectInit ∈ gw := tw (i := 297) (by decide +kernel) (by decide +kernel)
theorem fl_X2_9 : FLK RX2 9 2 0 := ⟨by decide, by decide +kernel, tw (i := 298) (by decide +kernel) (by decide +kernel)⟩
theorem fl_X2_15 : FLK RX2 15 2 1 := ⟨by decide, by decide +kernel, tw (i := 299) (by decide +kernel) (by decide +kernel)⟩
theorem fl_X2_19 : FLK RX2 19 2 2 := ⟨by decide, by decide +kernel, tw (i := 300) (by decide +kernel) (by decide +kernel)⟩
theorem fl_X2_23 : FLK RX2 23 9 2 := ⟨by decide, by decide +kernel, tw (i := 167) (by decide +kernel) (by decide +kernel)⟩
theorem ml_X2_29 : Cond.methodLink RX2 29 yX8_indexOfLow ∈ gw := tw (i := 543) (by decide +kernel) (by decide +kernel)
theorem ml_X2_35 : Cond.methodLink RX2 35 yX8_endOf ∈ gw := tw (i := 547) (by decide +kernel) (by decide +kernel)
theorem fl_X2_38 : FLK RX2 38 8 3 := ⟨by decide, by decide +kernel, tw (i := 57) (by decide +kernel) (by decide +kernel)⟩
theorem ml_X2_42 : Cond.methodLink RX2 42 yX9_moveAt ∈ gw := tw (i := 551) (by decide +kernel) (by decide +kernel)
theorem fl_X2_45 : FLK RX2 45 8 1 := ⟨by decide, by decide +kernel, tw (i := 47) (by decide +kernel) (by decide +kernel)⟩
theorem fl_X2_49 : FLK RX2 49 8 4 := ⟨by decide, by decide +kernel, tw (i := 63) (by decide +kernel) (by decide +kernel)⟩
theorem ml_X2_52 : Cond.methodLink RX2 52 yX8_insertBehind ∈ gw := tw (i := 552) (by decide +kernel) (by decide +kernel)
theorem ml_X2_56 : Cond.methodLink RX2 56 yX8_put ∈ gw := tw (i := 560) (by decide +kernel) (by decide +kernel)
theorem ml_X2_60 : Cond.methodLink RX2 60 yX3_add ∈ gw := tw (i := 561) (by decide +kernel) (by decide +kernel)
theorem ml_X2_66 : Cond.methodLink RX2 66 yX3_noteChange ∈ gw := tw (i := 565) (by decide +kernel) (by decide +kernel)
theorem ml_X2_70 : Cond.methodLink RX2 70 yX6_take ∈ gw := tw (i := 588) (by decide +kernel) (by decide +kernel)
theorem ml_X2_76 : Cond.methodLink RX2 76 yX6_middleIn ∈ gw := tw (i := 598) (by decide +kernel) (by decide +kernel)
theorem ml_X2_79 : Cond.methodLink RX2 79 yX2_cutAt ∈ gw := tw (i := 602) (by decide +kernel) (by decide +kernel)
theorem fl_X2_83 : FLK RX2 83 8 0 := ⟨by decide, by decide +kernel, tw (i := 41) (by decide +kernel) (by decide +kernel)⟩
theorem ml_X2_86 : Cond.methodLink RX2 86 yX8_removeBehind ∈ gw := tw (i := 611) (by decide +kernel) (by decide +kernel)
theorem ml_X3_3 : Cond.methodLink RX3 3 objectInit ∈ gw := tw (i := 211) (by decide +kernel) (by decide +kernel)
theorem fl_X3_9 : FLK RX3 9 3 0 := ⟨by decide, by decide +kernel, tw (i := 212) (by decide +kernel) (by decide +kernel)⟩
theorem fl_X3_15 : FLK RX3 15 3 1 := ⟨by decide, by decide +kernel, tw (i := 214) (by decide +kernel) (by decide +kernel)⟩
theorem fl_X3_18 : FLK RX3 18 3 2 := ⟨by decide, by decide +kernel, tw (i := 216) (by decide +kernel) (by decide +kernel)⟩
theorem fl_X3_21 : FLK RX3 21 3 3 := ⟨by decide, by decide +kernel, tw (i := 218) (by decide +kernel) (by decide +kernel)⟩
theorem fl_X3_24 : FLK RX3 24 3 4 := ⟨by decide, by decide +kernel, tw (i := 220) (by decide +kernel) (by decide +kernel)⟩
theorem fl_X3_27 : FLK RX3 27 3 5 := ⟨by decide, by decide +kernel, tw (i := 222) (by decide +kernel) (by decide +kernel)⟩
theorem ml_X3_30 : Cond.methodLink RX3 30 arraycopyName ∈ gw := tw (i := 907) (by decide +kernel) (by decide +kernel)
theorem ml_X3_36 : Cond.methodLink RX3 36 Lib.Math.min.name ∈ gw := tw (i := 908) (by decide +kernel) (by decide +kernel)
theorem ml_X4_3 : Cond.methodLink RX4 3 objectInit ∈ gw := tw (i := 90) (by decide +kernel) (by decide +kernel)
theorem fl_X4_9 : FLK RX4 9 4 0 := ⟨by decide, by decide +kernel, tw (i := 91) (by decide +kernel) (by decide +kernel)⟩
theorem fl_X4_15 : FLK RX4 15 4 3 := ⟨by decide, by decide +kernel, tw (i := 101) (by decide +kernel) (by decide +kernel)⟩
theorem fl_X4_19 : FLK RX4 19 4 4 := ⟨by decide, by decide +kernel, tw (i := 105) (by decide +kernel) (by decide +kernel)⟩
theorem fl_X4_22 : FLK RX4 22 4 5 := ⟨by decide, by decide +kernel, tw (i := 108) (by decide +kernel) (by decide +kernel)⟩
theorem fl_X4_25 : FLK RX4 25 4 6 := ⟨by decide, by decide +kernel, tw (i := 112) (by decide +kernel) (by decide +kernel)⟩
theorem fl_X4_28 : FLK RX4 28 4 2 := ⟨by decide, by decide +kernel, tw (i := 97) (by decide +kernel) (by decide +kernel)⟩
theorem fl_X4_31 : FLK RX4 31 4 7 := ⟨by decide, by decide +kernel, tw (i := 116) (by decide +kernel) (by decide +kernel)⟩
theorem fl_X4_34 : FLK RX4 34 4 1 := ⟨by decide, by decide +kernel, tw (i := 94) (by decide +kernel) (by decide +kernel)⟩
theorem fl_X4_37 : FLK RX4 37 4 8 := ⟨by decide, by decide +kernel, tw (i := 119) (by decide +kernel) (by decide +kernel)⟩
theorem fl_X4_41 : FLK RX4 41 4 9 := ⟨by decide, by decide +kernel, tw (i := 123) (by decide +kernel) (by decide +kernel)⟩
theorem fl_X4_44 : FLK RX4 44 4 10 := ⟨by decide, by decide +kernel, tw (i := 125) (by decide +kernel) (by decide +kernel)⟩
theorem fl_X4_47 : FLK RX4 47 4 11 := ⟨by decide, by decide +kernel, tw (i := 128) (by decide +kernel) (by decide +kernel)⟩
theorem fl_X4_50 : FLK RX4 50 4 12 := ⟨by decide, by decide +kernel, tw (i := 131) (by decide +kernel) (by decide +kernel)⟩
theorem ml_X4_53 : Cond.methodLink RX4 53 yX4_takesTrail ∈ gw := tw (i := 468) (by decide +kernel) (by decide +kernel)
theorem ml_X4_57 : Cond.methodLink RX4 57 yX4_hasInTrail ∈ gw := tw (i := 472) (by decide +kernel) (by decide +kernel)
theorem ml_X4_61 : Cond.methodLink RX4 61 arraycopyName ∈ gw := tw (i := 538) (by decide +kernel) (by decide +kernel)
theorem ml_X5_3 : Cond.methodLink RX5 3 objectInit ∈ gw := tw (i := 313) (by decide +kernel) (by decide +kernel)
theorem fl_X5_9 : FLK RX5 9 5 0 := ⟨by decide, by decide +kernel, tw (i := 314) (by decide +kernel) (by decide +kernel)⟩
theorem fl_X5_15 : FLK RX5 15 5 1 := ⟨by decide, by decide +kernel, tw (i := 315) (by decide +kernel) (by decide +kernel)⟩
theorem fl_X5_19 : FLK RX5 19 9 2 := ⟨by decide, by decide +kernel, tw (i := 168) (by decide +kernel) (by decide +kernel)⟩
theorem ml_X5_25 : Cond.methodLink RX5 25 yX8_indexOfLow ∈ gw := tw (i := 623) (by decide +kernel) (by decide +kernel)
theorem fl_X5_35 : FLK RX5 35 8 1 := ⟨by decide, by decide +kernel, tw (i := 46) (by decide +kernel) (by decide +kernel)⟩
theorem ml_X5_39 : Cond.methodLink RX5 39 yX9_isUp ∈ gw := tw (i := 627) (by decide +kernel) (by decide +kernel)
theorem ml_X5_42 : Cond.methodLink RX5 42 yX9_moveAt ∈ gw := tw (i := 628) (by decide +kernel) (by decide +kernel)
theorem fl_X5_45 : FLK RX5 45 9 5 := ⟨by decide, by decide +kernel, tw (i := 180) (by decide +kernel) (by decide +kernel)⟩
theorem ml_X5_49 : Cond.methodLink RX5 49 yX9_movesGoingOn ∈ gw := tw (i := 629) (by decide +kernel) (by decide +kernel)
theorem fl_X5_53 : FLK RX5 53 9 4 := ⟨by decide, by decide +kernel, tw (i := 176) (by decide +kernel) (by decide +kernel)⟩
theorem ml_X5_57 : Cond.methodLink RX5 57 yX8_endOf ∈ gw := tw (i := 633) (by decide +kernel) (by decide +kernel)
theorem ml_X5_60 : Cond.methodLink RX5 60 yX4_begin ∈ gw := tw (i := 634) (by decide +kernel) (by decide +kernel)
theorem ml_X5_66 : Cond.methodLink RX5 66 yX3_add ∈ gw := tw (i := 638) (by decide +kernel) (by decide +kernel)
theorem ml_X5_72 : Cond.methodLink RX5 72 yX9_canStep ∈ gw := tw (i := 647) (by decide +kernel) (by decide +kernel)
theorem ml_X5_75 : Cond.methodLink RX5 75 yX4_goesOn ∈ gw := tw (i := 660) (by decide +kernel) (by decide +kernel)
theorem fl_X5_79 : FLK RX5 79 4 8 := ⟨by decide, by decide +kernel, tw (i := 120) (by decide +kernel) (by decide +kernel)⟩
theorem ml_X5_83 : Cond.methodLink RX5 83 yX5_takeOne ∈ gw := tw (i := 661) (by decide +kernel) (by decide +kernel)
theorem fl_X5_87 : FLK RX5 87 4 2 := ⟨by decide, by decide +kernel, tw (i := 98) (by decide +kernel) (by decide +kernel)⟩
theorem fl_X5_90 : FLK RX5 90 4 10 := ⟨by decide, by decide +kernel, tw (i := 126) (by decide +kernel) (by decide +kernel)⟩
theorem ml_X5_93 : Cond.methodLink RX5 93 yX4_countDown ∈ gw := tw (i := 665) (by decide +kernel) (by decide +kernel)
theorem fl_X5_96 : FLK RX5 96 9 7 := ⟨by decide, by decide +kernel, tw (i := 187) (by decide +kernel) (by decide +kernel)⟩
theorem ml_X5_99 : Cond.methodLink RX5 99 yX5_copySome ∈ gw := tw (i := 669) (by decide +kernel) (by decide +kernel)
theorem ml_X5_103 : Cond.methodLink RX5 103 yX5_catchUpSome ∈ gw := tw (i := 675) (by decide +kernel) (by decide +kernel)
theorem ml_X5_107 : Cond.methodLink RX5 107 yX5_cleanSome ∈ gw := tw (i := 684) (by decide +kernel) (by decide +kernel)
theorem ml_X5_110 : Cond.methodLink RX5 110 yX4_breakBy ∈ gw := tw (i := 688) (by decide +kernel) (by decide +kernel)
theorem ml_X5_114 : Cond.methodLink RX5 114 yX5_goFurther ∈ gw := tw (i := 692) (by decide +kernel) (by decide +kernel)
theorem ml_X5_118 : Cond.methodLink RX5 118 yX5_switchOwner ∈ gw := tw (i := 696) (by decide +kernel) (by decide +kernel)
theorem fl_X5_121 : FLK RX5 121 4 1 := ⟨by decide, by decide +kernel, tw (i := 95) (by decide +kernel) (by decide +kernel)⟩
theorem fl_X5_124 : FLK RX5 124 4 4 := ⟨by decide, by decide +kernel, tw (i := 106) (by decide +kernel) (by decide +kernel)⟩
theorem fl_X5_127 : FLK RX5 127 4 7 := ⟨by decide, by decide +kernel, tw (i := 117) (by decide +kernel) (by decide +kernel)⟩
theorem ml_X5_130 : Cond.methodLink RX5 130 yX5_endAs ∈ gw := tw (i := 703) (by decide +kernel) (by decide +kernel)
theorem fl_X5_133 : FLK RX5 133 4 5 := ⟨by decide, by decide +kernel, tw (i := 109) (by decide +kernel) (by decide +kernel)⟩
theorem ml_X5_136 : Cond.methodLink RX5 136 yX9_valueOf ∈ gw := tw (i := 673) (by decide +kernel) (by decide +kernel)
theorem fl_X5_140 : FLK RX5 140 4 6 := ⟨by decide, by decide +kernel, tw (i := 113) (by decide +kernel) (by decide +kernel)⟩
theorem ml_X5_143 : Cond.methodLink RX5 143 yX9_putValue ∈ gw := tw (i := 674) (by decide +kernel) (by decide +kernel)
theorem ml_X5_147 : Cond.methodLink RX5 147 Lib.Math.min.name ∈ gw := tw (i := 679) (by decide +kernel) (by decide +kernel)
theorem fl_X5_152 : FLK RX5 152 4 0 := ⟨by decide, by decide +kernel, tw (i := 92) (by decide +kernel) (by decide +kernel)⟩
theorem ml_X5_155 : Cond.methodLink RX5 155 yX4_dropFromTrail ∈ gw := tw (i := 680) (by decide +kernel) (by decide +kernel)
theorem fl_X5_158 : FLK RX5 158 4 3 := ⟨by decide, by decide +kernel, tw (i := 102) (by decide +kernel) (by decide +kernel)⟩
theorem ml_X5_161 : Cond.methodLink RX5 161 yX8_indexOf ∈ gw := tw (i := 700) (by decide +kernel) (by decide +kernel)
theorem fl_X5_164 : FLK RX5 164 8 4 := ⟨by decide, by decide +kernel, tw (i := 66) (by decide +kernel) (by decide +kernel)⟩
theorem ml_X5_167 : Cond.methodLink RX5 167 yX8_put ∈ gw := tw (i := 701) (by decide +kernel) (by decide +kernel)
theorem ml_X5_170 : Cond.methodLink RX5 170 yX3_noteChange ∈ gw := tw (i := 702) (by decide +kernel) (by decide +kernel)
theorem fl_X5_173 : FLK RX5 173 4 12 := ⟨by decide, by decide +kernel, tw (i := 132) (by decide +kernel) (by decide +kernel)⟩
theorem ml_X5_174 : Cond.methodLink RX5 174 yX9_hasMove ∈ gw := tw (i := 715) (by decide +kernel) (by decide +kernel)
theorem fl_X5_177 : FLK RX5 177 4 11 := ⟨by decide, by decide +kernel, tw (i := 129) (by decide +kernel) (by decide +kernel)⟩
theorem fl_X5_180 : FLK RX5 180 9 6 := ⟨by decide, by decide +kernel, tw (i := 184) (by decide +kernel) (by decide +kernel)⟩
theorem ml_X5_183 : Cond.methodLink RX5 183 yX9_bothUp ∈ gw := tw (i := 741) (by decide +kernel) (by decide +kernel)
theorem ml_X5_187 : Cond.methodLink RX5 187 yX9_loseValues ∈ gw := tw (i := 742) (by decide +kernel) (by decide +kernel)
theorem ml_X5_190 : Cond.methodLink RX5 190 yX5_turnBack ∈ gw := tw (i := 747) (by decide +kernel) (by decide +kernel)
theorem ml_X5_193 : Cond.methodLink RX5 193 Lib.Math.max.name ∈ gw := tw (i := 1162) (by decide +kernel) (by decide +kernel)
theorem ml_X5_196 : Cond.methodLink RX5 196 yX9_valuesIn ∈ gw := tw (i := 1163) (by decide +kernel) (by decide +kernel)
theorem ml_X6_3 : Cond.methodLink RX6 3 objectInit ∈ gw := tw (i := 241) (by decide +kernel) (by decide +kernel)
theorem fl_X6_9 : FLK RX6 9 6 0 := ⟨by decide, by decide +kernel, tw (i := 242) (by decide +kernel) (by decide +kernel)⟩
theorem fl_X6_15 : FLK RX6 15 6 1 := ⟨by decide, by decide +kernel, tw (i := 243) (by decide +kernel) (by decide +kernel)⟩
theorem fl_X6_18 : FLK RX6 18 6 2 := ⟨by decide, by decide +kernel, tw (i := 245) (by decide +kernel) (by decide +kernel)⟩
theorem fl_X6_21 : FLK RX6 21 6 3 := ⟨by decide, by decide +kernel, tw (i := 246) (by decide +kernel) (by decide +kernel)⟩
theorem fl_X6_25 : FLK RX6 25 6 4 := ⟨by decide, by decide +kernel, tw (i := 247) (by decide +kernel) (by decide +kernel)⟩
theorem fl_X6_28 : FLK RX6 28 9 1 := ⟨by decide, by decide +kernel, tw (i := 164) (by decide +kernel) (by decide +kernel)⟩
theorem fl_X6_33 : FLK RX6 33 9 2 := ⟨by decide, by decide +kernel, tw (i := 170) (by decide +kernel) (by decide +kernel)⟩
theorem fl_X6_37 : FLK RX6 37 8 3 := ⟨by decide, by decide +kernel, tw (i := 58) (by decide +kernel) (by decide +kernel)⟩
theorem fl_X6_43 : FLK RX6 43 6 5 := ⟨by decide, by decide +kernel, tw (i := 249) (by decide +kernel) (by decide +kernel)⟩
theorem fl_X6_44 : FLK RX6 44 9 6 := ⟨by decide, by decide +kernel, tw (i := 183) (by decide +kernel) (by decide +kernel)⟩
theorem fl_X6_47 : FLK RX6 47 6 6 := ⟨by decide, by decide +kernel, tw (i := 250) (by decide +kernel) (by decide +kernel)⟩
theorem fl_X6_48 : FLK RX6 48 8 0 := ⟨by decide, by decide +kernel, tw (i := 40) (by decide +kernel) (by decide +kernel)⟩
theorem ml_X6_49 : Cond.methodLink RX6 49 arraycopyName ∈ gw := tw (i := 592) (by decide +kernel) (by decide +kernel)
theorem fl_X6_55 : FLK RX6 55 8 1 := ⟨by decide, by decide +kernel, tw (i := 48) (by decide +kernel) (by decide +kernel)⟩
theorem ml_X6_56 : Cond.methodLink RX6 56 yX9_moveAt ∈ gw := tw (i := 593) (by decide +kernel) (by decide +kernel)
theorem ml_X6_60 : Cond.methodLink RX6 60 yX6_weightOf ∈ gw := tw (i := 594) (by decide +kernel) (by decide +kernel)
theorem ml_X6_63 : Cond.methodLink RX6 63 yX6_isUp ∈ gw := tw (i := 1098) (by decide +kernel) (by decide +kernel)
theorem ml_X6_67 : Cond.methodLink RX6 67 yX6_heaviest ∈ gw := tw (i := 1094) (by decide +kernel) (by decide +kernel)
theorem ml_X6_70 : Cond.methodLink RX6 70 yX6_lightest ∈ gw := tw (i := 1102) (by decide +kernel) (by decide +kernel)
theorem fl_X6_73 : FLK RX6 73 6 7 := ⟨by decide, by decide +kernel, tw (i := 251) (by decide +kernel) (by decide +kernel)⟩
theorem fl_X6_76 : FLK RX6 76 6 8 := ⟨by decide, by decide +kernel, tw (i := 253) (by decide +kernel) (by decide +kernel)⟩
theorem fl_X6_79 : FLK RX6 79 6 9 := ⟨by decide, by decide +kernel, tw (i := 255) (by decide +kernel) (by decide +kernel)⟩
theorem ml_X6_82 : Cond.methodLink RX6 82 yX6_gap ∈ gw := tw (i := 1114) (by decide +kernel) (by decide +kernel)
theorem ml_X6_85 : Cond.methodLink RX6 85 yX6_bestToMove ∈ gw := tw (i := 1115) (by decide +kernel) (by decide +kernel)
theorem ml_X6_89 : Cond.methodLink RX6 89 yX6_bestToSplit ∈ gw := tw (i := 1122) (by decide +kernel) (by decide +kernel)
theorem ml_X6_92 : Cond.methodLink RX6 92 yX6_middleIn ∈ gw := tw (i := 1126) (by decide +kernel) (by decide +kernel)
theorem ml_X6_95 : Cond.methodLink RX6 95 Lib.Math.abs.name ∈ gw := tw (i := 1119) (by decide +kernel) (by decide +kernel)
theorem ml_X6_100 : Cond.methodLink RX6 100 yX6_handTo ∈ gw := tw (i := 1135) (by decide +kernel) (by decide +kernel)
theorem ml_X6_104 : Cond.methodLink RX6 104 yX6_cut ∈ gw := tw (i := 1139) (by decide +kernel) (by decide +kernel)
theorem ml_X7_3 : Cond.methodLink RX7 3 objectInit ∈ gw := tw (i := 345) (by decide +kernel) (by decide +kernel)
theorem fl_X7_9 : FLK RX7 9 7 0 := ⟨by decide, by decide +kernel, tw (i := 346) (by decide +kernel) (by decide +kernel)⟩
theorem fl_X7_15 : FLK RX7 15 7 1 := ⟨by decide, by decide +kernel, tw (i := 347) (by decide +kernel) (by decide +kernel)⟩
theorem fl_X7_19 : FLK RX7 19 7 2 := ⟨by decide, by decide +kernel, tw (i := 348) (by decide +kernel) (by decide +kernel)⟩
theorem fl_X7_22 : FLK RX7 22 7 6 := ⟨by decide, by decide +kernel, tw (i := 356) (by decide +kernel) (by decide +kernel)⟩
theorem fl_X7_26 : FLK RX7 26 7 3 := ⟨by decide, by decide +kernel, tw (i := 350) (by decide +kernel) (by decide +kernel)⟩
theorem fl_X7_29 : FLK RX7 29 7 7 := ⟨by decide, by decide +kernel, tw (i := 358) (by decide +kernel) (by decide +kernel)⟩
theorem fl_X7_32 : FLK RX7 32 7 4 := ⟨by decide, by decide +kernel, tw (i := 352) (by decide +kernel) (by decide +kernel)⟩
theorem fl_X7_35 : FLK RX7 35 7 5 := ⟨by decide, by decide +kernel, tw (i := 354) (by decide +kernel) (by decide +kernel)⟩
theorem ml_X7_38 : Cond.methodLink RX7 38 yX7_skipBlanks ∈ gw := tw (i := 795) (by decide +kernel) (by decide +kernel)
theorem ml_X7_41 : Cond.methodLink RX7 41 yX7_parseClause ∈ gw := tw (i := 799) (by decide +kernel) (by decide +kernel)
theorem ml_X7_44 : Cond.methodLink RX7 44 yX7_verbOf ∈ gw := tw (i := 803) (by decide +kernel) (by decide +kernel)
theorem ml_X7_48 : Cond.methodLink RX7 48 yX7_tell ∈ gw := tw (i := 856) (by decide +kernel) (by decide +kernel)
theorem ml_X7_55 : Cond.methodLink RX7 55 yX7_parseNumber ∈ gw := tw (i := 862) (by decide +kernel) (by decide +kernel)
theorem ml_X7_59 : Cond.methodLink RX7 59 yX7_parseClauseEnd ∈ gw := tw (i := 869) (by decide +kernel) (by decide +kernel)
theorem co_X7_62 : Cond.constant RX7 62 (nI 100000) ∈ gw := tw (i := 866) (by decide +kernel) (by decide +kernel)
theorem ml_X7_63 : Cond.methodLink RX7 63 Lib.Math.min.name ∈ gw := tw (i := 867) (by decide +kernel) (by decide +kernel)
theorem co_X7_68 : Cond.constant RX7 68 (nI 99999) ∈ gw := tw (i := 868) (by decide +kernel) (by decide +kernel)
theorem ml_X8_3 : Cond.methodLink RX8 3 objectInit ∈ gw := tw (i := 38) (by decide +kernel) (by decide +kernel)
theorem fl_X8_9 : FLK RX8 9 8 0 := ⟨by decide, by decide +kernel, tw (i := 39) (by decide +kernel) (by decide +kernel)⟩
theorem fl_X8_15 : FLK RX8 15 8 1 := ⟨by decide, by decide +kernel, tw (i := 45) (by decide +kernel) (by decide +kernel)⟩
theorem fl_X8_18 : FLK RX8 18 8 2 := ⟨by decide, by decide +kernel, tw (i := 52) (by decide +kernel) (by decide +kernel)⟩
theorem fl_X8_21 : FLK RX8 21 8 3 := ⟨by decide, by decide +kernel, tw (i := 56) (by decide +kernel) (by decide +kernel)⟩
theorem fl_X8_25 : FLK RX8 25 8 4 := ⟨by decide, by decide +kernel, tw (i := 64) (by decide +kernel) (by decide +kernel)⟩
theorem ml_X8_28 : Cond.methodLink RX8 28 yX8_copyRow ∈ gw := tw (i := 556) (by decide +kernel) (by decide +kernel)
theorem ml_X8_32 : Cond.methodLink RX8 32 arraycopyName ∈ gw := tw (i := 426) (by decide +kernel) (by decide +kernel)
theorem ml_X9_3 : Cond.methodLink RX9 3 objectInit ∈ gw := tw (i := 32) (by decide +kernel) (by decide +kernel)
theorem fl_X9_9 : FLK RX9 9 9 0 := ⟨by decide, by decide +kernel, tw (i := 162) (by decide +kernel) (by decide +kernel)⟩
theorem fl_X9_15 : FLK RX9 15 9 1 := ⟨by decide, by decide +kernel, tw (i := 163) (by decide +kernel) (by decide +kernel)⟩
theorem cl_X9_18 : Cond.classLink RX9 18 (cK 8).1 ∈ gw := tw (i := 33) (by decide +kernel) (by decide +kernel)
theorem fl_X9_21 : FLK RX9 21 9 2 := ⟨by decide, by decide +kernel, tw (i := 166) (by decide +kernel) (by decide +kernel)⟩
theorem fl_X9_25 : FLK RX9 25 9 3 := ⟨by decide, by decide +kernel, tw (i := 172) (by decide +kernel) (by decide +kernel)⟩
theorem cl_X9_29 : Cond.classLink RX9 29 (cK 4).1 ∈ gw := tw (i := 80) (by decide +kernel) (by decide +kernel)
theorem fl_X9_31 : FLK RX9 31 9 4 := ⟨by decide, by decide +kernel, tw (i := 175) (by decide +kernel) (by decide +kernel)⟩
theorem fl_X9_35 : FLK RX9 35 8 4 := ⟨by decide, by decide +kernel, tw (i := 61) (by decide +kernel) (by decide +kernel)⟩
theorem fl_X9_39 : FLK RX9 39 8 3 := ⟨by decide, by decide +kernel, tw (i := 55) (by decide +kernel) (by decide +kernel)⟩
theorem ml_X9_42 : Cond.methodLink RX9 42 yX8_put ∈ gw := tw (i := 82) (by decide +kernel) (by decide +kernel)
theorem fl_X9_47 : FLK RX9 47 9 6 := ⟨by decide, by decide +kernel, tw (i := 182) (by decide +kernel) (by decide +kernel)⟩
theorem fl_X9_50 : FLK RX9 50 9 7 := ⟨by decide, by decide +kernel, tw (i := 186) (by decide +kernel) (by decide +kernel)⟩
theorem ml_X9_53 : Cond.methodLink RX9 53 arraycopyName ∈ gw := tw (i := 532) (by decide +kernel) (by decide +kernel)
theorem ml_X9_59 : Cond.methodLink RX9 59 yX8_copyFrom ∈ gw := tw (i := 533) (by decide +kernel) (by decide +kernel)
theorem fl_X9_63 : FLK RX9 63 9 5 := ⟨by decide, by decide +kernel, tw (i := 179) (by decide +kernel) (by decide +kernel)⟩
theorem ml_X9_66 : Cond.methodLink RX9 66 yX4_copyFrom ∈ gw := tw (i := 534) (by decide +kernel) (by decide +kernel)
theorem ml_X9_73 : Cond.methodLink RX9 73 yX9_isUp ∈ gw := tw (i := 659) (by decide +kernel) (by decide +kernel)
theorem ml_X9_76 : Cond.methodLink RX9 76 yX9_putValue ∈ gw := tw (i := 746) (by decide +kernel) (by decide +kernel)
theorem fl_X9_79 : FLK RX9 79 8 1 := ⟨by decide, by decide +kernel, tw (i := 50) (by decide +kernel) (by decide +kernel)⟩
theorem fl_X9_82 : FLK RX9 82 8 0 := ⟨by decide, by decide +kernel, tw (i := 43) (by decide +kernel) (by decide +kernel)⟩
theorem ml_X9_85 : Cond.methodLink RX9 85 yX8_endOf ∈ gw := tw (i := 1034) (by decide +kernel) (by decide +kernel)
theorem ml_X9_89 : Cond.methodLink RX9 89 yX9_valuesIn ∈ gw := tw (i := 1035) (by decide +kernel) (by decide +kernel)
theorem ml_X9_93 : Cond.methodLink RX9 93 yX9_moveAt ∈ gw := tw (i := 923) (by decide +kernel) (by decide +kernel)
theorem fl_X9_96 : FLK RX9 96 4 5 := ⟨by decide, by decide +kernel, tw (i := 110) (by decide +kernel) (by decide +kernel)⟩
theorem fl_X9_99 : FLK RX9 99 4 6 := ⟨by decide, by decide +kernel, tw (i := 114) (by decide +kernel) (by decide +kernel)⟩
theorem fl_X9_102 : FLK RX9 102 4 3 := ⟨by decide, by decide +kernel, tw (i := 103) (by decide +kernel) (by decide +kernel)⟩
theorem ml_X9_105 : Cond.methodLink RX9 105 yX4_goesOn ∈ gw := tw (i := 460) (by decide +kernel) (by decide +kernel)
theorem fl_X9_109 : FLK RX9 109 4 2 := ⟨by decide, by decide +kernel, tw (i := 99) (by decide +kernel) (by decide +kernel)⟩
theorem ml_X9_112 : Cond.methodLink RX9 112 yX9_isFrozen ∈ gw := tw (i := 1040) (by decide +kernel) (by decide +kernel)
theorem ml_X9_115 : Cond.methodLink RX9 115 yX9_hasMove ∈ gw := tw (i := 651) (by decide +kernel) (by decide +kernel)
theorem fl_X9_118 : FLK RX9 118 4 8 := ⟨by decide, by decide +kernel, tw (i := 121) (by decide +kernel) (by decide +kernel)⟩
theorem ml_X9_122 : Cond.methodLink RX9 122 yX9_bothUp ∈ gw := tw (i := 655) (by decide +kernel) (by decide +kernel)
theorem fl_X9_126 : FLK RX9 126 4 12 := ⟨by decide, by decide +kernel, tw (i := 133) (by decide +kernel) (by decide +kernel)⟩
theorem ml_X9_127 : Cond.methodLink RX9 127 yX4_covers ∈ gw := tw (i := 989) (by decide +kernel) (by decide +kernel)
theorem ml_X9_130 : Cond.methodLink RX9 130 Lib.Math.max.name ∈ gw := tw (i := 1065) (by decide +kernel) (by decide +kernel)
theorem ml_X9_136 : Cond.methodLink RX9 136 yX9_greatestWeight ∈ gw := tw (i := 1061) (by decide +kernel) (by decide +kernel)
theorem ml_X9_140 : Cond.methodLink RX9 140 yX9_keysAbove ∈ gw := tw (i := 1068) (by decide +kernel) (by decide +kernel)
theorem ml_X10_3 : Cond.methodLink RX10 3 objectInit ∈ gw := tw (i := 24) (by decide +kernel) (by decide +kernel)
theorem cl_X10_9 : Cond.classLink RX10 9 (cK 9).1 ∈ gw := tw (i := 27) (by decide +kernel) (by decide +kernel)
theorem ml_X10_11 : Cond.methodLink RX10 11 yX9_init ∈ gw := tw (i := 29) (by decide +kernel) (by decide +kernel)
theorem cl_X10_12 : Cond.classLink RX10 12 (cK 3).1 ∈ gw := tw (i := 206) (by decide +kernel) (by decide +kernel)
theorem cl_X10_15 : Cond.classLink RX10 15 (cK 6).1 ∈ gw := tw (i := 236) (by decide +kernel) (by decide +kernel)
theorem fl_X10_18 : FLK RX10 18 10 0 := ⟨by decide, by decide +kernel, tw (i := 377) (by decide +kernel) (by decide +kernel)⟩
theorem fl_X10_22 : FLK RX10 22 10 1 := ⟨by decide, by decide +kernel, tw (i := 378) (by decide +kernel) (by decide +kernel)⟩
theorem fl_X10_26 : FLK RX10 26 10 5 := ⟨by decide, by decide +kernel, tw (i := 382) (by decide +kernel) (by decide +kernel)⟩
theorem cl_X10_30 : Cond.classLink RX10 30 (cK 1).1 ∈ gw := tw (i := 279) (by decide +kernel) (by decide +kernel)
theorem ml_X10_32 : Cond.methodLink RX10 32 yX1_init ∈ gw := tw (i := 281) (by decide +kernel) (by decide +kernel)
theorem fl_X10_35 : FLK RX10 35 10 2 := ⟨by decide, by decide +kernel, tw (i := 379) (by decide +kernel) (by decide +kernel)⟩
theorem cl_X10_39 : Cond.classLink RX10 39 (cK 2).1 ∈ gw := tw (i := 292) (by decide +kernel) (by decide +kernel)
theorem ml_X10_41 : Cond.methodLink RX10 41 yX2_init ∈ gw := tw (i := 294) (by decide +kernel) (by decide +kernel)
theorem fl_X10_44 : FLK RX10 44 10 3 := ⟨by decide, by decide +kernel, tw (i := 380) (by decide +kernel) (by decide +kernel)⟩
theorem cl_X10_48 : Cond.classLink RX10 48 (cK 5).1 ∈ gw := tw (i := 308) (by decide +kernel) (by decide +kernel)
theorem ml_X10_50 : Cond.methodLink RX10 50 yX5_init ∈ gw := tw (i := 310) (by decide +kernel) (by decide +kernel)
theorem fl_X10_51 : FLK RX10 51 10 4 := ⟨by decide, by decide +kernel, tw (i := 381) (by decide +kernel) (by decide +kernel)⟩
theorem cl_X10_55 : Cond.classLink RX10 55 (cK 0).1 ∈ gw := tw (i := 321) (by decide +kernel) (by decide +kernel)
theorem fl_X10_58 : FLK RX10 58 10 6 := ⟨by decide, by decide +kernel, tw (i := 383) (by decide +kernel) (by decide +kernel)⟩
theorem cl_X10_62 : Cond.classLink RX10 62 (cK 7).1 ∈ gw := tw (i := 340) (by decide +kernel) (by decide +kernel)
theorem fl_X10_65 : FLK RX10 65 10 7 := ⟨by decide, by decide +kernel, tw (i := 384) (by decide +kernel) (by decide +kernel)⟩
theorem fl_X10_69 : FLK RX10 69 10 8 := ⟨by decide, by decide +kernel, tw (i := 385) (by decide +kernel) (by decide +kernel)⟩
theorem fl_X10_72 : FLK RX10 72 10 9 := ⟨by decide, by decide +kernel, tw (i := 386) (by decide +kernel) (by decide +kernel)⟩
theorem fl_X10_75 : FLK RX10 75 10 10 := ⟨by decide, by decide +kernel, tw (i := 387) (by decide +kernel) (by decide +kernel)⟩
theorem ml_X10_79 : Cond.methodLink RX10 79 yX1_takeMap ∈ gw := tw (i := 415) (by decide +kernel) (by decide +kernel)
theorem ml_X10_83 : Cond.methodLink RX10 83 yX0_forget ∈ gw := tw (i := 429) (by decide +kernel) (by decide +kernel)
theorem ml_X10_86 : Cond.methodLink RX10 86 yX1_readKey ∈ gw := tw (i := 437) (by decide +kernel) (by decide +kernel)
theorem ml_X10_90 : Cond.methodLink RX10 90 yX1_writeKey ∈ gw := tw (i := 488) (by decide +kernel) (by decide +kernel)
theorem ml_X10_94 : Cond.methodLink RX10 94 yX10_isKey ∈ gw := tw (i := 509) (by decide +kernel) (by decide +kernel)
theorem ml_X10_98 : Cond.methodLink RX10 98 yX10_isClient ∈ gw := tw (i := 514) (by decide +kernel) (by decide +kernel)
theorem fl_X10_101 : FLK RX10 101 9 3 := ⟨by decide, by decide +kernel, tw (i := 174) (by decide +kernel) (by decide +kernel)⟩
theorem fl_X10_105 : FLK RX10 105 8 4 := ⟨by decide, by decide +kernel, tw (i := 65) (by decide +kernel) (by decide +kernel)⟩
theorem ml_X10_110 : Cond.methodLink RX10 110 yX1_staleSpans ∈ gw := tw (i := 515) (by decide +kernel) (by decide +kernel)
theorem fl_X10_113 : FLK RX10 113 3 1 := ⟨by decide, by decide +kernel, tw (i := 215) (by decide +kernel) (by decide +kernel)⟩
theorem fl_X10_117 : FLK RX10 117 3 2 := ⟨by decide, by decide +kernel, tw (i := 217) (by decide +kernel) (by decide +kernel)⟩
theorem fl_X10_120 : FLK RX10 120 3 3 := ⟨by decide, by decide +kernel, tw (i := 219) (by decide +kernel) (by decide +kernel)⟩
theorem fl_X10_123 : FLK RX10 123 3 4 := ⟨by decide, by decide +kernel, tw (i := 221) (by decide +kernel) (by decide +kernel)⟩
theorem ml_X10_126 : Cond.methodLink RX10 126 yX0_save ∈ gw := tw (i := 523) (by decide +kernel) (by decide +kernel)
theorem ml_X10_130 : Cond.methodLink RX10 130 yX2_cutAt ∈ gw := tw (i := 539) (by decide +kernel) (by decide +kernel)
theorem ml_X10_133 : Cond.methodLink RX10 133 yX10_kept ∈ gw := tw (i := 569) (by decide +kernel) (by decide +kernel)
theorem ml_X10_136 : Cond.methodLink RX10 136 yX2_cutInMiddle ∈ gw := tw (i := 584) (by decide +kernel) (by decide +kernel)
theorem ml_X10_139 : Cond.methodLink RX10 139 yX2_joinWithNext ∈ gw := tw (i := 607) (by decide +kernel) (by decide +kernel)
theorem ml_X10_142 : Cond.methodLink RX10 142 yX5_begin ∈ gw := tw (i := 619) (by decide +kernel) (by decide +kernel)
theorem ml_X10_145 : Cond.methodLink RX10 145 yX5_takeSteps ∈ gw := tw (i := 643) (by decide +kernel) (by decide +kernel)
theorem ml_X10_148 : Cond.methodLink RX10 148 yX5_tellToFail ∈ gw := tw (i := 711) (by decide +kernel) (by decide +kernel)
theorem ml_X10_152 : Cond.methodLink RX10 152 yX5_takeDown ∈ gw := tw (i := 720) (by decide +kernel) (by decide +kernel)
theorem ml_X10_155 : Cond.methodLink RX10 155 yX9_bringUp ∈ gw := tw (i := 728) (by decide +kernel) (by decide +kernel)
theorem ml_X10_158 : Cond.methodLink RX10 158 yX5_mend ∈ gw := tw (i := 737) (by decide +kernel) (by decide +kernel)
theorem ml_X10_161 : Cond.methodLink RX10 161 yX5_giveUp ∈ gw := tw (i := 755) (by decide +kernel) (by decide +kernel)
theorem ml_X10_164 : Cond.methodLink RX10 164 yX0_keep ∈ gw := tw (i := 573) (by decide +kernel) (by decide +kernel)
theorem ml_X10_167 : Cond.methodLink RX10 167 yX9_halveWeights ∈ gw := tw (i := 763) (by decide +kernel) (by decide +kernel)
theorem ml_X10_171 : Cond.methodLink RX10 171 yX9_tellChunk ∈ gw := tw (i := 771) (by decide +kernel) (by decide +kernel)
theorem fl_X10_174 : FLK RX10 174 7 3 := ⟨by decide, by decide +kernel, tw (i := 351) (by decide +kernel) (by decide +kernel)⟩
theorem ml_X10_177 : Cond.methodLink RX10 177 yX7_addFour ∈ gw := tw (i := 779) (by decide +kernel) (by decide +kernel)
theorem ml_X10_181 : Cond.methodLink RX10 181 yX7_parse ∈ gw := tw (i := 791) (by decide +kernel) (by decide +kernel)
theorem fl_X10_184 : FLK RX10 184 7 5 := ⟨by decide, by decide +kernel, tw (i := 355) (by decide +kernel) (by decide +kernel)⟩
theorem fl_X10_187 : FLK RX10 187 7 4 := ⟨by decide, by decide +kernel, tw (i := 353) (by decide +kernel) (by decide +kernel)⟩
theorem fl_X10_190 : FLK RX10 190 7 2 := ⟨by decide, by decide +kernel, tw (i := 349) (by decide +kernel) (by decide +kernel)⟩
theorem ml_X10_193 : Cond.methodLink RX10 193 yX7_numberOf ∈ gw := tw (i := 873) (by decide +kernel) (by decide +kernel)
theorem ml_X10_196 : Cond.methodLink RX10 196 yX10_runClause ∈ gw := tw (i := 877) (by decide +kernel) (by decide +kernel)
theorem fl_X10_200 : FLK RX10 200 7 6 := ⟨by decide, by decide +kernel, tw (i := 357) (by decide +kernel) (by decide +kernel)⟩
theorem ml_X10_203 : Cond.methodLink RX10 203 yX0_takeBack ∈ gw := tw (i := 890) (by decide +kernel) (by decide +kernel)
theorem fl_X10_207 : FLK RX10 207 0 2 := ⟨by decide, by decide +kernel, tw (i := 332) (by decide +kernel) (by decide +kernel)⟩
theorem ml_X10_210 : Cond.methodLink RX10 210 yX10_takeImage ∈ gw := tw (i := 898) (by decide +kernel) (by decide +kernel)
theorem ml_X10_213 : Cond.methodLink RX10 213 yX9_copyFrom ∈ gw := tw (i := 902) (by decide +kernel) (by decide +kernel)
theorem fl_X10_216 : FLK RX10 216 9 2 := ⟨by decide, by decide +kernel, tw (i := 171) (by decide +kernel) (by decide +kernel)⟩
theorem ml_X10_220 : Cond.methodLink RX10 220 yX3_copyFrom ∈ gw := tw (i := 903) (by decide +kernel) (by decide +kernel)
theorem fl_X10_223 : FLK RX10 223 8 3 := ⟨by decide, by decide +kernel, tw (i := 60) (by decide +kernel) (by decide +kernel)⟩
theorem ml_X10_226 : Cond.methodLink RX10 226 yX8_has ∈ gw := tw (i := 913) (by decide +kernel) (by decide +kernel)
theorem fl_X10_229 : FLK RX10 229 8 0 := ⟨by decide, by decide +kernel, tw (i := 44) (by decide +kernel) (by decide +kernel)⟩
theorem ml_X10_232 : Cond.methodLink RX10 232 yX8_endOf ∈ gw := tw (i := 917) (by decide +kernel) (by decide +kernel)
theorem fl_X10_235 : FLK RX10 235 8 1 := ⟨by decide, by decide +kernel, tw (i := 51) (by decide +kernel) (by decide +kernel)⟩
theorem fl_X10_238 : FLK RX10 238 8 2 := ⟨by decide, by decide +kernel, tw (i := 54) (by decide +kernel) (by decide +kernel)⟩
theorem ml_X10_241 : Cond.methodLink RX10 241 yX9_moveAt ∈ gw := tw (i := 918) (by decide +kernel) (by decide +kernel)
theorem ml_X10_244 : Cond.methodLink RX10 244 yX9_isFrozen ∈ gw := tw (i := 919) (by decide +kernel) (by decide +kernel)
theorem ml_X10_247 : Cond.methodLink RX10 247 yX9_valuesIn ∈ gw := tw (i := 924) (by decide +kernel) (by decide +kernel)
theorem co_X10_250 : Cond.constantLong RX10 250 (-1) ∈ gw := tw (i := 932) (by decide +kernel) (by decide +kernel)
theorem ml_X10_252 : Cond.methodLink RX10 252 yX6_take ∈ gw := tw (i := 933) (by decide +kernel) (by decide +kernel)
theorem ml_X10_255 : Cond.methodLink RX10 255 yX6_weightOf ∈ gw := tw (i := 934) (by decide +kernel) (by decide +kernel)
theorem ml_X10_258 : Cond.methodLink RX10 258 yX6_middleIn ∈ gw := tw (i := 939) (by decide +kernel) (by decide +kernel)
theorem ml_X10_261 : Cond.methodLink RX10 261 yX8_indexOf ∈ gw := tw (i := 944) (by decide +kernel) (by decide +kernel)
theorem ml_X10_264 : Cond.methodLink RX10 264 yX10_isServer ∈ gw := tw (i := 949) (by decide +kernel) (by decide +kernel)
theorem ml_X10_267 : Cond.methodLink RX10 267 yX9_isUp ∈ gw := tw (i := 950) (by decide +kernel) (by decide +kernel)
theorem ml_X10_270 : Cond.methodLink RX10 270 yX8_ownedBy ∈ gw := tw (i := 951) (by decide +kernel) (by decide +kernel)
theorem ml_X10_273 : Cond.methodLink RX10 273 yX9_movesFrom ∈ gw := tw (i := 955) (by decide +kernel) (by decide +kernel)
theorem ml_X10_276 : Cond.methodLink RX10 276 yX9_movesTo ∈ gw := tw (i := 959) (by decide +kernel) (by decide +kernel)
theorem fl_X10_279 : FLK RX10 279 6 4 := ⟨by decide, by decide +kernel, tw (i := 248) (by decide +kernel) (by decide +kernel)⟩
theorem ml_X10_282 : Cond.methodLink RX10 282 yX9_valueOf ∈ gw := tw (i := 971) (by decide +kernel) (by decide +kernel)
theorem ml_X10_285 : Cond.methodLink RX10 285 yX9_hasMove ∈ gw := tw (i := 976) (by decide +kernel) (by decide +kernel)
theorem fl_X10_288 : FLK RX10 288 9 4 := ⟨by decide, by decide +kernel, tw (i := 178) (by decide +kernel) (by decide +kernel)⟩
theorem fl_X10_292 : FLK RX10 292 4 2 := ⟨by decide, by decide +kernel, tw (i := 100) (by decide +kernel) (by decide +kernel)⟩
theorem fl_X10_297 : FLK RX10 297 4 3 := ⟨by decide, by decide +kernel, tw (i := 104) (by decide +kernel) (by decide +kernel)⟩
theorem fl_X10_300 : FLK RX10 300 4 4 := ⟨by decide, by decide +kernel, tw (i := 107) (by decide +kernel) (by decide +kernel)⟩
theorem fl_X10_303 : FLK RX10 303 4 5 := ⟨by decide, by decide +kernel, tw (i := 111) (by decide +kernel) (by decide +kernel)⟩
theorem fl_X10_306 : FLK RX10 306 4 6 := ⟨by decide, by decide +kernel, tw (i := 115) (by decide +kernel) (by decide +kernel)⟩
theorem fl_X10_309 : FLK RX10 309 4 7 := ⟨by decide, by decide +kernel, tw (i := 118) (by decide +kernel) (by decide +kernel)⟩
theorem fl_X10_312 : FLK RX10 312 4 1 := ⟨by decide, by decide +kernel, tw (i := 96) (by decide +kernel) (by decide +kernel)⟩
theorem fl_X10_315 : FLK RX10 315 4 8 := ⟨by decide, by decide +kernel, tw (i := 122) (by decide +kernel) (by decide +kernel)⟩
theorem fl_X10_319 : FLK RX10 319 4 9 := ⟨by decide, by decide +kernel, tw (i := 124) (by decide +kernel) (by decide +kernel)⟩
theorem fl_X10_322 : FLK RX10 322 4 10 := ⟨by decide, by decide +kernel, tw (i := 127) (by decide +kernel) (by decide +kernel)⟩
theorem fl_X10_325 : FLK RX10 325 4 11 := ⟨by decide, by decide +kernel, tw (i := 130) (by decide +kernel) (by decide +kernel)⟩
theorem fl_X10_328 : FLK RX10 328 4 12 := ⟨by decide, by decide +kernel, tw (i := 134) (by decide +kernel) (by decide +kernel)⟩
theorem fl_X10_329 : FLK RX10 329 4 0 := ⟨by decide, by decide +kernel, tw (i := 93) (by decide +kernel) (by decide +kernel)⟩
theorem ml_X10_332 : Cond.methodLink RX10 332 yX9_ownerAt ∈ gw := tw (i := 985) (by decide +kernel) (by decide +kernel)
theorem ml_X10_335 : Cond.methodLink RX10 335 yX9_passedOn ∈ gw := tw (i := 997) (by decide +kernel) (by decide +kernel)
theorem ml_X10_338 : Cond.methodLink RX10 338 yX3_kindOf ∈ gw := tw (i := 1005) (by decide +kernel) (by decide +kernel)
theorem ml_X10_341 : Cond.methodLink RX10 341 yX3_lowOfChange ∈ gw := tw (i := 1009) (by decide +kernel) (by decide +kernel)
theorem ml_X10_344 : Cond.methodLink RX10 344 yX3_ownerOfChange ∈ gw := tw (i := 1013) (by decide +kernel) (by decide +kernel)
theorem fl_X10_347 : FLK RX10 347 3 0 := ⟨by decide, by decide +kernel, tw (i := 213) (by decide +kernel) (by decide +kernel)⟩
theorem fl_X10_350 : FLK RX10 350 9 6 := ⟨by decide, by decide +kernel, tw (i := 185) (by decide +kernel) (by decide +kernel)⟩
theorem fl_X10_353 : FLK RX10 353 9 5 := ⟨by decide, by decide +kernel, tw (i := 181) (by decide +kernel) (by decide +kernel)⟩
theorem ml_X10_356 : Cond.methodLink RX10 356 yX9_movesGoingOn ∈ gw := tw (i := 1025) (by decide +kernel) (by decide +kernel)
theorem ml_X10_360 : Cond.methodLink RX10 360 yX9_movesBroken ∈ gw := tw (i := 1026) (by decide +kernel) (by decide +kernel)
theorem fl_X10_363 : FLK RX10 363 9 7 := ⟨by decide, by decide +kernel, tw (i := 188) (by decide +kernel) (by decide +kernel)⟩
theorem ml_X10_366 : Cond.methodLink RX10 366 yX9_valuesAtOwners ∈ gw := tw (i := 1030) (by decide +kernel) (by decide +kernel)
theorem ml_X10_369 : Cond.methodLink RX10 369 yX9_spansFrozen ∈ gw := tw (i := 1036) (by decide +kernel) (by decide +kernel)
theorem ml_X10_372 : Cond.methodLink RX10 372 yX9_isSound ∈ gw := tw (i := 1045) (by decide +kernel) (by decide +kernel)
theorem ml_X10_376 : Cond.methodLink RX10 376 yX9_weightByRank ∈ gw := tw (i := 1057) (by decide +kernel) (by decide +kernel)
theorem ml_X10_379 : Cond.methodLink RX10 379 yX9_keysAbove ∈ gw := tw (i := 1072) (by decide +kernel) (by decide +kernel)
theorem ml_X10_382 : Cond.methodLink RX10 382 yX9_keyOfWeight ∈ gw := tw (i := 1073) (by decide +kernel) (by decide +kernel)
theorem co_X10_385 : Cond.constant RX10 385 (nI 1000000) ∈ gw := tw (i := 1081) (by decide +kernel) (by decide +kernel)
theorem ml_X10_386 : Cond.methodLink RX10 386 yX9_cutsWithin ∈ gw := tw (i := 1082) (by decide +kernel) (by decide +kernel)
theorem ml_X10_389 : Cond.methodLink RX10 389 yX6_gap ∈ gw := tw (i := 1090) (by decide +kernel) (by decide +kernel)
theorem ml_X10_392 : Cond.methodLink RX10 392 yX6_decide ∈ gw := tw (i := 1110) (by decide +kernel) (by decide +kernel)
theorem fl_X10_395 : FLK RX10 395 6 7 := ⟨by decide, by decide +kernel, tw (i := 252) (by decide +kernel) (by decide +kernel)⟩
theorem fl_X10_398 : FLK RX10 398 6 1 := ⟨by decide, by decide +kernel, tw (i := 244) (by decide +kernel) (by decide +kernel)⟩
theorem fl_X10_399 : FLK RX10 399 6 8 := ⟨by decide, by decide +kernel, tw (i := 254) (by decide +kernel) (by decide +kernel)⟩
theorem fl_X10_402 : FLK RX10 402 6 9 := ⟨by decide, by decide +kernel, tw (i := 256) (by decide +kernel) (by decide +kernel)⟩
theorem ml_X10_405 : Cond.methodLink RX10 405 yX6_carryOut ∈ gw := tw (i := 1131) (by decide +kernel) (by decide +kernel)
theorem ml_X10_408 : Cond.methodLink RX10 408 yX6_lightest ∈ gw := tw (i := 1147) (by decide +kernel) (by decide +kernel)
theorem ml_X10_411 : Cond.methodLink RX10 411 yX6_heaviestFree ∈ gw := tw (i := 1148) (by decide +kernel) (by decide +kernel)
theorem ml_X10_414 : Cond.methodLink RX10 414 yX6_handTo ∈ gw := tw (i := 1152) (by decide +kernel) (by decide +kernel)
theorem ml_X10_418 : Cond.methodLink RX10 418 yX9_canStep ∈ gw := tw (i := 1157) (by decide +kernel) (by decide +kernel)
theorem ml_X10_421 : Cond.methodLink RX10 421 yX5_stepsLeft ∈ gw := tw (i := 1158) (by decide +kernel) (by decide +kernel)
theorem ml_X11_1 : Cond.methodLink RX11 1 objectInit ∈ gw := tw (i := 1169) (by decide +kernel) (by decide +kernel)
theorem fl_X11_7 : FLK RX11 7 11 0 := ⟨by decide, by decide +kernel, tw (i := 1171) (by decide +kernel) (by decide +kernel)⟩
theorem fl_X11_13 : FLK RX11 13 11 1 := ⟨by decide, by decide +kernel, tw (i := 1172) (by decide +kernel) (by decide +kernel)⟩
theorem fl_X11_16 : FLK RX11 16 11 2 := ⟨by decide, by decide +kernel, tw (i := 1173) (by decide +kernel) (by decide +kernel)⟩
theorem co_X11_19 : Cond.constant RX11 19 (nI 51348) ∈ gw := tw (i := 1170) (by decide +kernel) (by decide +kernel)
theorem fl_X11_20 : FLK RX11 20 11 3 := ⟨by decide, by decide +kernel, tw (i := 1174) (by decide +kernel) (by decide +kernel)⟩
theorem fl_X11_23 : FLK RX11 23 11 6 := ⟨by decide, by decide +kernel, tw (i := 1177) (by decide +kernel) (by decide +kernel)⟩
theorem fl_X11_26 : FLK RX11 26 11 7 := ⟨by decide, by decide +kernel, tw (i := 1178) (by decide +kernel) (by decide +kernel)⟩
theorem fl_X11_29 : FLK RX11 29 11 9 := ⟨by decide, by decide +kernel, tw (i := 1180) (by decide +kernel) (by decide +kernel)⟩
theorem fl_X11_33 : FLK RX11 33 11 13 := ⟨by decide, by decide +kernel, tw (i := 1184) (by decide +kernel) (by decide +kernel)⟩
theorem fl_X11_37 : FLK RX11 37 11 14 := ⟨by decide, by decide +kernel, tw (i := 1185) (by decide +kernel) (by decide +kernel)⟩
theorem fl_X11_40 : FLK RX11 40 11 16 := ⟨by decide, by decide +kernel, tw (i := 1187) (by decide +kernel) (by decide +kernel)⟩
theorem co_X11_43 : Cond.constantLong RX11 43 (lN 999) ∈ gw := tw (i := 1258) (by decide +kernel) (by decide +kernel)
theorem ml_X11_45 : Cond.methodLink RX11 45 yX11_isIn ∈ gw := tw (i := 1243) (by decide +kernel) (by decide +kernel)
theorem co_X11_49 : Cond.constantLong RX11 49 (lN 5) ∈ gw := tw (i := 1330) (by decide +kernel) (by decide +kernel)
theorem fl_X11_51 : FLK RX11 51 11 4 := ⟨by decide, by decide +kernel, tw (i := 1175) (by decide +kernel) (by decide +kernel)⟩
theorem ml_X11_54 : Cond.methodLink RX11 54 yX11_isKey ∈ gw := tw (i := 1255) (by decide +kernel) (by decide +kernel)
theorem ml_X11_58 : Cond.methodLink RX11 58 yX11_spanWith ∈ gw := tw (i := 1259) (by decide +kernel) (by decide +kernel)
theorem ml_X11_62 : Cond.methodLink RX11 62 yX11_moveAt ∈ gw := tw (i := 1279) (by decide +kernel) (by decide +kernel)
theorem co_X11_65 : Cond.constantLong RX11 65 (lN 4) ∈ gw := tw (i := 1282) (by decide +kernel) (by decide +kernel)
theorem ml_X11_67 : Cond.methodLink RX11 67 yX11_isGoing ∈ gw := tw (i := 1275) (by decide +kernel) (by decide +kernel)
theorem ml_X11_70 : Cond.methodLink RX11 70 yX11_endOf ∈ gw := tw (i := 1283) (by decide +kernel) (by decide +kernel)
theorem ml_X11_73 : Cond.methodLink RX11 73 yX11_weightOf ∈ gw := tw (i := 1315) (by decide +kernel) (by decide +kernel)
theorem co_X11_77 : Cond.constantLong RX11 77 (lN 2) ∈ gw := tw (i := 1246) (by decide +kernel) (by decide +kernel)
theorem ml_X11_79 : Cond.methodLink RX11 79 yX11_moveOfSpan ∈ gw := tw (i := 1271) (by decide +kernel) (by decide +kernel)
theorem ml_X11_82 : Cond.methodLink RX11 82 yX11_canSplit ∈ gw := tw (i := 1267) (by decide +kernel) (by decide +kernel)
theorem ml_X11_86 : Cond.methodLink RX11 86 yX11_acts ∈ gw := tw (i := 1287) (by decide +kernel) (by decide +kernel)
theorem ml_X11_89 : Cond.methodLink RX11 89 yX11_splits ∈ gw := tw (i := 1295) (by decide +kernel) (by decide +kernel)
theorem ml_X11_93 : Cond.methodLink RX11 93 yX11_notes ∈ gw := tw (i := 1299) (by decide +kernel) (by decide +kernel)
theorem ml_X11_97 : Cond.methodLink RX11 97 yX11_counts ∈ gw := tw (i := 1303) (by decide +kernel) (by decide +kernel)
theorem ml_X11_100 : Cond.methodLink RX11 100 yX11_named ∈ gw := tw (i := 1251) (by decide +kernel) (by decide +kernel)
theorem ml_X11_103 : Cond.methodLink RX11 103 yX11_splitAt ∈ gw := tw (i := 1263) (by decide +kernel) (by decide +kernel)
theorem ml_X11_107 : Cond.methodLink RX11 107 yX11_middleIn ∈ gw := tw (i := 1311) (by decide +kernel) (by decide +kernel)
theorem fl_X11_110 : FLK RX11 110 11 8 := ⟨by decide, by decide +kernel, tw (i := 1179) (by decide +kernel) (by decide +kernel)⟩
theorem ml_X11_114 : Cond.methodLink RX11 114 yX11_remembers ∈ gw := tw (i := 1291) (by decide +kernel) (by decide +kernel)
theorem ml_X11_118 : Cond.methodLink RX11 118 yX11_clientAt ∈ gw := tw (i := 1339) (by decide +kernel) (by decide +kernel)
theorem ml_X11_121 : Cond.methodLink RX11 121 yX11_isClient ∈ gw := tw (i := 1327) (by decide +kernel) (by decide +kernel)
theorem ml_X11_124 : Cond.methodLink RX11 124 yX11_forgets ∈ gw := tw (i := 1331) (by decide +kernel) (by decide +kernel)
theorem ml_X11_127 : Cond.methodLink RX11 127 yX11_fetches ∈ gw := tw (i := 1335) (by decide +kernel) (by decide +kernel)
theorem ml_X11_130 : Cond.methodLink RX11 130 yX11_isCatching ∈ gw := tw (i := 1358) (by decide +kernel) (by decide +kernel)
theorem ml_X11_133 : Cond.methodLink RX11 133 yX11_isInTrail ∈ gw := tw (i := 1362) (by decide +kernel) (by decide +kernel)
theorem ml_X11_136 : Cond.methodLink RX11 136 yX11_storeAt ∈ gw := tw (i := 1370) (by decide +kernel) (by decide +kernel)
theorem ml_X11_140 : Cond.methodLink RX11 140 yX11_answerBy ∈ gw := tw (i := 1350) (by decide +kernel) (by decide +kernel)
theorem ml_X11_143 : Cond.methodLink RX11 143 yX11_isFrozen ∈ gw := tw (i := 1354) (by decide +kernel) (by decide +kernel)
theorem ml_X11_146 : Cond.methodLink RX11 146 yX11_isWritten ∈ gw := tw (i := 1366) (by decide +kernel) (by decide +kernel)
theorem ml_X11_149 : Cond.methodLink RX11 149 yX11_asks ∈ gw := tw (i := 1346) (by decide +kernel) (by decide +kernel)
theorem co_X11_152 : Cond.constantLong RX11 152 (lN 99999) ∈ gw := tw (i := 1380) (by decide +kernel) (by decide +kernel)
theorem ml_X11_154 : Cond.methodLink RX11 154 yX11_canWrite ∈ gw := tw (i := 1377) (by decide +kernel) (by decide +kernel)
theorem ml_X11_158 : Cond.methodLink RX11 158 yX11_fetch ∈ gw := tw (i := 1385) (by decide +kernel) (by decide +kernel)
theorem ml_X11_161 : Cond.methodLink RX11 161 yX11_isServer ∈ gw := tw (i := 1390) (by decide +kernel) (by decide +kernel)
theorem ml_X11_164 : Cond.methodLink RX11 164 yX11_going ∈ gw := tw (i := 1393) (by decide +kernel) (by decide +kernel)
theorem ml_X11_168 : Cond.methodLink RX11 168 yX11_goesOver ∈ gw := tw (i := 1422) (by decide +kernel) (by decide +kernel)
theorem ml_X11_172 : Cond.methodLink RX11 172 yX11_goesOn ∈ gw := tw (i := 1430) (by decide +kernel) (by decide +kernel)
theorem ml_X11_176 : Cond.methodLink RX11 176 yX11_catchesUp ∈ gw := tw (i := 1418) (by decide +kernel) (by decide +kernel)
theorem ml_X11_179 : Cond.methodLink RX11 179 yX11_switches ∈ gw := tw (i := 1434) (by decide +kernel) (by decide +kernel)
theorem ml_X11_183 : Cond.methodLink RX11 183 yX11_fails ∈ gw := tw (i := 1414) (by decide +kernel) (by decide +kernel)
theorem ml_X11_186 : Cond.methodLink RX11 186 yX11_steps ∈ gw := tw (i := 1426) (by decide +kernel) (by decide +kernel)
theorem ml_X11_189 : Cond.methodLink RX11 189 yX11_isMove ∈ gw := tw (i := 1406) (by decide +kernel) (by decide +kernel)
theorem co_X11_192 : Cond.constantLong RX11 192 (lN 100) ∈ gw := tw (i := 1401) (by decide +kernel) (by decide +kernel)
theorem ml_X11_194 : Cond.methodLink RX11 194 yX11_canStep ∈ gw := tw (i := 1402) (by decide +kernel) (by decide +kernel)
theorem ml_X11_197 : Cond.methodLink RX11 197 yX11_stepsOnce ∈ gw := tw (i := 1410) (by decide +kernel) (by decide +kernel)
theorem co_X11_200 : Cond.constantLong RX11 200 (lN 99) ∈ gw := tw (i := 1442) (by decide +kernel) (by decide +kernel)
theorem ml_X11_202 : Cond.methodLink RX11 202 yX11_loses ∈ gw := tw (i := 1463) (by decide +kernel) (by decide +kernel)
theorem ml_X11_205 : Cond.methodLink RX11 205 yX11_areUp ∈ gw := tw (i := 1455) (by decide +kernel) (by decide +kernel)
theorem ml_X11_208 : Cond.methodLink RX11 208 yX11_ends ∈ gw := tw (i := 1459) (by decide +kernel) (by decide +kernel)
theorem ml_X11_211 : Cond.methodLink RX11 211 yX11_allWeight ∈ gw := tw (i := 1475) (by decide +kernel) (by decide +kernel)
theorem co_X11_215 : Cond.constantLong RX11 215 (lN 16) ∈ gw := tw (i := 1483) (by decide +kernel) (by decide +kernel)
theorem fl_X11_217 : FLK RX11 217 11 10 := ⟨by decide, by decide +kernel, tw (i := 1181) (by decide +kernel) (by decide +kernel)⟩
theorem ml_X11_220 : Cond.methodLink RX11 220 yX11_comes ∈ gw := tw (i := 1488) (by decide +kernel) (by decide +kernel)
theorem fl_X11_223 : FLK RX11 223 11 15 := ⟨by decide, by decide +kernel, tw (i := 1186) (by decide +kernel) (by decide +kernel)⟩
theorem fl_X11_226 : FLK RX11 226 11 12 := ⟨by decide, by decide +kernel, tw (i := 1183) (by decide +kernel) (by decide +kernel)⟩
theorem fl_X11_229 : FLK RX11 229 11 11 := ⟨by decide, by decide +kernel, tw (i := 1182) (by decide +kernel) (by decide +kernel)⟩
theorem co_X11_232 : Cond.constantLong RX11 232 (lN 97) ∈ gw := tw (i := 1520) (by decide +kernel) (by decide +kernel)
theorem co_X11_234 : Cond.constantLong RX11 234 (lN 122) ∈ gw := tw (i := 1521) (by decide +kernel) (by decide +kernel)
theorem ml_X11_236 : Cond.methodLink RX11 236 yX11_wordEnd ∈ gw := tw (i := 1516) (by decide +kernel) (by decide +kernel)
theorem ml_X11_239 : Cond.methodLink RX11 239 yX11_spells ∈ gw := tw (i := 1512) (by decide +kernel) (by decide +kernel)
theorem ml_X11_243 : Cond.methodLink RX11 243 yX11_blanks ∈ gw := tw (i := 1500) (by decide +kernel) (by decide +kernel)
theorem co_X11_246 : Cond.constantLong RX11 246 (lN 48) ∈ gw := tw (i := 1533) (by decide +kernel) (by decide +kernel)
theorem co_X11_248 : Cond.constantLong RX11 248 (lN 57) ∈ gw := tw (i := 1534) (by decide +kernel) (by decide +kernel)
theorem co_X11_250 : Cond.constant RX11 250 (nI 99999) ∈ gw := tw (i := 1535) (by decide +kernel) (by decide +kernel)
theorem ml_X11_251 : Cond.methodLink RX11 251 yX11_wrong ∈ gw := tw (i := 1522) (by decide +kernel) (by decide +kernel)
theorem ml_X11_254 : Cond.methodLink RX11 254 yX11_word ∈ gw := tw (i := 1508) (by decide +kernel) (by decide +kernel)
theorem fl_X11_257 : FLK RX11 257 11 17 := ⟨by decide, by decide +kernel, tw (i := 1188) (by decide +kernel) (by decide +kernel)⟩
theorem ml_X11_260 : Cond.methodLink RX11 260 yX11_numbersOf ∈ gw := tw (i := 1526) (by decide +kernel) (by decide +kernel)
theorem ml_X11_263 : Cond.methodLink RX11 263 yX11_number ∈ gw := tw (i := 1529) (by decide +kernel) (by decide +kernel)
theorem ml_X11_266 : Cond.methodLink RX11 266 yX11_read ∈ gw := tw (i := 1544) (by decide +kernel) (by decide +kernel)
theorem ml_X11_269 : Cond.methodLink RX11 269 yX11_write ∈ gw := tw (i := 1545) (by decide +kernel) (by decide +kernel)
theorem ml_X11_272 : Cond.methodLink RX11 272 yX11_split ∈ gw := tw (i := 1546) (by decide +kernel) (by decide +kernel)
theorem ml_X11_275 : Cond.methodLink RX11 275 yX11_middle ∈ gw := tw (i := 1547) (by decide +kernel) (by decide +kernel)
theorem ml_X11_278 : Cond.methodLink RX11 278 yX11_join ∈ gw := tw (i := 1548) (by decide +kernel) (by decide +kernel)
theorem ml_X11_281 : Cond.methodLink RX11 281 yX11_move ∈ gw := tw (i := 1549) (by decide +kernel) (by decide +kernel)
theorem ml_X11_284 : Cond.methodLink RX11 284 yX11_step ∈ gw := tw (i := 1550) (by decide +kernel) (by decide +kernel)
theorem ml_X11_287 : Cond.methodLink RX11 287 yX11_fail ∈ gw := tw (i := 1551) (by decide +kernel) (by decide +kernel)
theorem ml_X11_290 : Cond.methodLink RX11 290 yX11_down ∈ gw := tw (i := 1552) (by decide +kernel) (by decide +kernel)
theorem ml_X11_293 : Cond.methodLink RX11 293 yX11_up ∈ gw := tw (i := 1553) (by decide +kernel) (by decide +kernel)
theorem ml_X11_296 : Cond.methodLink RX11 296 yX11_recover ∈ gw := tw (i := 1554) (by decide +kernel) (by decide +kernel)
theorem ml_X11_299 : Cond.methodLink RX11 299 yX11_give ∈ gw := tw (i := 1555) (by decide +kernel) (by decide +kernel)
theorem ml_X11_302 : Cond.methodLink RX11 302 yX11_age ∈ gw := tw (i := 1556) (by decide +kernel) (by decide +kernel)
theorem ml_X11_305 : Cond.methodLink RX11 305 yX11_chunk ∈ gw := tw (i := 1557) (by decide +kernel) (by decide +kernel)
theorem ml_X11_308 : Cond.methodLink RX11 308 yX11_reads ∈ gw := tw (i := 1504) (by decide +kernel) (by decide +kernel)
theorem ml_X11_311 : Cond.methodLink RX11 311 yX11_laysAside ∈ gw := tw (i := 1536) (by decide +kernel) (by decide +kernel)
theorem ml_X11_314 : Cond.methodLink RX11 314 yX11_isDone ∈ gw := tw (i := 1540) (by decide +kernel) (by decide +kernel)
theorem ml_X11_317 : Cond.methodLink RX11 317 yX11_isSpan ∈ gw := tw (i := 1566) (by decide +kernel) (by decide +kernel)
theorem ml_X11_320 : Cond.methodLink RX11 320 yX11_isFrozenSpan ∈ gw := tw (i := 1570) (by decide +kernel) (by decide +kernel)
theorem ml_X11_323 : Cond.methodLink RX11 323 yX11_valuesIn ∈ gw := tw (i := 1574) (by decide +kernel) (by decide +kernel)
theorem co_X11_326 : Cond.constantLong RX11 326 (-1) ∈ gw := tw (i := 1582) (by decide +kernel) (by decide +kernel)
theorem ml_X11_328 : Cond.methodLink RX11 328 yX11_spansOf ∈ gw := tw (i := 1595) (by decide +kernel) (by decide +kernel)
theorem ml_X11_331 : Cond.methodLink RX11 331 yX11_valuesOf ∈ gw := tw (i := 1599) (by decide +kernel) (by decide +kernel)
theorem ml_X11_334 : Cond.methodLink RX11 334 yX11_movesBy ∈ gw := tw (i := 1603) (by decide +kernel) (by decide +kernel)
theorem ml_X11_337 : Cond.methodLink RX11 337 yX11_loadOf ∈ gw := tw (i := 1611) (by decide +kernel) (by decide +kernel)
theorem ml_X11_340 : Cond.methodLink RX11 340 yX11_staleOf ∈ gw := tw (i := 1623) (by decide +kernel) (by decide +kernel)
theorem co_X11_343 : Cond.constantLong RX11 343 (lN 11) ∈ gw := tw (i := 1631) (by decide +kernel) (by decide +kernel)
theorem ml_X11_345 : Cond.methodLink RX11 345 yX11_switchBehind ∈ gw := tw (i := 1640) (by decide +kernel) (by decide +kernel)
theorem ml_X11_348 : Cond.methodLink RX11 348 yX11_mayHave ∈ gw := tw (i := 1652) (by decide +kernel) (by decide +kernel)
theorem ml_X11_351 : Cond.methodLink RX11 351 yX11_owners ∈ gw := tw (i := 1660) (by decide +kernel) (by decide +kernel)
theorem ml_X11_354 : Cond.methodLink RX11 354 yX11_outer ∈ gw := tw (i := 1672) (by decide +kernel) (by decide +kernel)
theorem ml_X11_358 : Cond.methodLink RX11 358 yX11_evenOf ∈ gw := tw (i := 1668) (by decide +kernel) (by decide +kernel)
theorem ml_X11_361 : Cond.methodLink RX11 361 yX11_size ∈ gw := tw (i := 1688) (by decide +kernel) (by decide +kernel)
theorem fl_X11_365 : FLK RX11 365 11 18 := ⟨by decide, by decide +kernel, tw (i := 1189) (by decide +kernel) (by decide +kernel)⟩
theorem fl_X11_368 : FLK RX11 368 11 19 := ⟨by decide, by decide +kernel, tw (i := 1190) (by decide +kernel) (by decide +kernel)⟩
theorem fl_X11_371 : FLK RX11 371 11 20 := ⟨by decide, by decide +kernel, tw (i := 1191) (by decide +kernel) (by decide +kernel)⟩
theorem ml_X11_374 : Cond.methodLink RX11 374 yX11_spanToMove ∈ gw := tw (i := 1684) (by decide +kernel) (by decide +kernel)
theorem ml_X11_378 : Cond.methodLink RX11 378 yX11_spanToSplit ∈ gw := tw (i := 1691) (by decide +kernel) (by decide +kernel)
theorem ml_X11_381 : Cond.methodLink RX11 381 yX11_laysNext ∈ gw := tw (i := 1680) (by decide +kernel) (by decide +kernel)
theorem co_X11_384 : Cond.constantLong RX11 384 (lN 1000000) ∈ gw := tw (i := 1699) (by decide +kernel) (by decide +kernel)
theorem ml_X11_386 : Cond.methodLink RX11 386 yX11_comesBack ∈ gw := tw (i := 1700) (by decide +kernel) (by decide +kernel)
theorem ml_X11_389 : Cond.methodLink RX11 389 yX11_heavier ∈ gw := tw (i := 1708) (by decide +kernel) (by decide +kernel)
theorem co_X11_392 : Cond.constantLong RX11 392 (lN 60) ∈ gw := tw (i := 1716) (by decide +kernel) (by decide +kernel)
theorem ml_X11_394 : Cond.methodLink RX11 394 yX11_outerBut ∈ gw := tw (i := 1721) (by decide +kernel) (by decide +kernel)
theorem ml_X11_398 : Cond.methodLink RX11 398 yX11_heaviestOf ∈ gw := tw (i := 1725) (by decide +kernel) (by decide +kernel)
theorem co_X11_401 : Cond.constantLong RX11 401 (lN 14) ∈ gw := tw (i := 1741) (by decide +kernel) (by decide +kernel)
theorem fl_X11_403 : FLK RX11 403 11 5 := ⟨by decide, by decide +kernel, tw (i := 1176) (by decide +kernel) (by decide +kernel)⟩
theorem ml_X11_406 : Cond.methodLink RX11 406 yX11_upOnes ∈ gw := tw (i := 1750) (by decide +kernel) (by decide +kernel)
theorem ml_X11_409 : Cond.methodLink RX11 409 yX11_brokenOnes ∈ gw := tw (i := 1754) (by decide +kernel) (by decide +kernel)
theorem ml_X11_412 : Cond.methodLink RX11 412 yX11_frozenOnes ∈ gw := tw (i := 1758) (by decide +kernel) (by decide +kernel)
theorem cl_L_7 : Cond.classLink RL 7 (cK 10).1 ∈ gw := tw (i := 19) (by decide +kernel) (by decide +kernel)
theorem ml_L_9 : Cond.methodLink RL 9 yX10_init ∈ gw := tw (i := 21) (by decide +kernel) (by decide +kernel)
theorem cl_L_10 : Cond.classLink RL 10 (cK 11).1 ∈ gw := tw (i := 1164) (by decide +kernel) (by decide +kernel)
theorem ml_L_12 : Cond.methodLink RL 12 yX11_init ∈ gw := tw (i := 1166) (by decide +kernel) (by decide +kernel)
theorem ml_L_13 : Cond.methodLink RL 13 yX10_fetch ∈ gw := tw (i := 411) (by decide +kernel) (by decide +kernel)
theorem ml_L_17 : Cond.methodLink RL 17 yX11_fetch ∈ gw := tw (i := 1323) (by decide +kernel) (by decide +kernel)
theorem ml_L_18 : Cond.methodLink RL 18 yX10_read ∈ gw := tw (i := 433) (by decide +kernel) (by decide +kernel)
theorem ml_L_22 : Cond.methodLink RL 22 yX11_read ∈ gw := tw (i := 1342) (by decide +kernel) (by decide +kernel)
theorem ml_L_23 : Cond.methodLink RL 23 yX10_write ∈ gw := tw (i := 484) (by decide +kernel) (by decide +kernel)
theorem ml_L_27 : Cond.methodLink RL 27 yX11_write ∈ gw := tw (i := 1373) (by decide +kernel) (by decide +kernel)
theorem ml_L_28 : Cond.methodLink RL 28 yX10_insist ∈ gw := tw (i := 501) (by decide +kernel) (by decide +kernel)
theorem ml_L_31 : Cond.methodLink RL 31 yX11_insist ∈ gw := tw (i := 1381) (by decide +kernel) (by decide +kernel)
theorem ml_L_32 : Cond.methodLink RL 32 yX10_split ∈ gw := tw (i := 519) (by decide +kernel) (by decide +kernel)
theorem ml_L_35 : Cond.methodLink RL 35 yX11_split ∈ gw := tw (i := 1247) (by decide +kernel) (by decide +kernel)
theorem ml_L_36 : Cond.methodLink RL 36 yX10_middle ∈ gw := tw (i := 580) (by decide +kernel) (by decide +kernel)
theorem ml_L_39 : Cond.methodLink RL 39 yX11_middle ∈ gw := tw (i := 1307) (by decide +kernel) (by decide +kernel)
theorem ml_L_40 : Cond.methodLink RL 40 yX10_join ∈ gw := tw (i := 603) (by decide +kernel) (by decide +kernel)
theorem ml_L_43 : Cond.methodLink RL 43 yX11_join ∈ gw := tw (i := 1319) (by decide +kernel) (by decide +kernel)
theorem ml_L_44 : Cond.methodLink RL 44 yX10_move ∈ gw := tw (i := 615) (by decide +kernel) (by decide +kernel)
theorem ml_L_47 : Cond.methodLink RL 47 yX11_move ∈ gw := tw (i := 1386) (by decide +kernel) (by decide +kernel)
theorem ml_L_48 : Cond.methodLink RL 48 yX10_step ∈ gw := tw (i := 639) (by decide +kernel) (by decide +kernel)
theorem ml_L_51 : Cond.methodLink RL 51 yX11_step ∈ gw := tw (i := 1397) (by decide +kernel) (by decide +kernel)
theorem ml_L_52 : Cond.methodLink RL 52 yX10_fail ∈ gw := tw (i := 707) (by decide +kernel) (by decide +kernel)
theorem ml_L_56 : Cond.methodLink RL 56 yX11_fail ∈ gw := tw (i := 1438) (by decide +kernel) (by decide +kernel)
theorem ml_L_57 : Cond.methodLink RL 57 yX10_down ∈ gw := tw (i := 716) (by decide +kernel) (by decide +kernel)
theorem ml_L_60 : Cond.methodLink RL 60 yX11_down ∈ gw := tw (i := 1443) (by decide +kernel) (by decide +kernel)
theorem ml_L_61 : Cond.methodLink RL 61 yX10_up ∈ gw := tw (i := 724) (by decide +kernel) (by decide +kernel)
theorem ml_L_65 : Cond.methodLink RL 65 yX11_up ∈ gw := tw (i := 1447) (by decide +kernel) (by decide +kernel)
theorem ml_L_66 : Cond.methodLink RL 66 yX10_recover ∈ gw := tw (i := 733) (by decide +kernel) (by decide +kernel)
theorem ml_L_69 : Cond.methodLink RL 69 yX11_recover ∈ gw := tw (i := 1451) (by decide +kernel) (by decide +kernel)
theorem ml_L_70 : Cond.methodLink RL 70 yX10_give ∈ gw := tw (i := 751) (by decide +kernel) (by decide +kernel)
theorem ml_L_73 : Cond.methodLink RL 73 yX11_give ∈ gw := tw (i := 1467) (by decide +kernel) (by decide +kernel)
theorem ml_L_74 : Cond.methodLink RL 74 yX10_age ∈ gw := tw (i := 759) (by decide +kernel) (by decide +kernel)
theorem ml_L_78 : Cond.methodLink RL 78 yX11_age ∈ gw := tw (i := 1471) (by decide +kernel) (by decide +kernel)
theorem ml_L_79 : Cond.methodLink RL 79 yX10_chunk ∈ gw := tw (i := 767) (by decide +kernel) (by decide +kernel)
theorem ml_L_82 : Cond.methodLink RL 82 yX11_chunk ∈ gw := tw (i := 1479) (by decide +kernel) (by decide +kernel)
theorem ml_L_83 : Cond.methodLink RL 83 yX10_feed ∈ gw := tw (i := 775) (by decide +kernel) (by decide +kernel)
theorem ml_L_87 : Cond.methodLink RL 87 yX11_feed ∈ gw := tw (i := 1484) (by decide +kernel) (by decide +kernel)
theorem ml_L_88 : Cond.methodLink RL 88 yX10_end ∈ gw := tw (i := 783) (by decide +kernel) (by decide +kernel)
theorem ml_L_91 : Cond.methodLink RL 91 yX11_end ∈ gw := tw (i := 1492) (by decide +kernel) (by decide +kernel)
theorem ml_L_92 : Cond.methodLink RL 92 yX10_script ∈ gw := tw (i := 787) (by decide +kernel) (by decide +kernel)
theorem ml_L_96 : Cond.methodLink RL 96 yX11_script ∈ gw := tw (i := 1496) (by decide +kernel) (by decide +kernel)
theorem ml_L_97 : Cond.methodLink RL 97 yX10_fault ∈ gw := tw (i := 882) (by decide +kernel) (by decide +kernel)
theorem ml_L_100 : Cond.methodLink RL 100 yX11_fault ∈ gw := tw (i := 1558) (by decide +kernel) (by decide +kernel)
theorem ml_L_101 : Cond.methodLink RL 101 yX10_undo ∈ gw := tw (i := 886) (by decide +kernel) (by decide +kernel)
theorem ml_L_104 : Cond.methodLink RL 104 yX11_undo ∈ gw := tw (i := 1235) (by decide +kernel) (by decide +kernel)
theorem ml_L_105 : Cond.methodLink RL 105 yX10_span ∈ gw := tw (i := 909) (by decide +kernel) (by decide +kernel)
theorem ml_L_108 : Cond.methodLink RL 108 yX11_span ∈ gw := tw (i := 1562) (by decide +kernel) (by decide +kernel)
theorem ml_L_109 : Cond.methodLink RL 109 yX10_weight ∈ gw := tw (i := 928) (by decide +kernel) (by decide +kernel)
theorem ml_L_113 : Cond.methodLink RL 113 yX11_weight ∈ gw := tw (i := 1578) (by decide +kernel) (by decide +kernel)
theorem ml_L_114 : Cond.methodLink RL 114 yX10_middleOf ∈ gw := tw (i := 935) (by decide +kernel) (by decide +kernel)
theorem ml_L_117 : Cond.methodLink RL 117 yX11_middleOf ∈ gw := tw (i := 1583) (by decide +kernel) (by decide +kernel)
theorem ml_L_118 : Cond.methodLink RL 118 yX10_lowOf ∈ gw := tw (i := 940) (by decide +kernel) (by decide +kernel)
theorem ml_L_121 : Cond.methodLink RL 121 yX11_lowOf ∈ gw := tw (i := 1587) (by decide +kernel) (by decide +kernel)
theorem ml_L_122 : Cond.methodLink RL 122 yX10_server ∈ gw := tw (i := 945) (by decide +kernel) (by decide +kernel)
theorem ml_L_125 : Cond.methodLink RL 125 yX11_server ∈ gw := tw (i := 1591) (by decide +kernel) (by decide +kernel)
theorem ml_L_126 : Cond.methodLink RL 126 yX10_load ∈ gw := tw (i := 963) (by decide +kernel) (by decide +kernel)
theorem ml_L_129 : Cond.methodLink RL 129 yX11_load ∈ gw := tw (i := 1607) (by decide +kernel) (by decide +kernel)
theorem ml_L_130 : Cond.methodLink RL 130 yX10_stored ∈ gw := tw (i := 967) (by decide +kernel) (by decide +kernel)
theorem ml_L_133 : Cond.methodLink RL 133 yX11_stored ∈ gw := tw (i := 1615) (by decide +kernel) (by decide +kernel)
theorem ml_L_134 : Cond.methodLink RL 134 yX10_clientOf ∈ gw := tw (i := 510) (by decide +kernel) (by decide +kernel)
theorem ml_L_137 : Cond.methodLink RL 137 yX11_clientOf ∈ gw := tw (i := 1619) (by decide +kernel) (by decide +kernel)
theorem ml_L_138 : Cond.methodLink RL 138 yX10_moveOf ∈ gw := tw (i := 972) (by decide +kernel) (by decide +kernel)
theorem ml_L_141 : Cond.methodLink RL 141 yX11_moveOf ∈ gw := tw (i := 1627) (by decide +kernel) (by decide +kernel)
theorem ml_L_142 : Cond.methodLink RL 142 yX10_trail ∈ gw := tw (i := 977) (by decide +kernel) (by decide +kernel)
theorem ml_L_145 : Cond.methodLink RL 145 yX11_trail ∈ gw := tw (i := 1632) (by decide +kernel) (by decide +kernel)
theorem ml_L_146 : Cond.methodLink RL 146 yX10_owned ∈ gw := tw (i := 981) (by decide +kernel) (by decide +kernel)
theorem ml_L_149 : Cond.methodLink RL 149 yX11_owned ∈ gw := tw (i := 1636) (by decide +kernel) (by decide +kernel)
theorem ml_L_150 : Cond.methodLink RL 150 yX10_passed ∈ gw := tw (i := 993) (by decide +kernel) (by decide +kernel)
theorem ml_L_153 : Cond.methodLink RL 153 yX11_passed ∈ gw := tw (i := 1644) (by decide +kernel) (by decide +kernel)
theorem ml_L_154 : Cond.methodLink RL 154 yX10_hot ∈ gw := tw (i := 1053) (by decide +kernel) (by decide +kernel)
theorem ml_L_157 : Cond.methodLink RL 157 yX11_hot ∈ gw := tw (i := 1704) (by decide +kernel) (by decide +kernel)
theorem ml_L_158 : Cond.methodLink RL 158 yX10_scan ∈ gw := tw (i := 505) (by decide +kernel) (by decide +kernel)
theorem ml_L_161 : Cond.methodLink RL 161 yX11_scan ∈ gw := tw (i := 1712) (by decide +kernel) (by decide +kernel)
theorem ml_L_162 : Cond.methodLink RL 162 yX10_emptied ∈ gw := tw (i := 1143) (by decide +kernel) (by decide +kernel)
theorem ml_L_166 : Cond.methodLink RL 166 yX11_emptied ∈ gw := tw (i := 1717) (by decide +kernel) (by decide +kernel)
theorem ml_L_167 : Cond.methodLink RL 167 yX10_cuts ∈ gw := tw (i := 1077) (by decide +kernel) (by decide +kernel)
theorem ml_L_170 : Cond.methodLink RL 170 yX11_cuts ∈ gw := tw (i := 1729) (by decide +kernel) (by decide +kernel)
theorem ml_L_171 : Cond.methodLink RL 171 yX10_changeOf ∈ gw := tw (i := 1001) (by decide +kernel) (by decide +kernel)
theorem ml_L_174 : Cond.methodLink RL 174 yX11_changeOf ∈ gw := tw (i := 1239) (by decide +kernel) (by decide +kernel)
theorem ml_L_175 : Cond.methodLink RL 175 yX10_sound ∈ gw := tw (i := 1041) (by decide +kernel) (by decide +kernel)
theorem ml_L_178 : Cond.methodLink RL 178 yX11_sound ∈ gw := tw (i := 1648) (by decide +kernel) (by decide +kernel)
theorem ml_L_179 : Cond.methodLink RL 179 yX10_spare ∈ gw := tw (i := 1049) (by decide +kernel) (by decide +kernel)
theorem ml_L_182 : Cond.methodLink RL 182 yX11_spare ∈ gw := tw (i := 1656) (by decide +kernel) (by decide +kernel)
theorem ml_L_183 : Cond.methodLink RL 183 yX10_even ∈ gw := tw (i := 1086) (by decide +kernel) (by decide +kernel)
theorem ml_L_186 : Cond.methodLink RL 186 yX11_even ∈ gw := tw (i := 1664) (by decide +kernel) (by decide +kernel)
theorem ml_L_187 : Cond.methodLink RL 187 yX10_next ∈ gw := tw (i := 1106) (by decide +kernel) (by decide +kernel)
theorem ml_L_190 : Cond.methodLink RL 190 yX11_next ∈ gw := tw (i := 1676) (by decide +kernel) (by decide +kernel)
theorem ml_L_191 : Cond.methodLink RL 191 yX10_rounds ∈ gw := tw (i := 1127) (by decide +kernel) (by decide +kernel)
theorem ml_L_194 : Cond.methodLink RL 194 yX11_rounds ∈ gw := tw (i := 1695) (by decide +kernel) (by decide +kernel)
theorem ml_L_195 : Cond.methodLink RL 195 yX10_lasts ∈ gw := tw (i := 1153) (by decide +kernel) (by decide +kernel)
theorem ml_L_198 : Cond.methodLink RL 198 yX11_lasts ∈ gw := tw (i := 1733) (by decide +kernel) (by decide +kernel)
theorem ml_L_199 : Cond.methodLink RL 199 yX10_count ∈ gw := tw (i := 1017) (by decide +kernel) (by decide +kernel)
theorem ml_L_202 : Cond.methodLink RL 202 yX11_count ∈ gw := tw (i := 1737) (by decide +kernel) (by decide +kernel)
theorem ml_L_203 : Cond.methodLink RL 203 yX10_image ∈ gw := tw (i := 894) (by decide +kernel) (by decide +kernel)
theorem ml_L_207 : Cond.methodLink RL 207 yX11_image ∈ gw := tw (i := 1742) (by decide +kernel) (by decide +kernel)
theorem ml_L_208 : Cond.methodLink RL 208 yX10_look ∈ gw := tw (i := 1021) (by decide +kernel) (by decide +kernel)
theorem ml_L_211 : Cond.methodLink RL 211 yX11_look ∈ gw := tw (i := 1746) (by decide +kernel) (by decide +kernel)
theorem iz_0 : Cond.instantiable (cK 0).1 (cK 0).2.2 ∈ gw := tw (i := 322) (by decide +kernel) (by decide +kernel)
theorem nz_0 : Cond.initialized (cK 0).1 ∈ gw := tw (i := 10) (by decide +kernel) (by decide +kernel)
theorem df_0 : ∀ j, j < (cK 0).2.2 → isR (tyK 0 j) = false → defaultValue (tyK 0 j) = .int 0 := by decide +kernel
theorem iz_1 : Cond.instantiable (cK 1).1 (cK 1).2.2 ∈ gw := tw (i := 280) (by decide +kernel) (by decide +kernel)
theorem nz_1 : Cond.initialized (cK 1).1 ∈ gw := tw (i := 7) (by decide +kernel) (by decide +kernel)
theorem df_1 : ∀ j, j < (cK 1).2.2 → isR (tyK 1 j) = false → defaultValue (tyK 1 j) = .int 0 := by decide +kernel
theorem iz_2 : Cond.instantiable (cK 2).1 (cK 2).2.2 ∈ gw := tw (i := 293) (by decide +kernel) (by decide +kernel)
theorem nz_2 : Cond.initialized (cK 2).1 ∈ gw := tw (i := 8) (by decide +kernel) (by decide +kernel)
theorem df_2 : ∀ j, j < (cK 2).2.2 → isR (tyK 2 j) = false → defaultValue (tyK 2 j) = .int 0 := by decide +kernel
theorem iz_3 : Cond.instantiable (cK 3).1 (cK 3).2.2 ∈ gw := tw (i := 207) (by decide +kernel) (by decide +kernel)
theorem nz_3 : Cond.initialized (cK 3).1 ∈ gw := tw (i := 5) (by decide +kernel) (by decide +kernel)
theorem df_3 : ∀ j, j < (cK 3).2.2 → isR (tyK 3 j) = false → defaultValue (tyK 3 j) = .int 0 := by decide +kernel
theorem iz_4 : Cond.instantiable (cK 4).1 (cK 4).2.2 ∈ gw := tw (i := 86) (by decide +kernel) (by decide +kernel)
theorem nz_4 : Cond.initialized (cK 4).1 ∈ gw := tw (i := 4) (by decide +kernel) (by decide +kernel)
theorem df_4 : ∀ j, j < (cK 4).2.2 → isR (tyK 4 j) = false → defaultValue (tyK 4 j) = .int 0 := by decide +kernel
theorem iz_5 : Cond.instantiable (cK 5).1 (cK 5).2.2 ∈ gw := tw (i := 309) (by decide +kernel) (by decide +kernel)
theorem nz_5 : Cond.initialized (cK 5).1 ∈ gw := tw (i := 9) (by decide +kernel) (by decide +kernel)
theorem df_5 : ∀ j, j < (cK 5).2.2 → isR (tyK 5 j) = false → defaultValue (tyK 5 j) = .int 0 := by decide +kernel
theorem iz_6 : Cond.instantiable (cK 6).1 (cK 6).2.2 ∈ gw := tw (i := 237) (by decide +kernel) (by decide +kernel)
theorem nz_6 : Cond.initialized (cK 6).1 ∈ gw := tw (i := 6) (by decide +kernel) (by decide +kernel)
theorem df_6 : ∀ j, j < (cK 6).2.2 → isR (tyK 6 j) = false → defaultValue (tyK 6 j) = .int 0 := by decide +kernel
theorem iz_7 : Cond.instantiable (cK 7).1 (cK 7).2.2 ∈ gw := tw (i := 341) (by decide +kernel) (by decide +kernel)
theorem nz_7 : Cond.initialized (cK 7).1 ∈ gw := tw (i := 11) (by decide +kernel) (by decide +kernel)
theorem df_7 : ∀ j, j < (cK 7).2.2 → isR (tyK 7 j) = false → defaultValue (tyK 7 j) = .int 0 := by decide +kernel
theorem iz_8 : Cond.instantiable (cK 8).1 (cK 8).2.2 ∈ gw := tw (i := 34) (by decide +kernel) (by decide +kernel)
theorem nz_8 : Cond.initialized (cK 8).1 ∈ gw := tw (i := 3) (by decide +kernel) (by decide +kernel)
theorem df_8 : ∀ j, j < (cK 8).2.2 → isR (tyK 8 j) = false → defaultValue (tyK 8 j) = .int 0 := by decide +kernel
theorem iz_9 : Cond.instantiable (cK 9).1 (cK 9).2.2 ∈ gw := tw (i := 28) (by decide +kernel) (by decide +kernel)
theorem nz_9 : Cond.initialized (cK 9).1 ∈ gw := tw (i := 2) (by decide +kernel) (by decide +kernel)
theorem df_9 : ∀ j, j < (cK 9).2.2 → isR (tyK 9 j) = false → defaultValue (tyK 9 j) = .int 0 := by decide +kernel
theorem iz_10 : Cond.instantiable (cK 10).1 (cK 10).2.2 ∈ gw := tw (i := 20) (by decide +kernel) (by decide +kernel)
theorem nz_10 : Cond.initialized (cK 10).1 ∈ gw := tw (i := 1) (by decide +kernel) (by decide +kernel)
theorem df_10 : ∀ j, j < (cK 10).2.2 → isR (tyK 10 j) = false → defaultValue (tyK 10 j) = .int 0 := by decide +kernel
theorem iz_11 : Cond.instantiable (cK 11).1 (cK 11).2.2 ∈ gw := tw (i := 1165) (by decide +kernel) (by decide +kernel)
theorem nz_11 : Cond.initialized (cK 11).1 ∈ gw := tw (i := 12) (by decide +kernel) (by decide +kernel)
theorem df_11 : ∀ j, j < (cK 11).2.2 → isR (tyK 11 j) = false → defaultValue (tyK 11 j) = .int 0 := by decide +kernel
theorem im_O : Cond.instanceMethod objectInit ∈ gw := tw (i := 25) (by decide +kernel) (by decide +kernel)
theorem cd_O : Cond.code objectInit ⟨#[0xb1]⟩ 1 none ∈ gw := tw (i := 26) (by decide +kernel) (by decide +kernel)
theorem sc_Mmin : Cond.static Lib.Math.min.name ∈ gw := tw (i := 578) (by decide +kernel) (by decide +kernel)
theorem cd_Mmin : Cond.code Lib.Math.min.name Lib.Math.min.code 2 (some .int) ∈ gw := tw (i := 579) (by decide +kernel) (by decide +kernel)
theorem sc_Mmax : Cond.static Lib.Math.max.name ∈ gw := tw (i := 1066) (by decide +kernel) (by decide +kernel)
theorem cd_Mmax : Cond.code Lib.Math.max.name Lib.Math.max.code 2 (some .int) ∈ gw := tw (i := 1067) (by decide +kernel) (by decide +kernel)
theorem sc_Mabs : Cond.static Lib.Math.abs.name ∈ gw := tw (i := 1120) (by decide +kernel) (by decide +kernel)
theorem cd_Mabs : Cond.code Lib.Math.abs.name Lib.Math.abs.code 1 (some .int) ∈ gw := tw (i := 1121) (by decide +kernel) (by decide +kernel)
theorem nz_M : Cond.initialized "java/lang/Math" ∈ gw := tw (i := 14) (by decide +kernel) (by decide +kernel)
theorem na_C : Cond.native arraycopyName ∈ gw := tw (i := 428) (by decide +kernel) (by decide +kernel)
theorem sc_C : Cond.static arraycopyName ∈ gw := tw (i := 427) (by decide +kernel) (by decide +kernel)
theorem nz_C : Cond.initialized "java/lang/System" ∈ gw := tw (i := 13) (by decide +kernel) (by decide +kernel)
theorem ac_int : Cond.arrayClass .int ∈ gw := tw (i := 78) (by decide +kernel) (by decide +kernel)
theorem ac_boolean : Cond.arrayClass .boolean ∈ gw := tw (i := 278) (by decide +kernel) (by decide +kernel)
theorem ac_char : Cond.arrayClass .char ∈ gw := tw (i := 376) (by decide +kernel) (by decide +kernel)
theorem ac_byte : Cond.arrayClass .byte ∈ gw := tw (i := 881) (by decide +kernel) (by decide +kernel)

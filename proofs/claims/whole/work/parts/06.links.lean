/-! METHODS AND LINKS: by program out of the names and the tables -/
abbrev mX0_init : MD := (yX0_init, cX0_init, 4, none, [])
abbrev mX0_judge : MD := (yX0_judge, cX0_judge, 4, (some FieldType.int), [])
abbrev mX0_judgeAdding : MD := (yX0_judgeAdding, cX0_judgeAdding, 4, (some FieldType.int), [])
abbrev mX0_judgeStrength : MD := (yX0_judgeStrength, cX0_judgeStrength, 3, (some FieldType.int), [])
abbrev mX0_judgeDigging : MD := (yX0_judgeDigging, cX0_judgeDigging, 4, (some FieldType.int), [])
abbrev mX0_judgeSettling : MD := (yX0_judgeSettling, cX0_judgeSettling, 2, (some FieldType.int), [])
abbrev mX0_deny : MD := (yX0_deny, cX0_deny, 3, (some FieldType.int), [])
abbrev mX0_carryOut : MD := (yX0_carryOut, cX0_carryOut, 5, (some FieldType.int), [])
abbrev mX1_init : MD := (yX1_init, cX1_init, 1, none, [])
abbrev mX1_copyFrom : MD := (yX1_copyFrom, cX1_copyFrom, 2, none, [])
abbrev mX1_hasMagnet : MD := (yX1_hasMagnet, cX1_hasMagnet, 2, (some FieldType.boolean), [])
abbrev mX1_hasTunnel : MD := (yX1_hasTunnel, cX1_hasTunnel, 2, (some FieldType.boolean), [])
abbrev mX1_magnetOn : MD := (yX1_magnetOn, cX1_magnetOn, 3, (some FieldType.int), [])
abbrev mX1_magnetOfRank : MD := (yX1_magnetOfRank, cX1_magnetOfRank, 3, (some FieldType.int), [])
abbrev mX1_rankOf : MD := (yX1_rankOf, cX1_rankOf, 6, (some FieldType.int), [])
abbrev mX1_poleSign : MD := (yX1_poleSign, cX1_poleSign, 2, (some FieldType.char), [])
abbrev mX1_sumOfStrengths : MD := (yX1_sumOfStrengths, cX1_sumOfStrengths, 3, (some FieldType.int), [])
abbrev mX1_place : MD := (yX1_place, cX1_place, 5, (some FieldType.int), [])
abbrev mX1_strengthen : MD := (yX1_strengthen, cX1_strengthen, 4, (some FieldType.int), [])
abbrev mX1_turnFrom : MD := (yX1_turnFrom, cX1_turnFrom, 4, (some FieldType.int), [])
abbrev mX1_turnSet : MD := (yX1_turnSet, cX1_turnSet, 3, (some FieldType.int), [])
abbrev mX1_tunnelBetween : MD := (yX1_tunnelBetween, cX1_tunnelBetween, 4, (some FieldType.int), [])
abbrev mX1_otherEnd : MD := (yX1_otherEnd, cX1_otherEnd, 3, (some FieldType.int), [])
abbrev mX1_hasUnlikePoles : MD := (yX1_hasUnlikePoles, cX1_hasUnlikePoles, 2, (some FieldType.boolean), [])
abbrev mX1_isBlockedWith : MD := (yX1_isBlockedWith, cX1_isBlockedWith, 3, (some FieldType.boolean), [])
abbrev mX1_countBlocked : MD := (yX1_countBlocked, cX1_countBlocked, 1, (some FieldType.int), [])
abbrev mX1_countBlockedWith : MD := (yX1_countBlockedWith, cX1_countBlockedWith, 4, (some FieldType.int), [])
abbrev mX1_join : MD := (yX1_join, cX1_join, 4, (some FieldType.int), [])
abbrev mX1_remove : MD := (yX1_remove, cX1_remove, 3, (some FieldType.int), [])
abbrev mX2_init : MD := (yX2_init, cX2_init, 1, none, [])
abbrev mX2_setParameter : MD := (yX2_setParameter, cX2_setParameter, 3, none, [])
abbrev mX3_init : MD := (yX3_init, cX3_init, 2, none, [])
abbrev mX3_forceOn : MD := (yX3_forceOn, cX3_forceOn, 8, (some FieldType.float), [])
abbrev mX3_moveEach : MD := (yX3_moveEach, cX3_moveEach, 4, (some FieldType.int), [])
abbrev mX3_targetOf : MD := (yX3_targetOf, cX3_targetOf, 5, (some FieldType.int), [])
abbrev mX3_fieldAt : MD := (yX3_fieldAt, cX3_fieldAt, 8, (some FieldType.double), [])
abbrev mX3_unsignedFieldAt : MD := (yX3_unsignedFieldAt, cX3_unsignedFieldAt, 4, (some FieldType.double), [])
abbrev mX3_positionOfStrongestField : MD := (yX3_positionOfStrongestField, cX3_positionOfStrongestField, 7, (some FieldType.int), [])
abbrev mX3_magnetInStrongestField : MD := (yX3_magnetInStrongestField, cX3_magnetInStrongestField, 7, (some FieldType.int), [])
abbrev mX4_init : MD := (yX4_init, cX4_init, 2, none, [])
abbrev mX4_push : MD := (yX4_push, cX4_push, 2, none, [])
abbrev mX4_popInto : MD := (yX4_popInto, cX4_popInto, 2, none, [])
abbrev mX4_forgetAll : MD := (yX4_forgetAll, cX4_forgetAll, 1, none, [])
abbrev mX5_init : MD := (yX5_init, cX5_init, 1, none, [])
abbrev mX5_describe : MD := (yX5_describe, cX5_describe, 5, none, [])
abbrev mX5_putNumber : MD := (yX5_putNumber, cX5_putNumber, 2, none, [])
abbrev mX5_put : MD := (yX5_put, cX5_put, 2, none, [])
abbrev mX6_init : MD := (yX6_init, cX6_init, 2, none, [])
abbrev mX6_countParts : MD := (yX6_countParts, cX6_countParts, 4, (some FieldType.int), [])
abbrev mX6_separateLabels : MD := (yX6_separateLabels, cX6_separateLabels, 2, none, [])
abbrev mX6_unite : MD := (yX6_unite, cX6_unite, 6, (some FieldType.boolean), [])
abbrev mX6_shortestWalk : MD := (yX6_shortestWalk, cX6_shortestWalk, 5, (some FieldType.int), [])
abbrev mX6_walkOn : MD := (yX6_walkOn, cX6_walkOn, 4, none, [])
abbrev mX6_countBridges : MD := (yX6_countBridges, cX6_countBridges, 2, (some FieldType.int), [])
abbrev mX6_explore : MD := (yX6_explore, cX6_explore, 6, none, [])
abbrev mX6_numberMagnet : MD := (yX6_numberMagnet, cX6_numberMagnet, 2, none, [])
abbrev mX6_reachNumber : MD := (yX6_reachNumber, cX6_reachNumber, 3, none, [])
abbrev mX6_countBridgesByFilling : MD := (yX6_countBridgesByFilling, cX6_countBridgesByFilling, 4, (some FieldType.int), [])
abbrev mX6_canUniteCounterparts : MD := (yX6_canUniteCounterparts, cX6_canUniteCounterparts, 4, (some FieldType.boolean), [])
abbrev mX6_bestTurnSet : MD := (yX6_bestTurnSet, cX6_bestTurnSet, 5, (some FieldType.int), [])
abbrev mX6_givePolesFrom : MD := (yX6_givePolesFrom, cX6_givePolesFrom, 7, (some FieldType.int), [])
abbrev mX6_bestTurnSetOf : MD := (yX6_bestTurnSetOf, cX6_bestTurnSetOf, 6, (some FieldType.int), [])
abbrev mX6_bestTurnSetSize : MD := (yX6_bestTurnSetSize, cX6_bestTurnSetSize, 2, (some FieldType.int), [])
abbrev mX6_smallestSettlingSet : MD := (yX6_smallestSettlingSet, cX6_smallestSettlingSet, 6, (some FieldType.int), [])
abbrev mX6_leastBlockedOfSets : MD := (yX6_leastBlockedOfSets, cX6_leastBlockedOfSets, 4, (some FieldType.int), [])
abbrev mX6_leastBlockedWithinBounds : MD := (yX6_leastBlockedWithinBounds, cX6_leastBlockedWithinBounds, 1, (some FieldType.int), [])
abbrev mX6_bound : MD := (yX6_bound, cX6_bound, 9, (some FieldType.int), [])
abbrev mX6_blockedToEarlier : MD := (yX6_blockedToEarlier, cX6_blockedToEarlier, 6, (some FieldType.int), [])
abbrev mX7_init : MD := (yX7_init, cX7_init, 2, none, [])
abbrev mX7_hasRoom : MD := (yX7_hasRoom, cX7_hasRoom, 1, (some FieldType.boolean), [])
abbrev mX7_append : MD := (yX7_append, cX7_append, 2, none, [])
abbrev mX7_clear : MD := (yX7_clear, cX7_clear, 1, none, [])
abbrev mX7_parse : MD := (yX7_parse, cX7_parse, 4, (some FieldType.boolean), [])
abbrev mX7_parseCommand : MD := (yX7_parseCommand, cX7_parseCommand, 5, (some FieldType.int), [])
abbrev mX7_shapeOf : MD := (yX7_shapeOf, cX7_shapeOf, 1, (some (FieldType.object "java/lang/String")), [])
abbrev mX7_matchKind : MD := (yX7_matchKind, cX7_matchKind, 10, (some FieldType.int), [])
abbrev mX7_widthOf : MD := (yX7_widthOf, cX7_widthOf, 3, (some FieldType.int), [])
abbrev mX7_isDigitAt : MD := (yX7_isDigitAt, cX7_isDigitAt, 2, (some FieldType.boolean), [])
abbrev mX7_hasAt : MD := (yX7_hasAt, cX7_hasAt, 3, (some FieldType.boolean), [])
abbrev mX7_valueOf : MD := (yX7_valueOf, cX7_valueOf, 5, (some FieldType.int), [])
abbrev mX8_init : MD := (yX8_init, cX8_init, 1, none, [])
abbrev mX8_addMagnet : MD := (yX8_addMagnet, cX8_addMagnet, 4, (some FieldType.int), [])
abbrev mX8_setStrength : MD := (yX8_setStrength, cX8_setStrength, 3, (some FieldType.int), [])
abbrev mX8_turn : MD := (yX8_turn, cX8_turn, 2, (some FieldType.int), [])
abbrev mX8_shift : MD := (yX8_shift, cX8_shift, 2, (some FieldType.int), [])
abbrev mX8_move : MD := (yX8_move, cX8_move, 1, (some FieldType.int), [])
abbrev mX8_magnetCount : MD := (yX8_magnetCount, cX8_magnetCount, 1, (some FieldType.int), [])
abbrev mX8_position : MD := (yX8_position, cX8_position, 2, (some FieldType.int), [])
abbrev mX8_strength : MD := (yX8_strength, cX8_strength, 2, (some FieldType.int), [])
abbrev mX8_pole : MD := (yX8_pole, cX8_pole, 2, (some FieldType.char), [])
abbrev mX8_magnetAt : MD := (yX8_magnetAt, cX8_magnetAt, 2, (some FieldType.int), [])
abbrev mX8_magnetByStrength : MD := (yX8_magnetByStrength, cX8_magnetByStrength, 2, (some FieldType.int), [])
abbrev mX8_dig : MD := (yX8_dig, cX8_dig, 3, (some FieldType.int), [])
abbrev mX8_fill : MD := (yX8_fill, cX8_fill, 2, (some FieldType.int), [])
abbrev mX8_settle : MD := (yX8_settle, cX8_settle, 1, (some FieldType.int), [])
abbrev mX8_tunnelCount : MD := (yX8_tunnelCount, cX8_tunnelCount, 1, (some FieldType.int), [])
abbrev mX8_isOpen : MD := (yX8_isOpen, cX8_isOpen, 2, (some FieldType.boolean), [])
abbrev mX8_blocked : MD := (yX8_blocked, cX8_blocked, 1, (some FieldType.int), [])
abbrev mX8_parts : MD := (yX8_parts, cX8_parts, 1, (some FieldType.int), [])
abbrev mX8_walk : MD := (yX8_walk, cX8_walk, 3, (some FieldType.int), [])
abbrev mX8_bridges : MD := (yX8_bridges, cX8_bridges, 1, (some FieldType.int), [])
abbrev mX8_bridgesByFilling : MD := (yX8_bridgesByFilling, cX8_bridgesByFilling, 1, (some FieldType.int), [])
abbrev mX8_canSettle : MD := (yX8_canSettle, cX8_canSettle, 1, (some FieldType.boolean), [])
abbrev mX8_canSettleByUnions : MD := (yX8_canSettleByUnions, cX8_canSettleByUnions, 1, (some FieldType.boolean), [])
abbrev mX8_fewestTurns : MD := (yX8_fewestTurns, cX8_fewestTurns, 1, (some FieldType.int), [])
abbrev mX8_fewestTurnsBySets : MD := (yX8_fewestTurnsBySets, cX8_fewestTurnsBySets, 1, (some FieldType.int), [])
abbrev mX8_leastBlocked : MD := (yX8_leastBlocked, cX8_leastBlocked, 1, (some FieldType.int), [])
abbrev mX8_leastBlockedByBounds : MD := (yX8_leastBlockedByBounds, cX8_leastBlockedByBounds, 1, (some FieldType.int), [])
abbrev mX8_force : MD := (yX8_force, cX8_force, 2, (some FieldType.float), [])
abbrev mX8_wholeForce : MD := (yX8_wholeForce, cX8_wholeForce, 2, (some FieldType.int), [])
abbrev mX8_field : MD := (yX8_field, cX8_field, 2, (some FieldType.double), [])
abbrev mX8_strongestPosition : MD := (yX8_strongestPosition, cX8_strongestPosition, 1, (some FieldType.int), [])
abbrev mX8_queen : MD := (yX8_queen, cX8_queen, 1, (some FieldType.int), [])
abbrev mX8_meanStrength : MD := (yX8_meanStrength, cX8_meanStrength, 1, (some FieldType.double), [])
abbrev mX8_openShare : MD := (yX8_openShare, cX8_openShare, 1, (some FieldType.float), [])
abbrev mX8_turnTotal : MD := (yX8_turnTotal, cX8_turnTotal, 1, (some FieldType.int), [])
abbrev mX8_turnsOf : MD := (yX8_turnsOf, cX8_turnsOf, 2, (some FieldType.int), [])
abbrev mX8_moved : MD := (yX8_moved, cX8_moved, 1, (some FieldType.int), [])
abbrev mX8_feed : MD := (yX8_feed, cX8_feed, 2, (some FieldType.int), [])
abbrev mX8_execute : MD := (yX8_execute, cX8_execute, 5, (some FieldType.int), [])
abbrev mX8_faultPosition : MD := (yX8_faultPosition, cX8_faultPosition, 1, (some FieldType.int), [])
abbrev mX8_writeMagnet : MD := (yX8_writeMagnet, cX8_writeMagnet, 2, (some FieldType.int), [])
abbrev mX8_lineCharacter : MD := (yX8_lineCharacter, cX8_lineCharacter, 2, (some FieldType.char), [])
abbrev mX8_denial : MD := (yX8_denial, cX8_denial, 1, (some FieldType.int), [])
abbrev mX8_denialDetail : MD := (yX8_denialDetail, cX8_denialDetail, 1, (some FieldType.int), [])
abbrev mX8_denialCause : MD := (yX8_denialCause, cX8_denialCause, 1, (some FieldType.int), [])
abbrev mX8_undo : MD := (yX8_undo, cX8_undo, 1, (some FieldType.int), [])
abbrev mX8_undoCount : MD := (yX8_undoCount, cX8_undoCount, 1, (some FieldType.int), [])
abbrev mX8_saveSnapshot : MD := (yX8_saveSnapshot, cX8_saveSnapshot, 1, (some FieldType.int), [])
abbrev mX8_restoreSnapshot : MD := (yX8_restoreSnapshot, cX8_restoreSnapshot, 1, (some FieldType.int), [])
abbrev mX8_change : MD := (yX8_change, cX8_change, 6, (some FieldType.int), [])
abbrev mX8_refuse : MD := (yX8_refuse, cX8_refuse, 2, none, [])
abbrev mX8_causeOf : MD := (yX8_causeOf, cX8_causeOf, 1, (some FieldType.int), [])
abbrev mX8_keepDenial : MD := (yX8_keepDenial, cX8_keepDenial, 4, none, [])
abbrev mX8_isPosition : MD := (yX8_isPosition, cX8_isPosition, 1, (some FieldType.boolean), [])
abbrev mX8_isStrength : MD := (yX8_isStrength, cX8_isStrength, 1, (some FieldType.boolean), [])
abbrev mX8_isIn : MD := (yX8_isIn, cX8_isIn, 2, (some FieldType.boolean), [])
abbrev mX8_requirePosition : MD := (yX8_requirePosition, cX8_requirePosition, 1, none, [])
abbrev mX8_requireFound : MD := (yX8_requireFound, cX8_requireFound, 1, (some FieldType.int), [])
abbrev mX8_requireMagnet : MD := (yX8_requireMagnet, cX8_requireMagnet, 2, none, [])
abbrev mX8_requireTunnel : MD := (yX8_requireTunnel, cX8_requireTunnel, 2, none, [])
abbrev mX8_requireDenial : MD := (yX8_requireDenial, cX8_requireDenial, 1, none, [])
abbrev mX9_init : MD := (yX9_init, cX9_init, 1, none, [])
abbrev mX9_thrown : MD := (yX9_thrown, cX9_thrown, 1, (some FieldType.int), [])
abbrev mX9_fails : MD := (yX9_fails, cX9_fails, 2, (some FieldType.boolean), [])
abbrev mX9_denies : MD := (yX9_denies, cX9_denies, 4, (some FieldType.int), [])
abbrev mX9_in : MD := (yX9_in, cX9_in, 3, (some FieldType.boolean), [])
abbrev mX9_size : MD := (yX9_size, cX9_size, 1, (some FieldType.int), [])
abbrev mX9_strong : MD := (yX9_strong, cX9_strong, 2, (some FieldType.double), [])
abbrev mX9_copies : MD := (yX9_copies, cX9_copies, 5, none, [])
abbrev mX9_keeps : MD := (yX9_keeps, cX9_keeps, 3, none, [])
abbrev mX9_bits : MD := (yX9_bits, cX9_bits, 3, (some FieldType.int), [])
abbrev mX9_isMagnet : MD := (yX9_isMagnet, cX9_isMagnet, 2, (some FieldType.boolean), [])
abbrev mX9_isNone : MD := (yX9_isNone, cX9_isNone, 2, (some FieldType.boolean), [])
abbrev mX9_of : MD := (yX9_of, cX9_of, 3, (some FieldType.int), [])
abbrev mX9_lays : MD := (yX9_lays, cX9_lays, 4, none, [])
abbrev mX9_found : MD := (yX9_found, cX9_found, 3, (some FieldType.int), [])
abbrev mX9_addMagnet : MD := (yX9_addMagnet, cX9_addMagnet, 5, (some FieldType.int), [])
abbrev mX9_setStrength : MD := (yX9_setStrength, cX9_setStrength, 4, (some FieldType.int), [])
abbrev mX9_turnsOne : MD := (yX9_turnsOne, cX9_turnsOne, 2, none, [])
abbrev mX9_turn : MD := (yX9_turn, cX9_turn, 2, (some FieldType.int), [])
abbrev mX9_shift : MD := (yX9_shift, cX9_shift, 4, (some FieldType.int), [])
abbrev mX9_pull : MD := (yX9_pull, cX9_pull, 7, (some FieldType.float), [])
abbrev mX9_move : MD := (yX9_move, cX9_move, 5, (some FieldType.int), [])
abbrev mX9_magnetCount : MD := (yX9_magnetCount, cX9_magnetCount, 1, (some FieldType.int), [])
abbrev mX9_position : MD := (yX9_position, cX9_position, 2, (some FieldType.int), [])
abbrev mX9_strength : MD := (yX9_strength, cX9_strength, 2, (some FieldType.int), [])
abbrev mX9_sign : MD := (yX9_sign, cX9_sign, 2, (some FieldType.char), [])
abbrev mX9_pole : MD := (yX9_pole, cX9_pole, 2, (some FieldType.char), [])
abbrev mX9_magnetAt : MD := (yX9_magnetAt, cX9_magnetAt, 2, (some FieldType.int), [])
abbrev mX9_isAhead : MD := (yX9_isAhead, cX9_isAhead, 3, (some FieldType.boolean), [])
abbrev mX9_magnetByStrength : MD := (yX9_magnetByStrength, cX9_magnetByStrength, 5, (some FieldType.int), [])
abbrev mX9_isTunnel : MD := (yX9_isTunnel, cX9_isTunnel, 2, (some FieldType.boolean), [])
abbrev mX9_joins : MD := (yX9_joins, cX9_joins, 3, (some FieldType.int), [])
abbrev mX9_between : MD := (yX9_between, cX9_between, 4, (some FieldType.int), [])
abbrev mX9_isFree : MD := (yX9_isFree, cX9_isFree, 5, (some FieldType.boolean), [])
abbrev mX9_shut : MD := (yX9_shut, cX9_shut, 4, (some FieldType.int), [])
abbrev mX9_dig : MD := (yX9_dig, cX9_dig, 3, (some FieldType.int), [])
abbrev mX9_fill : MD := (yX9_fill, cX9_fill, 3, (some FieldType.int), [])
abbrev mX9_best : MD := (yX9_best, cX9_best, 4, (some FieldType.int), [])
abbrev mX9_settle : MD := (yX9_settle, cX9_settle, 4, (some FieldType.int), [])
abbrev mX9_tunnelCount : MD := (yX9_tunnelCount, cX9_tunnelCount, 1, (some FieldType.int), [])
abbrev mX9_isOpen : MD := (yX9_isOpen, cX9_isOpen, 2, (some FieldType.boolean), [])
abbrev mX9_blocked : MD := (yX9_blocked, cX9_blocked, 1, (some FieldType.int), [])
abbrev mX9_part : MD := (yX9_part, cX9_part, 7, (some FieldType.int), [])
abbrev mX9_partsWithout : MD := (yX9_partsWithout, cX9_partsWithout, 4, (some FieldType.int), [])
abbrev mX9_parts : MD := (yX9_parts, cX9_parts, 1, (some FieldType.int), [])
abbrev mX9_walk : MD := (yX9_walk, cX9_walk, 8, (some FieldType.int), [])
abbrev mX9_spans : MD := (yX9_spans, cX9_spans, 4, (some FieldType.int), [])
abbrev mX9_bridges : MD := (yX9_bridges, cX9_bridges, 1, (some FieldType.int), [])
abbrev mX9_bridgesByFilling : MD := (yX9_bridgesByFilling, cX9_bridgesByFilling, 1, (some FieldType.int), [])
abbrev mX9_canSettle : MD := (yX9_canSettle, cX9_canSettle, 1, (some FieldType.boolean), [])
abbrev mX9_canSettleByUnions : MD := (yX9_canSettleByUnions, cX9_canSettleByUnions, 1, (some FieldType.boolean), [])
abbrev mX9_fewest : MD := (yX9_fewest, cX9_fewest, 2, (some FieldType.int), [])
abbrev mX9_fewestTurns : MD := (yX9_fewestTurns, cX9_fewestTurns, 1, (some FieldType.int), [])
abbrev mX9_fewestTurnsBySets : MD := (yX9_fewestTurnsBySets, cX9_fewestTurnsBySets, 1, (some FieldType.int), [])
abbrev mX9_leastShut : MD := (yX9_leastShut, cX9_leastShut, 3, (some FieldType.int), [])
abbrev mX9_leastBlocked : MD := (yX9_leastBlocked, cX9_leastBlocked, 1, (some FieldType.int), [])
abbrev mX9_leastBlockedByBounds : MD := (yX9_leastBlockedByBounds, cX9_leastBlockedByBounds, 1, (some FieldType.int), [])
abbrev mX9_force : MD := (yX9_force, cX9_force, 2, (some FieldType.float), [])
abbrev mX9_wholeForce : MD := (yX9_wholeForce, cX9_wholeForce, 2, (some FieldType.int), [])
abbrev mX9_fieldAt : MD := (yX9_fieldAt, cX9_fieldAt, 7, (some FieldType.double), [])
abbrev mX9_field : MD := (yX9_field, cX9_field, 2, (some FieldType.double), [])
abbrev mX9_strongestPosition : MD := (yX9_strongestPosition, cX9_strongestPosition, 3, (some FieldType.int), [])
abbrev mX9_queen : MD := (yX9_queen, cX9_queen, 3, (some FieldType.int), [])
abbrev mX9_meanStrength : MD := (yX9_meanStrength, cX9_meanStrength, 3, (some FieldType.double), [])
abbrev mX9_openShare : MD := (yX9_openShare, cX9_openShare, 1, (some FieldType.float), [])
abbrev mX9_turnTotal : MD := (yX9_turnTotal, cX9_turnTotal, 1, (some FieldType.int), [])
abbrev mX9_turnsOf : MD := (yX9_turnsOf, cX9_turnsOf, 2, (some FieldType.int), [])
abbrev mX9_moved : MD := (yX9_moved, cX9_moved, 1, (some FieldType.int), [])
abbrev mX9_feed : MD := (yX9_feed, cX9_feed, 2, (some FieldType.int), [])
abbrev mX9_here : MD := (yX9_here, cX9_here, 1, (some FieldType.int), [])
abbrev mX9_skips : MD := (yX9_skips, cX9_skips, 2, (some FieldType.boolean), [])
abbrev mX9_isWord : MD := (yX9_isWord, cX9_isWord, 4, (some FieldType.boolean), [])
abbrev mX9_figures : MD := (yX9_figures, cX9_figures, 5, (some FieldType.boolean), [])
abbrev mX9_poleHere : MD := (yX9_poleHere, cX9_poleHere, 2, (some FieldType.boolean), [])
abbrev mX9_commandHere : MD := (yX9_commandHere, cX9_commandHere, 2, (some FieldType.boolean), [])
abbrev mX9_isText : MD := (yX9_isText, cX9_isText, 1, (some FieldType.boolean), [])
abbrev mX9_carries : MD := (yX9_carries, cX9_carries, 4, (some FieldType.int), [])
abbrev mX9_deniesText : MD := (yX9_deniesText, cX9_deniesText, 3, (some FieldType.int), [])
abbrev mX9_execute : MD := (yX9_execute, cX9_execute, 4, (some FieldType.int), [])
abbrev mX9_faultPosition : MD := (yX9_faultPosition, cX9_faultPosition, 1, (some FieldType.int), [])
abbrev mX9_writes : MD := (yX9_writes, cX9_writes, 2, none, [])
abbrev mX9_writesNumber : MD := (yX9_writesNumber, cX9_writesNumber, 2, none, [])
abbrev mX9_writesBehind : MD := (yX9_writesBehind, cX9_writesBehind, 3, none, [])
abbrev mX9_writeMagnet : MD := (yX9_writeMagnet, cX9_writeMagnet, 5, (some FieldType.int), [])
abbrev mX9_lineCharacter : MD := (yX9_lineCharacter, cX9_lineCharacter, 2, (some FieldType.char), [])
abbrev mX9_denial : MD := (yX9_denial, cX9_denial, 1, (some FieldType.int), [])
abbrev mX9_denialDetail : MD := (yX9_denialDetail, cX9_denialDetail, 1, (some FieldType.int), [])
abbrev mX9_denialCause : MD := (yX9_denialCause, cX9_denialCause, 1, (some FieldType.int), [])
abbrev mX9_undo : MD := (yX9_undo, cX9_undo, 1, (some FieldType.int), [])
abbrev mX9_undoCount : MD := (yX9_undoCount, cX9_undoCount, 1, (some FieldType.int), [])
abbrev mX9_saveSnapshot : MD := (yX9_saveSnapshot, cX9_saveSnapshot, 1, (some FieldType.int), [])
abbrev mX9_restoreSnapshot : MD := (yX9_restoreSnapshot, cX9_restoreSnapshot, 1, (some FieldType.int), [])
abbrev mJx00060_init_a7421 : MD := (yJx00060_init_a7421, cJx00060_init_a7421, 2, none, [])
abbrev mJ6_bitCount_0f7a4 : MD := (yJ6_bitCount_0f7a4, cJ6_bitCount_0f7a4, 1, (some FieldType.int), [])
abbrev mJ9_abs_0f7a4 : MD := (yJ9_abs_0f7a4, cJ9_abs_0f7a4, 1, (some FieldType.int), [])
abbrev mJ9_max_7cf53 : MD := (yJ9_max_7cf53, cJ9_max_7cf53, 2, (some FieldType.int), [])
abbrev mJ9_min_7cf53 : MD := (yJ9_min_7cf53, cJ9_min_7cf53, 2, (some FieldType.int), [])
abbrev mJ0_length_8abf5 : MD := (yJ0_length_8abf5, cJ0_length_8abf5, 1, (some FieldType.int), [])
abbrev mJ0_charAt_5068e : MD := (yJ0_charAt_5068e, cJ0_charAt_5068e, 2, (some FieldType.char), [])
abbrev mJ0_coder_7d493 : MD := (yJ0_coder_7d493, cJ0_coder_7d493, 1, (some FieldType.byte), [])
abbrev mJ0_isLatin1_aae02 : MD := (yJ0_isLatin1_aae02, cJ0_isLatin1_aae02, 1, (some FieldType.boolean), [])
abbrev mJ0_checkIndex_df160 : MD := (yJ0_checkIndex_df160, cJ0_checkIndex_df160, 2, none, [])
abbrev mJ1_charAt_3b067 : MD := (yJ1_charAt_3b067, cJ1_charAt_3b067, 2, (some FieldType.char), [])
abbrev mJ2_getChar_3b067 : MD := (yJ2_getChar_3b067, cJ2_getChar_3b067, 2, (some FieldType.char), [])
abbrev mJ2_length_9d52b : MD := (yJ2_length_9d52b, cJ2_length_9d52b, 1, (some FieldType.int), [])
abbrev mJ2_charAt_3b067 : MD := (yJ2_charAt_3b067, cJ2_charAt_3b067, 2, (some FieldType.char), [])
abbrev mJ2_checkIndex_2214a : MD := (yJ2_checkIndex_2214a, cJ2_checkIndex_2214a, 2, none, [])
abbrev mJ7_fill_53178 : MD := (yJ7_fill_53178, cJ7_fill_53178, 4, none, [])
abbrev mJ3_checkIndex_8e157 : MD := (yJ3_checkIndex_8e157, cJ3_checkIndex_8e157, 3, (some FieldType.int), [])
abbrev mL_addMagnet : MD := (yL_addMagnet, cL_addMagnet, 6, (some FieldType.int), [(0, 12, 15, 13), (0, 12, 19, 15)])
abbrev mL_setStrength : MD := (yL_setStrength, cL_setStrength, 5, (some FieldType.int), [(0, 10, 13, 21), (0, 10, 17, 13)])
abbrev mL_turn : MD := (yL_turn, cL_turn, 4, (some FieldType.int), [(0, 9, 12, 21)])
abbrev mL_shift : MD := (yL_shift, cL_shift, 4, (some FieldType.int), [(0, 9, 12, 13)])
abbrev mL_position : MD := (yL_position, cL_position, 4, (some FieldType.int), [(0, 9, 12, 21)])
abbrev mL_strength : MD := (yL_strength, cL_strength, 4, (some FieldType.int), [(0, 9, 12, 21)])
abbrev mL_pole : MD := (yL_pole, cL_pole, 4, (some FieldType.int), [(0, 9, 12, 21)])
abbrev mL_magnetAt : MD := (yL_magnetAt, cL_magnetAt, 4, (some FieldType.int), [(0, 9, 12, 13), (0, 9, 15, 43)])
abbrev mL_magnetByStrength : MD := (yL_magnetByStrength, cL_magnetByStrength, 4, (some FieldType.int), [(0, 9, 12, 43)])
abbrev mL_dig : MD := (yL_dig, cL_dig, 5, (some FieldType.int), [(0, 10, 13, 21), (0, 10, 17, 13), (0, 10, 21, 15)])
abbrev mL_fill : MD := (yL_fill, cL_fill, 4, (some FieldType.int), [(0, 9, 12, 21)])
abbrev mL_settle : MD := (yL_settle, cL_settle, 3, (some FieldType.int), [(0, 8, 11, 15)])
abbrev mL_isOpen : MD := (yL_isOpen, cL_isOpen, 4, (some FieldType.int), [(0, 16, 19, 21)])
abbrev mL_walk : MD := (yL_walk, cL_walk, 5, (some FieldType.int), [(0, 10, 13, 21), (0, 10, 17, 43)])
abbrev mL_fewestTurns : MD := (yL_fewestTurns, cL_fewestTurns, 3, (some FieldType.int), [(0, 8, 11, 43)])
abbrev mL_fewestTurnsBySets : MD := (yL_fewestTurnsBySets, cL_fewestTurnsBySets, 3, (some FieldType.int), [(0, 8, 11, 43)])
abbrev mL_force : MD := (yL_force, cL_force, 4, (some FieldType.int), [(0, 9, 12, 21)])
abbrev mL_wholeForce : MD := (yL_wholeForce, cL_wholeForce, 4, (some FieldType.int), [(0, 9, 12, 21)])
abbrev mL_field : MD := (yL_field, cL_field, 4, (some FieldType.int), [(0, 8, 11, 13)])
abbrev mL_strongestPosition : MD := (yL_strongestPosition, cL_strongestPosition, 3, (some FieldType.int), [(0, 8, 11, 43)])
abbrev mL_queen : MD := (yL_queen, cL_queen, 3, (some FieldType.int), [(0, 8, 11, 43)])
abbrev mL_meanStrength : MD := (yL_meanStrength, cL_meanStrength, 3, (some FieldType.int), [(0, 7, 10, 92)])
abbrev mL_openShare : MD := (yL_openShare, cL_openShare, 3, (some FieldType.int), [(0, 8, 11, 92)])
abbrev mL_turnsOf : MD := (yL_turnsOf, cL_turnsOf, 4, (some FieldType.int), [(0, 9, 12, 21)])
abbrev mL_feed : MD := (yL_feed, cL_feed, 4, (some FieldType.int), [(0, 9, 12, 105)])
abbrev mL_execute : MD := (yL_execute, cL_execute, 3, (some FieldType.int), [(0, 8, 11, 13), (0, 8, 14, 15)])
abbrev mL_faultPosition : MD := (yL_faultPosition, cL_faultPosition, 3, (some FieldType.int), [(0, 8, 11, 43)])
abbrev mL_writeMagnet : MD := (yL_writeMagnet, cL_writeMagnet, 4, (some FieldType.int), [(0, 9, 12, 21)])
abbrev mL_lineCharacter : MD := (yL_lineCharacter, cL_lineCharacter, 4, (some FieldType.int), [(0, 9, 12, 21)])
abbrev mL_denial : MD := (yL_denial, cL_denial, 3, (some FieldType.int), [(0, 8, 11, 43)])
abbrev mL_denialDetail : MD := (yL_denialDetail, cL_denialDetail, 3, (some FieldType.int), [(0, 8, 11, 43)])
abbrev mL_denialCause : MD := (yL_denialCause, cL_denialCause, 3, (some FieldType.int), [(0, 8, 11, 43)])
abbrev mL_undo : MD := (yL_undo, cL_undo, 3, (some FieldType.int), [(0, 8, 11, 105)])
abbrev mL_restoreSnapshot : MD := (yL_restoreSnapshot, cL_restoreSnapshot, 3, (some FieldType.int), [(0, 8, 11, 105)])
theorem in_t1 {w : Cond} (h : w ∈ tables_1_1) : w ∈ lw_tbl := List.mem_append_right _ (List.mem_append_left _ h)
theorem in_t2 {w : Cond} (h : w ∈ tables_1_2) : w ∈ lw_tbl := List.mem_append_right _ (List.mem_append_right _ (List.mem_append_left _ h))
theorem in_t3 {w : Cond} (h : w ∈ tables_1_3) : w ∈ lw_tbl := List.mem_append_right _ (List.mem_append_right _ (List.mem_append_right _ (List.mem_append_left _ h)))
theorem in_t4 {w : Cond} (h : w ∈ tables_1_4) : w ∈ lw_tbl := List.mem_append_right _ (List.mem_append_right _ (List.mem_append_right _ (List.mem_append_right _ (List.mem_append_left _ h))))
theorem in_t5 {w : Cond} (h : w ∈ tables_1_5) : w ∈ lw_tbl := List.mem_append_right _ (List.mem_append_right _ (List.mem_append_right _ (List.mem_append_right _ (List.mem_append_right _ (List.mem_append_left _ h)))))
theorem in_t6 {w : Cond} (h : w ∈ tables_1_6) : w ∈ lw_tbl := List.mem_append_right _ (List.mem_append_right _ (List.mem_append_right _ (List.mem_append_right _ (List.mem_append_right _ (List.mem_append_right _ (List.mem_append_left _ h))))))
theorem in_t7 {w : Cond} (h : w ∈ tables_1_7) : w ∈ lw_tbl := List.mem_append_right _ (List.mem_append_right _ (List.mem_append_right _ (List.mem_append_right _ (List.mem_append_right _ (List.mem_append_right _ (List.mem_append_right _ (h)))))))
theorem okX0_init : IOK mX0_init 3 := ⟨wG_in (in_t1 (List.mem_of_getElem? (i := 142) rfl)) rfl, wG_in (in_t1 (List.mem_of_getElem? (i := 141) rfl)) rfl, rfl, wG_in (in_t1 (List.mem_of_getElem? (i := 5) rfl)) rfl, ⟨by decide +kernel, by decide +kernel⟩, by decide +kernel, rfl, rfl⟩
theorem okX0_judge : VOK mX0_judge 3 := ⟨wG_in (in_t2 (List.mem_of_getElem? (i := 58) rfl)) rfl, wG_in (in_t2 (List.mem_of_getElem? (i := 56) rfl)) rfl, wG_in (in_t2 (List.mem_of_getElem? (i := 57) rfl)) rfl, wG_in (in_t1 (List.mem_of_getElem? (i := 5) rfl)) rfl, ⟨by decide +kernel, by decide +kernel⟩, by decide +kernel, rfl⟩
theorem okX0_judgeAdding : VOK mX0_judgeAdding 2 := ⟨wG_in (in_t2 (List.mem_of_getElem? (i := 62) rfl)) rfl, wG_in (in_t2 (List.mem_of_getElem? (i := 61) rfl)) rfl, wG_in (List.mem_append_left _ (List.mem_of_getElem? (i := 1) rfl)) rfl, wG_in (in_t1 (List.mem_of_getElem? (i := 5) rfl)) rfl, ⟨by decide +kernel, by decide +kernel⟩, by decide +kernel, rfl⟩
theorem okX0_judgeStrength : VOK mX0_judgeStrength 2 := ⟨wG_in (in_t2 (List.mem_of_getElem? (i := 80) rfl)) rfl, wG_in (in_t2 (List.mem_of_getElem? (i := 79) rfl)) rfl, wG_in (List.mem_append_left _ (List.mem_of_getElem? (i := 3) rfl)) rfl, wG_in (in_t1 (List.mem_of_getElem? (i := 5) rfl)) rfl, ⟨by decide +kernel, by decide +kernel⟩, by decide +kernel, rfl⟩
theorem okX0_judgeDigging : VOK mX0_judgeDigging 2 := ⟨wG_in (in_t2 (List.mem_of_getElem? (i := 88) rfl)) rfl, wG_in (in_t2 (List.mem_of_getElem? (i := 87) rfl)) rfl, wG_in (List.mem_append_left _ (List.mem_of_getElem? (i := 4) rfl)) rfl, wG_in (in_t1 (List.mem_of_getElem? (i := 5) rfl)) rfl, ⟨by decide +kernel, by decide +kernel⟩, by decide +kernel, rfl⟩
theorem okX0_judgeSettling : VOK mX0_judgeSettling 0 := ⟨wG_in (in_t2 (List.mem_of_getElem? (i := 104) rfl)) rfl, wG_in (in_t2 (List.mem_of_getElem? (i := 103) rfl)) rfl, wG_in (List.mem_append_left _ (List.mem_of_getElem? (i := 5) rfl)) rfl, wG_in (in_t1 (List.mem_of_getElem? (i := 5) rfl)) rfl, ⟨by decide +kernel, by decide +kernel⟩, by decide +kernel, rfl⟩
theorem okX0_deny : VOK mX0_deny 2 := ⟨wG_in (in_t2 (List.mem_of_getElem? (i := 72) rfl)) rfl, wG_in (in_t2 (List.mem_of_getElem? (i := 71) rfl)) rfl, wG_in (List.mem_append_left _ (List.mem_of_getElem? (i := 2) rfl)) rfl, wG_in (in_t1 (List.mem_of_getElem? (i := 5) rfl)) rfl, ⟨by decide +kernel, by decide +kernel⟩, by decide +kernel, rfl⟩
theorem okX0_carryOut : VOK mX0_carryOut 4 := ⟨wG_in (in_t3 (List.mem_of_getElem? (i := 28) rfl)) rfl, wG_in (in_t3 (List.mem_of_getElem? (i := 26) rfl)) rfl, wG_in (in_t3 (List.mem_of_getElem? (i := 27) rfl)) rfl, wG_in (in_t1 (List.mem_of_getElem? (i := 5) rfl)) rfl, ⟨by decide +kernel, by decide +kernel⟩, by decide +kernel, rfl⟩
theorem okX1_init : IOK mX1_init 0 := ⟨wG_in (in_t1 (List.mem_of_getElem? (i := 41) rfl)) rfl, wG_in (in_t1 (List.mem_of_getElem? (i := 40) rfl)) rfl, rfl, wG_in (in_t1 (List.mem_of_getElem? (i := 2) rfl)) rfl, ⟨by decide +kernel, by decide +kernel⟩, by decide +kernel, rfl, rfl⟩
theorem okX1_copyFrom : VOK mX1_copyFrom 1 := ⟨wG_in (in_t3 (List.mem_of_getElem? (i := 18) rfl)) rfl, wG_in (in_t3 (List.mem_of_getElem? (i := 16) rfl)) rfl, wG_in (in_t3 (List.mem_of_getElem? (i := 17) rfl)) rfl, wG_in (in_t1 (List.mem_of_getElem? (i := 2) rfl)) rfl, ⟨by decide +kernel, by decide +kernel⟩, by decide +kernel, rfl⟩
theorem okX1_hasMagnet : VOK mX1_hasMagnet 1 := ⟨wG_in (in_t2 (List.mem_of_getElem? (i := 84) rfl)) rfl, wG_in (in_t2 (List.mem_of_getElem? (i := 82) rfl)) rfl, wG_in (in_t2 (List.mem_of_getElem? (i := 83) rfl)) rfl, wG_in (in_t1 (List.mem_of_getElem? (i := 2) rfl)) rfl, ⟨by decide +kernel, by decide +kernel⟩, by decide +kernel, rfl⟩
theorem okX1_hasTunnel : VOK mX1_hasTunnel 1 := ⟨wG_in (in_t2 (List.mem_of_getElem? (i := 100) rfl)) rfl, wG_in (in_t2 (List.mem_of_getElem? (i := 98) rfl)) rfl, wG_in (in_t2 (List.mem_of_getElem? (i := 99) rfl)) rfl, wG_in (in_t1 (List.mem_of_getElem? (i := 2) rfl)) rfl, ⟨by decide +kernel, by decide +kernel⟩, by decide +kernel, rfl⟩
theorem okX1_magnetOn : VOK mX1_magnetOn 1 := ⟨wG_in (in_t2 (List.mem_of_getElem? (i := 76) rfl)) rfl, wG_in (in_t2 (List.mem_of_getElem? (i := 74) rfl)) rfl, wG_in (in_t2 (List.mem_of_getElem? (i := 75) rfl)) rfl, wG_in (in_t1 (List.mem_of_getElem? (i := 2) rfl)) rfl, ⟨by decide +kernel, by decide +kernel⟩, by decide +kernel, rfl⟩
theorem okX1_magnetOfRank : VOK mX1_magnetOfRank 1 := ⟨wG_in (in_t4 (List.mem_of_getElem? (i := 73) rfl)) rfl, wG_in (in_t4 (List.mem_of_getElem? (i := 71) rfl)) rfl, wG_in (in_t4 (List.mem_of_getElem? (i := 72) rfl)) rfl, wG_in (in_t1 (List.mem_of_getElem? (i := 2) rfl)) rfl, ⟨by decide +kernel, by decide +kernel⟩, by decide +kernel, rfl⟩
theorem okX1_rankOf : VOK mX1_rankOf 1 := ⟨wG_in (in_t4 (List.mem_of_getElem? (i := 77) rfl)) rfl, wG_in (in_t4 (List.mem_of_getElem? (i := 76) rfl)) rfl, wG_in (List.mem_append_left _ (List.mem_of_getElem? (i := 18) rfl)) rfl, wG_in (in_t1 (List.mem_of_getElem? (i := 2) rfl)) rfl, ⟨by decide +kernel, by decide +kernel⟩, by decide +kernel, rfl⟩
theorem okX1_poleSign : VOK mX1_poleSign 1 := ⟨wG_in (in_t4 (List.mem_of_getElem? (i := 29) rfl)) rfl, wG_in (in_t4 (List.mem_of_getElem? (i := 27) rfl)) rfl, wG_in (in_t4 (List.mem_of_getElem? (i := 28) rfl)) rfl, wG_in (in_t1 (List.mem_of_getElem? (i := 2) rfl)) rfl, ⟨by decide +kernel, by decide +kernel⟩, by decide +kernel, rfl⟩
theorem okX1_sumOfStrengths : VOK mX1_sumOfStrengths 0 := ⟨wG_in (in_t4 (List.mem_of_getElem? (i := 238) rfl)) rfl, wG_in (in_t4 (List.mem_of_getElem? (i := 236) rfl)) rfl, wG_in (in_t4 (List.mem_of_getElem? (i := 237) rfl)) rfl, wG_in (in_t1 (List.mem_of_getElem? (i := 2) rfl)) rfl, ⟨by decide +kernel, by decide +kernel⟩, by decide +kernel, rfl⟩
theorem okX1_place : VOK mX1_place 3 := ⟨wG_in (in_t3 (List.mem_of_getElem? (i := 32) rfl)) rfl, wG_in (in_t3 (List.mem_of_getElem? (i := 30) rfl)) rfl, wG_in (in_t3 (List.mem_of_getElem? (i := 31) rfl)) rfl, wG_in (in_t1 (List.mem_of_getElem? (i := 2) rfl)) rfl, ⟨by decide +kernel, by decide +kernel⟩, by decide +kernel, rfl⟩
theorem okX1_strengthen : VOK mX1_strengthen 2 := ⟨wG_in (in_t3 (List.mem_of_getElem? (i := 36) rfl)) rfl, wG_in (in_t3 (List.mem_of_getElem? (i := 34) rfl)) rfl, wG_in (in_t3 (List.mem_of_getElem? (i := 35) rfl)) rfl, wG_in (in_t1 (List.mem_of_getElem? (i := 2) rfl)) rfl, ⟨by decide +kernel, by decide +kernel⟩, by decide +kernel, rfl⟩
theorem okX1_turnFrom : VOK mX1_turnFrom 1 := ⟨wG_in (in_t3 (List.mem_of_getElem? (i := 46) rfl)) rfl, wG_in (in_t3 (List.mem_of_getElem? (i := 44) rfl)) rfl, wG_in (in_t3 (List.mem_of_getElem? (i := 45) rfl)) rfl, wG_in (in_t1 (List.mem_of_getElem? (i := 2) rfl)) rfl, ⟨by decide +kernel, by decide +kernel⟩, by decide +kernel, rfl⟩
theorem okX1_turnSet : VOK mX1_turnSet 1 := ⟨wG_in (in_t3 (List.mem_of_getElem? (i := 40) rfl)) rfl, wG_in (in_t3 (List.mem_of_getElem? (i := 38) rfl)) rfl, wG_in (in_t3 (List.mem_of_getElem? (i := 39) rfl)) rfl, wG_in (in_t1 (List.mem_of_getElem? (i := 2) rfl)) rfl, ⟨by decide +kernel, by decide +kernel⟩, by decide +kernel, rfl⟩
theorem okX1_tunnelBetween : VOK mX1_tunnelBetween 2 := ⟨wG_in (in_t2 (List.mem_of_getElem? (i := 92) rfl)) rfl, wG_in (in_t2 (List.mem_of_getElem? (i := 90) rfl)) rfl, wG_in (in_t2 (List.mem_of_getElem? (i := 91) rfl)) rfl, wG_in (in_t1 (List.mem_of_getElem? (i := 2) rfl)) rfl, ⟨by decide +kernel, by decide +kernel⟩, by decide +kernel, rfl⟩
theorem okX1_otherEnd : VOK mX1_otherEnd 2 := ⟨wG_in (in_t2 (List.mem_of_getElem? (i := 96) rfl)) rfl, wG_in (in_t2 (List.mem_of_getElem? (i := 94) rfl)) rfl, wG_in (in_t2 (List.mem_of_getElem? (i := 95) rfl)) rfl, wG_in (in_t1 (List.mem_of_getElem? (i := 2) rfl)) rfl, ⟨by decide +kernel, by decide +kernel⟩, by decide +kernel, rfl⟩
theorem okX1_hasUnlikePoles : VOK mX1_hasUnlikePoles 1 := ⟨wG_in (in_t4 (List.mem_of_getElem? (i := 115) rfl)) rfl, wG_in (in_t4 (List.mem_of_getElem? (i := 113) rfl)) rfl, wG_in (in_t4 (List.mem_of_getElem? (i := 114) rfl)) rfl, wG_in (in_t1 (List.mem_of_getElem? (i := 2) rfl)) rfl, ⟨by decide +kernel, by decide +kernel⟩, by decide +kernel, rfl⟩
theorem okX1_isBlockedWith : VOK mX1_isBlockedWith 2 := ⟨wG_in (in_t2 (List.mem_of_getElem? (i := 116) rfl)) rfl, wG_in (in_t2 (List.mem_of_getElem? (i := 114) rfl)) rfl, wG_in (in_t2 (List.mem_of_getElem? (i := 115) rfl)) rfl, wG_in (in_t1 (List.mem_of_getElem? (i := 2) rfl)) rfl, ⟨by decide +kernel, by decide +kernel⟩, by decide +kernel, rfl⟩
theorem okX1_countBlocked : VOK mX1_countBlocked 0 := ⟨wG_in (in_t2 (List.mem_of_getElem? (i := 108) rfl)) rfl, wG_in (in_t2 (List.mem_of_getElem? (i := 106) rfl)) rfl, wG_in (in_t2 (List.mem_of_getElem? (i := 107) rfl)) rfl, wG_in (in_t1 (List.mem_of_getElem? (i := 2) rfl)) rfl, ⟨by decide +kernel, by decide +kernel⟩, by decide +kernel, rfl⟩
theorem okX1_countBlockedWith : VOK mX1_countBlockedWith 1 := ⟨wG_in (in_t2 (List.mem_of_getElem? (i := 112) rfl)) rfl, wG_in (in_t2 (List.mem_of_getElem? (i := 110) rfl)) rfl, wG_in (in_t2 (List.mem_of_getElem? (i := 111) rfl)) rfl, wG_in (in_t1 (List.mem_of_getElem? (i := 2) rfl)) rfl, ⟨by decide +kernel, by decide +kernel⟩, by decide +kernel, rfl⟩
theorem okX1_join : VOK mX1_join 2 := ⟨wG_in (in_t3 (List.mem_of_getElem? (i := 66) rfl)) rfl, wG_in (in_t3 (List.mem_of_getElem? (i := 64) rfl)) rfl, wG_in (in_t3 (List.mem_of_getElem? (i := 65) rfl)) rfl, wG_in (in_t1 (List.mem_of_getElem? (i := 2) rfl)) rfl, ⟨by decide +kernel, by decide +kernel⟩, by decide +kernel, rfl⟩
theorem okX1_remove : VOK mX1_remove 1 := ⟨wG_in (in_t3 (List.mem_of_getElem? (i := 70) rfl)) rfl, wG_in (in_t3 (List.mem_of_getElem? (i := 68) rfl)) rfl, wG_in (in_t3 (List.mem_of_getElem? (i := 69) rfl)) rfl, wG_in (in_t1 (List.mem_of_getElem? (i := 2) rfl)) rfl, ⟨by decide +kernel, by decide +kernel⟩, by decide +kernel, rfl⟩
theorem okX2_init : IOK mX2_init 0 := ⟨wG_in (in_t1 (List.mem_of_getElem? (i := 189) rfl)) rfl, wG_in (in_t1 (List.mem_of_getElem? (i := 188) rfl)) rfl, rfl, wG_in (in_t1 (List.mem_of_getElem? (i := 8) rfl)) rfl, ⟨by decide +kernel, by decide +kernel⟩, by decide +kernel, rfl, rfl⟩
theorem okX2_setParameter : VOK mX2_setParameter 2 := ⟨wG_in (in_t5 (List.mem_of_getElem? (i := 146) rfl)) rfl, wG_in (in_t5 (List.mem_of_getElem? (i := 144) rfl)) rfl, wG_in (in_t5 (List.mem_of_getElem? (i := 145) rfl)) rfl, wG_in (in_t1 (List.mem_of_getElem? (i := 8) rfl)) rfl, ⟨by decide +kernel, by decide +kernel⟩, by decide +kernel, rfl⟩
theorem okX3_init : IOK mX3_init 1 := ⟨wG_in (in_t1 (List.mem_of_getElem? (i := 132) rfl)) rfl, wG_in (in_t1 (List.mem_of_getElem? (i := 131) rfl)) rfl, rfl, wG_in (in_t1 (List.mem_of_getElem? (i := 4) rfl)) rfl, ⟨by decide +kernel, by decide +kernel⟩, by decide +kernel, rfl, rfl⟩
theorem okX3_forceOn : VOK mX3_forceOn 1 := ⟨wG_in (in_t3 (List.mem_of_getElem? (i := 59) rfl)) rfl, wG_in (in_t3 (List.mem_of_getElem? (i := 57) rfl)) rfl, wG_in (in_t3 (List.mem_of_getElem? (i := 58) rfl)) rfl, wG_in (in_t1 (List.mem_of_getElem? (i := 4) rfl)) rfl, ⟨by decide +kernel, by decide +kernel⟩, by decide +kernel, rfl⟩
theorem okX3_moveEach : VOK mX3_moveEach 0 := ⟨wG_in (in_t3 (List.mem_of_getElem? (i := 51) rfl)) rfl, wG_in (in_t3 (List.mem_of_getElem? (i := 49) rfl)) rfl, wG_in (in_t3 (List.mem_of_getElem? (i := 50) rfl)) rfl, wG_in (in_t1 (List.mem_of_getElem? (i := 4) rfl)) rfl, ⟨by decide +kernel, by decide +kernel⟩, by decide +kernel, rfl⟩
theorem okX3_targetOf : VOK mX3_targetOf 1 := ⟨wG_in (in_t3 (List.mem_of_getElem? (i := 55) rfl)) rfl, wG_in (in_t3 (List.mem_of_getElem? (i := 54) rfl)) rfl, wG_in (List.mem_append_left _ (List.mem_of_getElem? (i := 11) rfl)) rfl, wG_in (in_t1 (List.mem_of_getElem? (i := 4) rfl)) rfl, ⟨by decide +kernel, by decide +kernel⟩, by decide +kernel, rfl⟩
theorem okX3_fieldAt : VOK mX3_fieldAt 1 := ⟨wG_in (in_t4 (List.mem_of_getElem? (i := 180) rfl)) rfl, wG_in (in_t4 (List.mem_of_getElem? (i := 178) rfl)) rfl, wG_in (in_t4 (List.mem_of_getElem? (i := 179) rfl)) rfl, wG_in (in_t1 (List.mem_of_getElem? (i := 4) rfl)) rfl, ⟨by decide +kernel, by decide +kernel⟩, by decide +kernel, rfl⟩
theorem okX3_unsignedFieldAt : VOK mX3_unsignedFieldAt 1 := ⟨wG_in (in_t4 (List.mem_of_getElem? (i := 198) rfl)) rfl, wG_in (in_t4 (List.mem_of_getElem? (i := 197) rfl)) rfl, wG_in (List.mem_append_left _ (List.mem_of_getElem? (i := 21) rfl)) rfl, wG_in (in_t1 (List.mem_of_getElem? (i := 4) rfl)) rfl, ⟨by decide +kernel, by decide +kernel⟩, by decide +kernel, rfl⟩
theorem okX3_positionOfStrongestField : VOK mX3_positionOfStrongestField 0 := ⟨wG_in (in_t4 (List.mem_of_getElem? (i := 194) rfl)) rfl, wG_in (in_t4 (List.mem_of_getElem? (i := 192) rfl)) rfl, wG_in (in_t4 (List.mem_of_getElem? (i := 193) rfl)) rfl, wG_in (in_t1 (List.mem_of_getElem? (i := 4) rfl)) rfl, ⟨by decide +kernel, by decide +kernel⟩, by decide +kernel, rfl⟩
theorem okX3_magnetInStrongestField : VOK mX3_magnetInStrongestField 0 := ⟨wG_in (in_t4 (List.mem_of_getElem? (i := 210) rfl)) rfl, wG_in (in_t4 (List.mem_of_getElem? (i := 208) rfl)) rfl, wG_in (in_t4 (List.mem_of_getElem? (i := 209) rfl)) rfl, wG_in (in_t1 (List.mem_of_getElem? (i := 4) rfl)) rfl, ⟨by decide +kernel, by decide +kernel⟩, by decide +kernel, rfl⟩
theorem okX4_init : IOK mX4_init 0 := ⟨wG_in (in_t1 (List.mem_of_getElem? (i := 162) rfl)) rfl, wG_in (in_t1 (List.mem_of_getElem? (i := 161) rfl)) rfl, rfl, wG_in (in_t1 (List.mem_of_getElem? (i := 6) rfl)) rfl, ⟨by decide +kernel, by decide +kernel⟩, by decide +kernel, rfl, rfl⟩
theorem okX4_push : VOK mX4_push 1 := ⟨wG_in (in_t3 (List.mem_of_getElem? (i := 14) rfl)) rfl, wG_in (in_t3 (List.mem_of_getElem? (i := 12) rfl)) rfl, wG_in (in_t3 (List.mem_of_getElem? (i := 13) rfl)) rfl, wG_in (in_t1 (List.mem_of_getElem? (i := 6) rfl)) rfl, ⟨by decide +kernel, by decide +kernel⟩, by decide +kernel, rfl⟩
theorem okX4_popInto : VOK mX4_popInto 1 := ⟨wG_in (in_t5 (List.mem_of_getElem? (i := 231) rfl)) rfl, wG_in (in_t5 (List.mem_of_getElem? (i := 229) rfl)) rfl, wG_in (in_t5 (List.mem_of_getElem? (i := 230) rfl)) rfl, wG_in (in_t1 (List.mem_of_getElem? (i := 6) rfl)) rfl, ⟨by decide +kernel, by decide +kernel⟩, by decide +kernel, rfl⟩
theorem okX4_forgetAll : VOK mX4_forgetAll 0 := ⟨wG_in (in_t6 (List.mem_of_getElem? (i := 3) rfl)) rfl, wG_in (in_t6 (List.mem_of_getElem? (i := 1) rfl)) rfl, wG_in (in_t6 (List.mem_of_getElem? (i := 2) rfl)) rfl, wG_in (in_t1 (List.mem_of_getElem? (i := 6) rfl)) rfl, ⟨by decide +kernel, by decide +kernel⟩, by decide +kernel, rfl⟩
theorem okX5_init : IOK mX5_init 0 := ⟨wG_in (in_t1 (List.mem_of_getElem? (i := 233) rfl)) rfl, wG_in (in_t1 (List.mem_of_getElem? (i := 232) rfl)) rfl, rfl, wG_in (in_t1 (List.mem_of_getElem? (i := 9) rfl)) rfl, ⟨by decide +kernel, by decide +kernel⟩, by decide +kernel, rfl, rfl⟩
theorem okX5_describe : VOK mX5_describe 2 := ⟨wG_in (in_t5 (List.mem_of_getElem? (i := 173) rfl)) rfl, wG_in (in_t5 (List.mem_of_getElem? (i := 171) rfl)) rfl, wG_in (in_t5 (List.mem_of_getElem? (i := 172) rfl)) rfl, wG_in (in_t1 (List.mem_of_getElem? (i := 9) rfl)) rfl, ⟨by decide +kernel, by decide +kernel⟩, by decide +kernel, rfl⟩
theorem okX5_putNumber : VOK mX5_putNumber 1 := ⟨wG_in (in_t5 (List.mem_of_getElem? (i := 177) rfl)) rfl, wG_in (in_t5 (List.mem_of_getElem? (i := 176) rfl)) rfl, wG_in (List.mem_append_left _ (List.mem_of_getElem? (i := 28) rfl)) rfl, wG_in (in_t1 (List.mem_of_getElem? (i := 9) rfl)) rfl, ⟨by decide +kernel, by decide +kernel⟩, by decide +kernel, rfl⟩
theorem okX5_put : VOK mX5_put 1 := ⟨wG_in (in_t5 (List.mem_of_getElem? (i := 181) rfl)) rfl, wG_in (in_t5 (List.mem_of_getElem? (i := 180) rfl)) rfl, wG_in (List.mem_append_left _ (List.mem_of_getElem? (i := 29) rfl)) rfl, wG_in (in_t1 (List.mem_of_getElem? (i := 9) rfl)) rfl, ⟨by decide +kernel, by decide +kernel⟩, by decide +kernel, rfl⟩
theorem okX6_init : IOK mX6_init 1 := ⟨wG_in (in_t1 (List.mem_of_getElem? (i := 101) rfl)) rfl, wG_in (in_t1 (List.mem_of_getElem? (i := 100) rfl)) rfl, rfl, wG_in (in_t1 (List.mem_of_getElem? (i := 3) rfl)) rfl, ⟨by decide +kernel, by decide +kernel⟩, by decide +kernel, rfl, rfl⟩
theorem okX6_countParts : VOK mX6_countParts 1 := ⟨wG_in (in_t3 (List.mem_of_getElem? (i := 91) rfl)) rfl, wG_in (in_t3 (List.mem_of_getElem? (i := 89) rfl)) rfl, wG_in (in_t3 (List.mem_of_getElem? (i := 90) rfl)) rfl, wG_in (in_t1 (List.mem_of_getElem? (i := 3) rfl)) rfl, ⟨by decide +kernel, by decide +kernel⟩, by decide +kernel, rfl⟩
theorem okX6_separateLabels : VOK mX6_separateLabels 0 := ⟨wG_in (in_t3 (List.mem_of_getElem? (i := 95) rfl)) rfl, wG_in (in_t3 (List.mem_of_getElem? (i := 94) rfl)) rfl, wG_in (List.mem_append_left _ (List.mem_of_getElem? (i := 12) rfl)) rfl, wG_in (in_t1 (List.mem_of_getElem? (i := 3) rfl)) rfl, ⟨by decide +kernel, by decide +kernel⟩, by decide +kernel, rfl⟩
theorem okX6_unite : VOK mX6_unite 2 := ⟨wG_in (in_t3 (List.mem_of_getElem? (i := 99) rfl)) rfl, wG_in (in_t3 (List.mem_of_getElem? (i := 98) rfl)) rfl, wG_in (List.mem_append_left _ (List.mem_of_getElem? (i := 13) rfl)) rfl, wG_in (in_t1 (List.mem_of_getElem? (i := 3) rfl)) rfl, ⟨by decide +kernel, by decide +kernel⟩, by decide +kernel, rfl⟩
theorem okX6_shortestWalk : VOK mX6_shortestWalk 2 := ⟨wG_in (in_t4 (List.mem_of_getElem? (i := 126) rfl)) rfl, wG_in (in_t4 (List.mem_of_getElem? (i := 124) rfl)) rfl, wG_in (in_t4 (List.mem_of_getElem? (i := 125) rfl)) rfl, wG_in (in_t1 (List.mem_of_getElem? (i := 3) rfl)) rfl, ⟨by decide +kernel, by decide +kernel⟩, by decide +kernel, rfl⟩
theorem okX6_walkOn : VOK mX6_walkOn 3 := ⟨wG_in (in_t4 (List.mem_of_getElem? (i := 131) rfl)) rfl, wG_in (in_t4 (List.mem_of_getElem? (i := 130) rfl)) rfl, wG_in (List.mem_append_left _ (List.mem_of_getElem? (i := 20) rfl)) rfl, wG_in (in_t1 (List.mem_of_getElem? (i := 3) rfl)) rfl, ⟨by decide +kernel, by decide +kernel⟩, by decide +kernel, rfl⟩
theorem okX6_countBridges : VOK mX6_countBridges 0 := ⟨wG_in (in_t3 (List.mem_of_getElem? (i := 107) rfl)) rfl, wG_in (in_t3 (List.mem_of_getElem? (i := 105) rfl)) rfl, wG_in (in_t3 (List.mem_of_getElem? (i := 106) rfl)) rfl, wG_in (in_t1 (List.mem_of_getElem? (i := 3) rfl)) rfl, ⟨by decide +kernel, by decide +kernel⟩, by decide +kernel, rfl⟩
theorem okX6_explore : SOK mX6_explore 4 := ⟨wG_in (in_t3 (List.mem_of_getElem? (i := 113) rfl)) rfl, wG_in (in_t3 (List.mem_of_getElem? (i := 112) rfl)) rfl, wG_in (in_t1 (List.mem_of_getElem? (i := 3) rfl)) rfl, ⟨by decide +kernel, by decide +kernel⟩, by decide +kernel⟩
theorem okX6_numberMagnet : VOK mX6_numberMagnet 1 := ⟨wG_in (in_t3 (List.mem_of_getElem? (i := 117) rfl)) rfl, wG_in (in_t3 (List.mem_of_getElem? (i := 116) rfl)) rfl, wG_in (List.mem_append_left _ (List.mem_of_getElem? (i := 14) rfl)) rfl, wG_in (in_t1 (List.mem_of_getElem? (i := 3) rfl)) rfl, ⟨by decide +kernel, by decide +kernel⟩, by decide +kernel, rfl⟩
theorem okX6_reachNumber : VOK mX6_reachNumber 2 := ⟨wG_in (in_t3 (List.mem_of_getElem? (i := 122) rfl)) rfl, wG_in (in_t3 (List.mem_of_getElem? (i := 121) rfl)) rfl, wG_in (List.mem_append_left _ (List.mem_of_getElem? (i := 15) rfl)) rfl, wG_in (in_t1 (List.mem_of_getElem? (i := 3) rfl)) rfl, ⟨by decide +kernel, by decide +kernel⟩, by decide +kernel, rfl⟩
theorem okX6_countBridgesByFilling : VOK mX6_countBridgesByFilling 0 := ⟨wG_in (in_t3 (List.mem_of_getElem? (i := 131) rfl)) rfl, wG_in (in_t3 (List.mem_of_getElem? (i := 129) rfl)) rfl, wG_in (in_t3 (List.mem_of_getElem? (i := 130) rfl)) rfl, wG_in (in_t1 (List.mem_of_getElem? (i := 3) rfl)) rfl, ⟨by decide +kernel, by decide +kernel⟩, by decide +kernel, rfl⟩
theorem okX6_canUniteCounterparts : VOK mX6_canUniteCounterparts 0 := ⟨wG_in (in_t3 (List.mem_of_getElem? (i := 145) rfl)) rfl, wG_in (in_t3 (List.mem_of_getElem? (i := 143) rfl)) rfl, wG_in (in_t3 (List.mem_of_getElem? (i := 144) rfl)) rfl, wG_in (in_t1 (List.mem_of_getElem? (i := 3) rfl)) rfl, ⟨by decide +kernel, by decide +kernel⟩, by decide +kernel, rfl⟩
theorem okX6_bestTurnSet : VOK mX6_bestTurnSet 0 := ⟨wG_in (in_t2 (List.mem_of_getElem? (i := 120) rfl)) rfl, wG_in (in_t2 (List.mem_of_getElem? (i := 118) rfl)) rfl, wG_in (in_t2 (List.mem_of_getElem? (i := 119) rfl)) rfl, wG_in (in_t1 (List.mem_of_getElem? (i := 3) rfl)) rfl, ⟨by decide +kernel, by decide +kernel⟩, by decide +kernel, rfl⟩
theorem okX6_givePolesFrom : VOK mX6_givePolesFrom 1 := ⟨wG_in (in_t2 (List.mem_of_getElem? (i := 127) rfl)) rfl, wG_in (in_t2 (List.mem_of_getElem? (i := 126) rfl)) rfl, wG_in (List.mem_append_left _ (List.mem_of_getElem? (i := 6) rfl)) rfl, wG_in (in_t1 (List.mem_of_getElem? (i := 3) rfl)) rfl, ⟨by decide +kernel, by decide +kernel⟩, by decide +kernel, rfl⟩
theorem okX6_bestTurnSetOf : VOK mX6_bestTurnSetOf 2 := ⟨wG_in (in_t2 (List.mem_of_getElem? (i := 131) rfl)) rfl, wG_in (in_t2 (List.mem_of_getElem? (i := 130) rfl)) rfl, wG_in (List.mem_append_left _ (List.mem_of_getElem? (i := 7) rfl)) rfl, wG_in (in_t1 (List.mem_of_getElem? (i := 3) rfl)) rfl, ⟨by decide +kernel, by decide +kernel⟩, by decide +kernel, rfl⟩
theorem okX6_bestTurnSetSize : VOK mX6_bestTurnSetSize 0 := ⟨wG_in (in_t4 (List.mem_of_getElem? (i := 142) rfl)) rfl, wG_in (in_t4 (List.mem_of_getElem? (i := 140) rfl)) rfl, wG_in (in_t4 (List.mem_of_getElem? (i := 141) rfl)) rfl, wG_in (in_t1 (List.mem_of_getElem? (i := 3) rfl)) rfl, ⟨by decide +kernel, by decide +kernel⟩, by decide +kernel, rfl⟩
theorem okX6_smallestSettlingSet : VOK mX6_smallestSettlingSet 0 := ⟨wG_in (in_t4 (List.mem_of_getElem? (i := 154) rfl)) rfl, wG_in (in_t4 (List.mem_of_getElem? (i := 152) rfl)) rfl, wG_in (in_t4 (List.mem_of_getElem? (i := 153) rfl)) rfl, wG_in (in_t1 (List.mem_of_getElem? (i := 3) rfl)) rfl, ⟨by decide +kernel, by decide +kernel⟩, by decide +kernel, rfl⟩
theorem okX6_leastBlockedOfSets : VOK mX6_leastBlockedOfSets 0 := ⟨wG_in (in_t3 (List.mem_of_getElem? (i := 153) rfl)) rfl, wG_in (in_t3 (List.mem_of_getElem? (i := 151) rfl)) rfl, wG_in (in_t3 (List.mem_of_getElem? (i := 152) rfl)) rfl, wG_in (in_t1 (List.mem_of_getElem? (i := 3) rfl)) rfl, ⟨by decide +kernel, by decide +kernel⟩, by decide +kernel, rfl⟩
theorem okX6_leastBlockedWithinBounds : VOK mX6_leastBlockedWithinBounds 0 := ⟨wG_in (in_t3 (List.mem_of_getElem? (i := 161) rfl)) rfl, wG_in (in_t3 (List.mem_of_getElem? (i := 159) rfl)) rfl, wG_in (in_t3 (List.mem_of_getElem? (i := 160) rfl)) rfl, wG_in (in_t1 (List.mem_of_getElem? (i := 3) rfl)) rfl, ⟨by decide +kernel, by decide +kernel⟩, by decide +kernel, rfl⟩
theorem okX6_bound : SOK mX6_bound 5 := ⟨wG_in (in_t3 (List.mem_of_getElem? (i := 165) rfl)) rfl, wG_in (in_t3 (List.mem_of_getElem? (i := 164) rfl)) rfl, wG_in (in_t1 (List.mem_of_getElem? (i := 3) rfl)) rfl, ⟨by decide +kernel, by decide +kernel⟩, by decide +kernel⟩
theorem okX6_blockedToEarlier : VOK mX6_blockedToEarlier 2 := ⟨wG_in (in_t3 (List.mem_of_getElem? (i := 169) rfl)) rfl, wG_in (in_t3 (List.mem_of_getElem? (i := 168) rfl)) rfl, wG_in (List.mem_append_left _ (List.mem_of_getElem? (i := 16) rfl)) rfl, wG_in (in_t1 (List.mem_of_getElem? (i := 3) rfl)) rfl, ⟨by decide +kernel, by decide +kernel⟩, by decide +kernel, rfl⟩
theorem okX7_init : IOK mX7_init 0 := ⟨wG_in (in_t1 (List.mem_of_getElem? (i := 182) rfl)) rfl, wG_in (in_t1 (List.mem_of_getElem? (i := 181) rfl)) rfl, rfl, wG_in (in_t1 (List.mem_of_getElem? (i := 7) rfl)) rfl, ⟨by decide +kernel, by decide +kernel⟩, by decide +kernel, rfl, rfl⟩
theorem okX7_hasRoom : VOK mX7_hasRoom 0 := ⟨wG_in (in_t5 (List.mem_of_getElem? (i := 25) rfl)) rfl, wG_in (in_t5 (List.mem_of_getElem? (i := 23) rfl)) rfl, wG_in (in_t5 (List.mem_of_getElem? (i := 24) rfl)) rfl, wG_in (in_t1 (List.mem_of_getElem? (i := 7) rfl)) rfl, ⟨by decide +kernel, by decide +kernel⟩, by decide +kernel, rfl⟩
theorem okX7_append : VOK mX7_append 1 := ⟨wG_in (in_t5 (List.mem_of_getElem? (i := 45) rfl)) rfl, wG_in (in_t5 (List.mem_of_getElem? (i := 43) rfl)) rfl, wG_in (in_t5 (List.mem_of_getElem? (i := 44) rfl)) rfl, wG_in (in_t1 (List.mem_of_getElem? (i := 7) rfl)) rfl, ⟨by decide +kernel, by decide +kernel⟩, by decide +kernel, rfl⟩
theorem okX7_clear : VOK mX7_clear 0 := ⟨wG_in (in_t5 (List.mem_of_getElem? (i := 150) rfl)) rfl, wG_in (in_t5 (List.mem_of_getElem? (i := 148) rfl)) rfl, wG_in (in_t5 (List.mem_of_getElem? (i := 149) rfl)) rfl, wG_in (in_t1 (List.mem_of_getElem? (i := 7) rfl)) rfl, ⟨by decide +kernel, by decide +kernel⟩, by decide +kernel, rfl⟩
theorem okX7_parse : VOK mX7_parse 0 := ⟨wG_in (in_t5 (List.mem_of_getElem? (i := 56) rfl)) rfl, wG_in (in_t5 (List.mem_of_getElem? (i := 54) rfl)) rfl, wG_in (in_t5 (List.mem_of_getElem? (i := 55) rfl)) rfl, wG_in (in_t1 (List.mem_of_getElem? (i := 7) rfl)) rfl, ⟨by decide +kernel, by decide +kernel⟩, by decide +kernel, rfl⟩
theorem okX7_parseCommand : VOK mX7_parseCommand 2 := ⟨wG_in (in_t5 (List.mem_of_getElem? (i := 60) rfl)) rfl, wG_in (in_t5 (List.mem_of_getElem? (i := 59) rfl)) rfl, wG_in (List.mem_append_left _ (List.mem_of_getElem? (i := 22) rfl)) rfl, wG_in (in_t1 (List.mem_of_getElem? (i := 7) rfl)) rfl, ⟨by decide +kernel, by decide +kernel⟩, by decide +kernel, rfl⟩
theorem okX7_shapeOf : SOK mX7_shapeOf 1 := ⟨wG_in (in_t5 (List.mem_of_getElem? (i := 67) rfl)) rfl, wG_in (in_t5 (List.mem_of_getElem? (i := 66) rfl)) rfl, wG_in (in_t1 (List.mem_of_getElem? (i := 7) rfl)) rfl, ⟨by decide +kernel, by decide +kernel⟩, by decide +kernel⟩
theorem okX7_matchKind : VOK mX7_matchKind 3 := ⟨wG_in (in_t5 (List.mem_of_getElem? (i := 64) rfl)) rfl, wG_in (in_t5 (List.mem_of_getElem? (i := 63) rfl)) rfl, wG_in (List.mem_append_left _ (List.mem_of_getElem? (i := 23) rfl)) rfl, wG_in (in_t1 (List.mem_of_getElem? (i := 7) rfl)) rfl, ⟨by decide +kernel, by decide +kernel⟩, by decide +kernel, rfl⟩
theorem okX7_widthOf : VOK mX7_widthOf 2 := ⟨wG_in (in_t5 (List.mem_of_getElem? (i := 127) rfl)) rfl, wG_in (in_t5 (List.mem_of_getElem? (i := 126) rfl)) rfl, wG_in (List.mem_append_left _ (List.mem_of_getElem? (i := 24) rfl)) rfl, wG_in (in_t1 (List.mem_of_getElem? (i := 7) rfl)) rfl, ⟨by decide +kernel, by decide +kernel⟩, by decide +kernel, rfl⟩
theorem okX7_isDigitAt : VOK mX7_isDigitAt 1 := ⟨wG_in (in_t5 (List.mem_of_getElem? (i := 131) rfl)) rfl, wG_in (in_t5 (List.mem_of_getElem? (i := 130) rfl)) rfl, wG_in (List.mem_append_left _ (List.mem_of_getElem? (i := 25) rfl)) rfl, wG_in (in_t1 (List.mem_of_getElem? (i := 7) rfl)) rfl, ⟨by decide +kernel, by decide +kernel⟩, by decide +kernel, rfl⟩
theorem okX7_hasAt : VOK mX7_hasAt 2 := ⟨wG_in (in_t5 (List.mem_of_getElem? (i := 135) rfl)) rfl, wG_in (in_t5 (List.mem_of_getElem? (i := 134) rfl)) rfl, wG_in (List.mem_append_left _ (List.mem_of_getElem? (i := 26) rfl)) rfl, wG_in (in_t1 (List.mem_of_getElem? (i := 7) rfl)) rfl, ⟨by decide +kernel, by decide +kernel⟩, by decide +kernel, rfl⟩
theorem okX7_valueOf : VOK mX7_valueOf 3 := ⟨wG_in (in_t5 (List.mem_of_getElem? (i := 142) rfl)) rfl, wG_in (in_t5 (List.mem_of_getElem? (i := 141) rfl)) rfl, wG_in (List.mem_append_left _ (List.mem_of_getElem? (i := 27) rfl)) rfl, wG_in (in_t1 (List.mem_of_getElem? (i := 7) rfl)) rfl, ⟨by decide +kernel, by decide +kernel⟩, by decide +kernel, rfl⟩
theorem okX8_init : IOK mX8_init 0 := ⟨wG_in (in_t1 (List.mem_of_getElem? (i := 33) rfl)) rfl, wG_in (in_t1 (List.mem_of_getElem? (i := 32) rfl)) rfl, rfl, wG_in (in_t1 (List.mem_of_getElem? (i := 1) rfl)) rfl, ⟨by decide +kernel, by decide +kernel⟩, by decide +kernel, rfl, rfl⟩
theorem okX8_addMagnet : VOK mX8_addMagnet 3 := ⟨wG_in (in_t3 (List.mem_of_getElem? (i := 196) rfl)) rfl, wG_in (in_t3 (List.mem_of_getElem? (i := 194) rfl)) rfl, wG_in (in_t3 (List.mem_of_getElem? (i := 195) rfl)) rfl, wG_in (in_t1 (List.mem_of_getElem? (i := 1) rfl)) rfl, ⟨by decide +kernel, by decide +kernel⟩, by decide +kernel, rfl⟩
theorem okX8_setStrength : VOK mX8_setStrength 2 := ⟨wG_in (in_t3 (List.mem_of_getElem? (i := 224) rfl)) rfl, wG_in (in_t3 (List.mem_of_getElem? (i := 222) rfl)) rfl, wG_in (in_t3 (List.mem_of_getElem? (i := 223) rfl)) rfl, wG_in (in_t1 (List.mem_of_getElem? (i := 1) rfl)) rfl, ⟨by decide +kernel, by decide +kernel⟩, by decide +kernel, rfl⟩
theorem okX8_turn : VOK mX8_turn 1 := ⟨wG_in (in_t3 (List.mem_of_getElem? (i := 231) rfl)) rfl, wG_in (in_t3 (List.mem_of_getElem? (i := 229) rfl)) rfl, wG_in (in_t3 (List.mem_of_getElem? (i := 230) rfl)) rfl, wG_in (in_t1 (List.mem_of_getElem? (i := 1) rfl)) rfl, ⟨by decide +kernel, by decide +kernel⟩, by decide +kernel, rfl⟩
theorem okX8_shift : VOK mX8_shift 1 := ⟨wG_in (in_t3 (List.mem_of_getElem? (i := 238) rfl)) rfl, wG_in (in_t3 (List.mem_of_getElem? (i := 236) rfl)) rfl, wG_in (in_t3 (List.mem_of_getElem? (i := 237) rfl)) rfl, wG_in (in_t1 (List.mem_of_getElem? (i := 1) rfl)) rfl, ⟨by decide +kernel, by decide +kernel⟩, by decide +kernel, rfl⟩
theorem okX8_move : VOK mX8_move 0 := ⟨wG_in (in_t2 (List.mem_of_getElem? (i := 50) rfl)) rfl, wG_in (in_t2 (List.mem_of_getElem? (i := 48) rfl)) rfl, wG_in (in_t2 (List.mem_of_getElem? (i := 49) rfl)) rfl, wG_in (in_t1 (List.mem_of_getElem? (i := 1) rfl)) rfl, ⟨by decide +kernel, by decide +kernel⟩, by decide +kernel, rfl⟩
theorem okX8_magnetCount : VOK mX8_magnetCount 0 := ⟨wG_in (in_t3 (List.mem_of_getElem? (i := 74) rfl)) rfl, wG_in (in_t3 (List.mem_of_getElem? (i := 72) rfl)) rfl, wG_in (in_t3 (List.mem_of_getElem? (i := 73) rfl)) rfl, wG_in (in_t1 (List.mem_of_getElem? (i := 1) rfl)) rfl, ⟨by decide +kernel, by decide +kernel⟩, by decide +kernel, rfl⟩
theorem okX8_position : VOK mX8_position 1 := ⟨wG_in (in_t4 (List.mem_of_getElem? (i := 5) rfl)) rfl, wG_in (in_t4 (List.mem_of_getElem? (i := 3) rfl)) rfl, wG_in (in_t4 (List.mem_of_getElem? (i := 4) rfl)) rfl, wG_in (in_t1 (List.mem_of_getElem? (i := 1) rfl)) rfl, ⟨by decide +kernel, by decide +kernel⟩, by decide +kernel, rfl⟩
theorem okX8_strength : VOK mX8_strength 1 := ⟨wG_in (in_t4 (List.mem_of_getElem? (i := 18) rfl)) rfl, wG_in (in_t4 (List.mem_of_getElem? (i := 16) rfl)) rfl, wG_in (in_t4 (List.mem_of_getElem? (i := 17) rfl)) rfl, wG_in (in_t1 (List.mem_of_getElem? (i := 1) rfl)) rfl, ⟨by decide +kernel, by decide +kernel⟩, by decide +kernel, rfl⟩
theorem okX8_pole : VOK mX8_pole 1 := ⟨wG_in (in_t4 (List.mem_of_getElem? (i := 25) rfl)) rfl, wG_in (in_t4 (List.mem_of_getElem? (i := 23) rfl)) rfl, wG_in (in_t4 (List.mem_of_getElem? (i := 24) rfl)) rfl, wG_in (in_t1 (List.mem_of_getElem? (i := 1) rfl)) rfl, ⟨by decide +kernel, by decide +kernel⟩, by decide +kernel, rfl⟩
theorem okX8_magnetAt : VOK mX8_magnetAt 1 := ⟨wG_in (in_t4 (List.mem_of_getElem? (i := 37) rfl)) rfl, wG_in (in_t4 (List.mem_of_getElem? (i := 35) rfl)) rfl, wG_in (in_t4 (List.mem_of_getElem? (i := 36) rfl)) rfl, wG_in (in_t1 (List.mem_of_getElem? (i := 1) rfl)) rfl, ⟨by decide +kernel, by decide +kernel⟩, by decide +kernel, rfl⟩
theorem okX8_magnetByStrength : VOK mX8_magnetByStrength 1 := ⟨wG_in (in_t4 (List.mem_of_getElem? (i := 69) rfl)) rfl, wG_in (in_t4 (List.mem_of_getElem? (i := 67) rfl)) rfl, wG_in (in_t4 (List.mem_of_getElem? (i := 68) rfl)) rfl, wG_in (in_t1 (List.mem_of_getElem? (i := 1) rfl)) rfl, ⟨by decide +kernel, by decide +kernel⟩, by decide +kernel, rfl⟩
theorem okX8_dig : VOK mX8_dig 2 := ⟨wG_in (in_t4 (List.mem_of_getElem? (i := 84) rfl)) rfl, wG_in (in_t4 (List.mem_of_getElem? (i := 82) rfl)) rfl, wG_in (in_t4 (List.mem_of_getElem? (i := 83) rfl)) rfl, wG_in (in_t1 (List.mem_of_getElem? (i := 1) rfl)) rfl, ⟨by decide +kernel, by decide +kernel⟩, by decide +kernel, rfl⟩
theorem okX8_fill : VOK mX8_fill 1 := ⟨wG_in (in_t4 (List.mem_of_getElem? (i := 91) rfl)) rfl, wG_in (in_t4 (List.mem_of_getElem? (i := 89) rfl)) rfl, wG_in (in_t4 (List.mem_of_getElem? (i := 90) rfl)) rfl, wG_in (in_t1 (List.mem_of_getElem? (i := 1) rfl)) rfl, ⟨by decide +kernel, by decide +kernel⟩, by decide +kernel, rfl⟩
theorem okX8_settle : VOK mX8_settle 0 := ⟨wG_in (in_t4 (List.mem_of_getElem? (i := 98) rfl)) rfl, wG_in (in_t4 (List.mem_of_getElem? (i := 96) rfl)) rfl, wG_in (in_t4 (List.mem_of_getElem? (i := 97) rfl)) rfl, wG_in (in_t1 (List.mem_of_getElem? (i := 1) rfl)) rfl, ⟨by decide +kernel, by decide +kernel⟩, by decide +kernel, rfl⟩
theorem okX8_tunnelCount : VOK mX8_tunnelCount 0 := ⟨wG_in (in_t3 (List.mem_of_getElem? (i := 78) rfl)) rfl, wG_in (in_t3 (List.mem_of_getElem? (i := 76) rfl)) rfl, wG_in (in_t3 (List.mem_of_getElem? (i := 77) rfl)) rfl, wG_in (in_t1 (List.mem_of_getElem? (i := 1) rfl)) rfl, ⟨by decide +kernel, by decide +kernel⟩, by decide +kernel, rfl⟩
theorem okX8_isOpen : VOK mX8_isOpen 1 := ⟨wG_in (in_t4 (List.mem_of_getElem? (i := 105) rfl)) rfl, wG_in (in_t4 (List.mem_of_getElem? (i := 103) rfl)) rfl, wG_in (in_t4 (List.mem_of_getElem? (i := 104) rfl)) rfl, wG_in (in_t1 (List.mem_of_getElem? (i := 1) rfl)) rfl, ⟨by decide +kernel, by decide +kernel⟩, by decide +kernel, rfl⟩
theorem okX8_blocked : VOK mX8_blocked 0 := ⟨wG_in (in_t3 (List.mem_of_getElem? (i := 82) rfl)) rfl, wG_in (in_t3 (List.mem_of_getElem? (i := 80) rfl)) rfl, wG_in (in_t3 (List.mem_of_getElem? (i := 81) rfl)) rfl, wG_in (in_t1 (List.mem_of_getElem? (i := 1) rfl)) rfl, ⟨by decide +kernel, by decide +kernel⟩, by decide +kernel, rfl⟩
theorem okX8_parts : VOK mX8_parts 0 := ⟨wG_in (in_t3 (List.mem_of_getElem? (i := 87) rfl)) rfl, wG_in (in_t3 (List.mem_of_getElem? (i := 85) rfl)) rfl, wG_in (in_t3 (List.mem_of_getElem? (i := 86) rfl)) rfl, wG_in (in_t1 (List.mem_of_getElem? (i := 1) rfl)) rfl, ⟨by decide +kernel, by decide +kernel⟩, by decide +kernel, rfl⟩
theorem okX8_walk : VOK mX8_walk 2 := ⟨wG_in (in_t4 (List.mem_of_getElem? (i := 122) rfl)) rfl, wG_in (in_t4 (List.mem_of_getElem? (i := 120) rfl)) rfl, wG_in (in_t4 (List.mem_of_getElem? (i := 121) rfl)) rfl, wG_in (in_t1 (List.mem_of_getElem? (i := 1) rfl)) rfl, ⟨by decide +kernel, by decide +kernel⟩, by decide +kernel, rfl⟩
theorem okX8_bridges : VOK mX8_bridges 0 := ⟨wG_in (in_t3 (List.mem_of_getElem? (i := 103) rfl)) rfl, wG_in (in_t3 (List.mem_of_getElem? (i := 101) rfl)) rfl, wG_in (in_t3 (List.mem_of_getElem? (i := 102) rfl)) rfl, wG_in (in_t1 (List.mem_of_getElem? (i := 1) rfl)) rfl, ⟨by decide +kernel, by decide +kernel⟩, by decide +kernel, rfl⟩
theorem okX8_bridgesByFilling : VOK mX8_bridgesByFilling 0 := ⟨wG_in (in_t3 (List.mem_of_getElem? (i := 127) rfl)) rfl, wG_in (in_t3 (List.mem_of_getElem? (i := 125) rfl)) rfl, wG_in (in_t3 (List.mem_of_getElem? (i := 126) rfl)) rfl, wG_in (in_t1 (List.mem_of_getElem? (i := 1) rfl)) rfl, ⟨by decide +kernel, by decide +kernel⟩, by decide +kernel, rfl⟩
theorem okX8_canSettle : VOK mX8_canSettle 0 := ⟨wG_in (in_t3 (List.mem_of_getElem? (i := 136) rfl)) rfl, wG_in (in_t3 (List.mem_of_getElem? (i := 134) rfl)) rfl, wG_in (in_t3 (List.mem_of_getElem? (i := 135) rfl)) rfl, wG_in (in_t1 (List.mem_of_getElem? (i := 1) rfl)) rfl, ⟨by decide +kernel, by decide +kernel⟩, by decide +kernel, rfl⟩
theorem okX8_canSettleByUnions : VOK mX8_canSettleByUnions 0 := ⟨wG_in (in_t3 (List.mem_of_getElem? (i := 141) rfl)) rfl, wG_in (in_t3 (List.mem_of_getElem? (i := 139) rfl)) rfl, wG_in (in_t3 (List.mem_of_getElem? (i := 140) rfl)) rfl, wG_in (in_t1 (List.mem_of_getElem? (i := 1) rfl)) rfl, ⟨by decide +kernel, by decide +kernel⟩, by decide +kernel, rfl⟩
theorem okX8_fewestTurns : VOK mX8_fewestTurns 0 := ⟨wG_in (in_t4 (List.mem_of_getElem? (i := 138) rfl)) rfl, wG_in (in_t4 (List.mem_of_getElem? (i := 136) rfl)) rfl, wG_in (in_t4 (List.mem_of_getElem? (i := 137) rfl)) rfl, wG_in (in_t1 (List.mem_of_getElem? (i := 1) rfl)) rfl, ⟨by decide +kernel, by decide +kernel⟩, by decide +kernel, rfl⟩
theorem okX8_fewestTurnsBySets : VOK mX8_fewestTurnsBySets 0 := ⟨wG_in (in_t4 (List.mem_of_getElem? (i := 150) rfl)) rfl, wG_in (in_t4 (List.mem_of_getElem? (i := 148) rfl)) rfl, wG_in (in_t4 (List.mem_of_getElem? (i := 149) rfl)) rfl, wG_in (in_t1 (List.mem_of_getElem? (i := 1) rfl)) rfl, ⟨by decide +kernel, by decide +kernel⟩, by decide +kernel, rfl⟩
theorem okX8_leastBlocked : VOK mX8_leastBlocked 0 := ⟨wG_in (in_t3 (List.mem_of_getElem? (i := 149) rfl)) rfl, wG_in (in_t3 (List.mem_of_getElem? (i := 147) rfl)) rfl, wG_in (in_t3 (List.mem_of_getElem? (i := 148) rfl)) rfl, wG_in (in_t1 (List.mem_of_getElem? (i := 1) rfl)) rfl, ⟨by decide +kernel, by decide +kernel⟩, by decide +kernel, rfl⟩
theorem okX8_leastBlockedByBounds : VOK mX8_leastBlockedByBounds 0 := ⟨wG_in (in_t3 (List.mem_of_getElem? (i := 157) rfl)) rfl, wG_in (in_t3 (List.mem_of_getElem? (i := 155) rfl)) rfl, wG_in (in_t3 (List.mem_of_getElem? (i := 156) rfl)) rfl, wG_in (in_t1 (List.mem_of_getElem? (i := 1) rfl)) rfl, ⟨by decide +kernel, by decide +kernel⟩, by decide +kernel, rfl⟩
theorem okX8_force : VOK mX8_force 1 := ⟨wG_in (in_t4 (List.mem_of_getElem? (i := 161) rfl)) rfl, wG_in (in_t4 (List.mem_of_getElem? (i := 159) rfl)) rfl, wG_in (in_t4 (List.mem_of_getElem? (i := 160) rfl)) rfl, wG_in (in_t1 (List.mem_of_getElem? (i := 1) rfl)) rfl, ⟨by decide +kernel, by decide +kernel⟩, by decide +kernel, rfl⟩
theorem okX8_wholeForce : VOK mX8_wholeForce 1 := ⟨wG_in (in_t4 (List.mem_of_getElem? (i := 169) rfl)) rfl, wG_in (in_t4 (List.mem_of_getElem? (i := 167) rfl)) rfl, wG_in (in_t4 (List.mem_of_getElem? (i := 168) rfl)) rfl, wG_in (in_t1 (List.mem_of_getElem? (i := 1) rfl)) rfl, ⟨by decide +kernel, by decide +kernel⟩, by decide +kernel, rfl⟩
theorem okX8_field : VOK mX8_field 1 := ⟨wG_in (in_t4 (List.mem_of_getElem? (i := 176) rfl)) rfl, wG_in (in_t4 (List.mem_of_getElem? (i := 174) rfl)) rfl, wG_in (in_t4 (List.mem_of_getElem? (i := 175) rfl)) rfl, wG_in (in_t1 (List.mem_of_getElem? (i := 1) rfl)) rfl, ⟨by decide +kernel, by decide +kernel⟩, by decide +kernel, rfl⟩
theorem okX8_strongestPosition : VOK mX8_strongestPosition 0 := ⟨wG_in (in_t4 (List.mem_of_getElem? (i := 190) rfl)) rfl, wG_in (in_t4 (List.mem_of_getElem? (i := 188) rfl)) rfl, wG_in (in_t4 (List.mem_of_getElem? (i := 189) rfl)) rfl, wG_in (in_t1 (List.mem_of_getElem? (i := 1) rfl)) rfl, ⟨by decide +kernel, by decide +kernel⟩, by decide +kernel, rfl⟩
theorem okX8_queen : VOK mX8_queen 0 := ⟨wG_in (in_t4 (List.mem_of_getElem? (i := 206) rfl)) rfl, wG_in (in_t4 (List.mem_of_getElem? (i := 204) rfl)) rfl, wG_in (in_t4 (List.mem_of_getElem? (i := 205) rfl)) rfl, wG_in (in_t1 (List.mem_of_getElem? (i := 1) rfl)) rfl, ⟨by decide +kernel, by decide +kernel⟩, by decide +kernel, rfl⟩
theorem okX8_meanStrength : VOK mX8_meanStrength 0 := ⟨wG_in (in_t4 (List.mem_of_getElem? (i := 231) rfl)) rfl, wG_in (in_t4 (List.mem_of_getElem? (i := 229) rfl)) rfl, wG_in (in_t4 (List.mem_of_getElem? (i := 230) rfl)) rfl, wG_in (in_t1 (List.mem_of_getElem? (i := 1) rfl)) rfl, ⟨by decide +kernel, by decide +kernel⟩, by decide +kernel, rfl⟩
theorem okX8_openShare : VOK mX8_openShare 0 := ⟨wG_in (in_t5 (List.mem_of_getElem? (i := 5) rfl)) rfl, wG_in (in_t5 (List.mem_of_getElem? (i := 3) rfl)) rfl, wG_in (in_t5 (List.mem_of_getElem? (i := 4) rfl)) rfl, wG_in (in_t1 (List.mem_of_getElem? (i := 1) rfl)) rfl, ⟨by decide +kernel, by decide +kernel⟩, by decide +kernel, rfl⟩
theorem okX8_turnTotal : VOK mX8_turnTotal 0 := ⟨wG_in (in_t3 (List.mem_of_getElem? (i := 174) rfl)) rfl, wG_in (in_t3 (List.mem_of_getElem? (i := 172) rfl)) rfl, wG_in (in_t3 (List.mem_of_getElem? (i := 173) rfl)) rfl, wG_in (in_t1 (List.mem_of_getElem? (i := 1) rfl)) rfl, ⟨by decide +kernel, by decide +kernel⟩, by decide +kernel, rfl⟩
theorem okX8_turnsOf : VOK mX8_turnsOf 1 := ⟨wG_in (in_t5 (List.mem_of_getElem? (i := 13) rfl)) rfl, wG_in (in_t5 (List.mem_of_getElem? (i := 11) rfl)) rfl, wG_in (in_t5 (List.mem_of_getElem? (i := 12) rfl)) rfl, wG_in (in_t1 (List.mem_of_getElem? (i := 1) rfl)) rfl, ⟨by decide +kernel, by decide +kernel⟩, by decide +kernel, rfl⟩
theorem okX8_moved : VOK mX8_moved 0 := ⟨wG_in (in_t3 (List.mem_of_getElem? (i := 178) rfl)) rfl, wG_in (in_t3 (List.mem_of_getElem? (i := 176) rfl)) rfl, wG_in (in_t3 (List.mem_of_getElem? (i := 177) rfl)) rfl, wG_in (in_t1 (List.mem_of_getElem? (i := 1) rfl)) rfl, ⟨by decide +kernel, by decide +kernel⟩, by decide +kernel, rfl⟩
theorem okX8_feed : VOK mX8_feed 1 := ⟨wG_in (in_t5 (List.mem_of_getElem? (i := 21) rfl)) rfl, wG_in (in_t5 (List.mem_of_getElem? (i := 19) rfl)) rfl, wG_in (in_t5 (List.mem_of_getElem? (i := 20) rfl)) rfl, wG_in (in_t1 (List.mem_of_getElem? (i := 1) rfl)) rfl, ⟨by decide +kernel, by decide +kernel⟩, by decide +kernel, rfl⟩
theorem okX8_execute : VOK mX8_execute 0 := ⟨wG_in (in_t5 (List.mem_of_getElem? (i := 52) rfl)) rfl, wG_in (in_t5 (List.mem_of_getElem? (i := 50) rfl)) rfl, wG_in (in_t5 (List.mem_of_getElem? (i := 51) rfl)) rfl, wG_in (in_t1 (List.mem_of_getElem? (i := 1) rfl)) rfl, ⟨by decide +kernel, by decide +kernel⟩, by decide +kernel, rfl⟩
theorem okX8_faultPosition : VOK mX8_faultPosition 0 := ⟨wG_in (in_t5 (List.mem_of_getElem? (i := 162) rfl)) rfl, wG_in (in_t5 (List.mem_of_getElem? (i := 160) rfl)) rfl, wG_in (in_t5 (List.mem_of_getElem? (i := 161) rfl)) rfl, wG_in (in_t1 (List.mem_of_getElem? (i := 1) rfl)) rfl, ⟨by decide +kernel, by decide +kernel⟩, by decide +kernel, rfl⟩
theorem okX8_writeMagnet : VOK mX8_writeMagnet 1 := ⟨wG_in (in_t5 (List.mem_of_getElem? (i := 169) rfl)) rfl, wG_in (in_t5 (List.mem_of_getElem? (i := 167) rfl)) rfl, wG_in (in_t5 (List.mem_of_getElem? (i := 168) rfl)) rfl, wG_in (in_t1 (List.mem_of_getElem? (i := 1) rfl)) rfl, ⟨by decide +kernel, by decide +kernel⟩, by decide +kernel, rfl⟩
theorem okX8_lineCharacter : VOK mX8_lineCharacter 1 := ⟨wG_in (in_t5 (List.mem_of_getElem? (i := 191) rfl)) rfl, wG_in (in_t5 (List.mem_of_getElem? (i := 189) rfl)) rfl, wG_in (in_t5 (List.mem_of_getElem? (i := 190) rfl)) rfl, wG_in (in_t1 (List.mem_of_getElem? (i := 1) rfl)) rfl, ⟨by decide +kernel, by decide +kernel⟩, by decide +kernel, rfl⟩
theorem okX8_denial : VOK mX8_denial 0 := ⟨wG_in (in_t5 (List.mem_of_getElem? (i := 199) rfl)) rfl, wG_in (in_t5 (List.mem_of_getElem? (i := 197) rfl)) rfl, wG_in (in_t5 (List.mem_of_getElem? (i := 198) rfl)) rfl, wG_in (in_t1 (List.mem_of_getElem? (i := 1) rfl)) rfl, ⟨by decide +kernel, by decide +kernel⟩, by decide +kernel, rfl⟩
theorem okX8_denialDetail : VOK mX8_denialDetail 0 := ⟨wG_in (in_t5 (List.mem_of_getElem? (i := 211) rfl)) rfl, wG_in (in_t5 (List.mem_of_getElem? (i := 209) rfl)) rfl, wG_in (in_t5 (List.mem_of_getElem? (i := 210) rfl)) rfl, wG_in (in_t1 (List.mem_of_getElem? (i := 1) rfl)) rfl, ⟨by decide +kernel, by decide +kernel⟩, by decide +kernel, rfl⟩
theorem okX8_denialCause : VOK mX8_denialCause 0 := ⟨wG_in (in_t5 (List.mem_of_getElem? (i := 218) rfl)) rfl, wG_in (in_t5 (List.mem_of_getElem? (i := 216) rfl)) rfl, wG_in (in_t5 (List.mem_of_getElem? (i := 217) rfl)) rfl, wG_in (in_t1 (List.mem_of_getElem? (i := 1) rfl)) rfl, ⟨by decide +kernel, by decide +kernel⟩, by decide +kernel, rfl⟩
theorem okX8_undo : VOK mX8_undo 0 := ⟨wG_in (in_t5 (List.mem_of_getElem? (i := 226) rfl)) rfl, wG_in (in_t5 (List.mem_of_getElem? (i := 224) rfl)) rfl, wG_in (in_t5 (List.mem_of_getElem? (i := 225) rfl)) rfl, wG_in (in_t1 (List.mem_of_getElem? (i := 1) rfl)) rfl, ⟨by decide +kernel, by decide +kernel⟩, by decide +kernel, rfl⟩
theorem okX8_undoCount : VOK mX8_undoCount 0 := ⟨wG_in (in_t3 (List.mem_of_getElem? (i := 182) rfl)) rfl, wG_in (in_t3 (List.mem_of_getElem? (i := 180) rfl)) rfl, wG_in (in_t3 (List.mem_of_getElem? (i := 181) rfl)) rfl, wG_in (in_t1 (List.mem_of_getElem? (i := 1) rfl)) rfl, ⟨by decide +kernel, by decide +kernel⟩, by decide +kernel, rfl⟩
theorem okX8_saveSnapshot : VOK mX8_saveSnapshot 0 := ⟨wG_in (in_t3 (List.mem_of_getElem? (i := 186) rfl)) rfl, wG_in (in_t3 (List.mem_of_getElem? (i := 184) rfl)) rfl, wG_in (in_t3 (List.mem_of_getElem? (i := 185) rfl)) rfl, wG_in (in_t1 (List.mem_of_getElem? (i := 1) rfl)) rfl, ⟨by decide +kernel, by decide +kernel⟩, by decide +kernel, rfl⟩
theorem okX8_restoreSnapshot : VOK mX8_restoreSnapshot 0 := ⟨wG_in (in_t5 (List.mem_of_getElem? (i := 238) rfl)) rfl, wG_in (in_t5 (List.mem_of_getElem? (i := 236) rfl)) rfl, wG_in (in_t5 (List.mem_of_getElem? (i := 237) rfl)) rfl, wG_in (in_t1 (List.mem_of_getElem? (i := 1) rfl)) rfl, ⟨by decide +kernel, by decide +kernel⟩, by decide +kernel, rfl⟩
theorem okX8_change : VOK mX8_change 4 := ⟨wG_in (in_t2 (List.mem_of_getElem? (i := 54) rfl)) rfl, wG_in (in_t2 (List.mem_of_getElem? (i := 53) rfl)) rfl, wG_in (List.mem_append_left _ (List.mem_of_getElem? (i := 0) rfl)) rfl, wG_in (in_t1 (List.mem_of_getElem? (i := 1) rfl)) rfl, ⟨by decide +kernel, by decide +kernel⟩, by decide +kernel, rfl⟩
theorem okX8_refuse : VOK mX8_refuse 1 := ⟨wG_in (in_t2 (List.mem_of_getElem? (i := 142) rfl)) rfl, wG_in (in_t2 (List.mem_of_getElem? (i := 141) rfl)) rfl, wG_in (List.mem_append_left _ (List.mem_of_getElem? (i := 8) rfl)) rfl, wG_in (in_t1 (List.mem_of_getElem? (i := 1) rfl)) rfl, ⟨by decide +kernel, by decide +kernel⟩, by decide +kernel, rfl⟩
theorem okX8_causeOf : SOK mX8_causeOf 1 := ⟨wG_in (in_t5 (List.mem_of_getElem? (i := 154) rfl)) rfl, wG_in (in_t5 (List.mem_of_getElem? (i := 153) rfl)) rfl, wG_in (in_t1 (List.mem_of_getElem? (i := 1) rfl)) rfl, ⟨by decide +kernel, by decide +kernel⟩, by decide +kernel⟩
theorem okX8_keepDenial : VOK mX8_keepDenial 3 := ⟨wG_in (in_t2 (List.mem_of_getElem? (i := 234) rfl)) rfl, wG_in (in_t2 (List.mem_of_getElem? (i := 233) rfl)) rfl, wG_in (List.mem_append_left _ (List.mem_of_getElem? (i := 10) rfl)) rfl, wG_in (in_t1 (List.mem_of_getElem? (i := 1) rfl)) rfl, ⟨by decide +kernel, by decide +kernel⟩, by decide +kernel, rfl⟩
theorem okX8_isPosition : SOK mX8_isPosition 1 := ⟨wG_in (in_t2 (List.mem_of_getElem? (i := 65) rfl)) rfl, wG_in (in_t2 (List.mem_of_getElem? (i := 64) rfl)) rfl, wG_in (in_t1 (List.mem_of_getElem? (i := 1) rfl)) rfl, ⟨by decide +kernel, by decide +kernel⟩, by decide +kernel⟩
theorem okX8_isStrength : SOK mX8_isStrength 1 := ⟨wG_in (in_t2 (List.mem_of_getElem? (i := 68) rfl)) rfl, wG_in (in_t2 (List.mem_of_getElem? (i := 67) rfl)) rfl, wG_in (in_t1 (List.mem_of_getElem? (i := 1) rfl)) rfl, ⟨by decide +kernel, by decide +kernel⟩, by decide +kernel⟩
theorem okX8_isIn : SOK mX8_isIn 2 := ⟨wG_in (in_t2 (List.mem_of_getElem? (i := 123) rfl)) rfl, wG_in (in_t2 (List.mem_of_getElem? (i := 122) rfl)) rfl, wG_in (in_t1 (List.mem_of_getElem? (i := 1) rfl)) rfl, ⟨by decide +kernel, by decide +kernel⟩, by decide +kernel⟩
theorem okX8_requirePosition : SOK mX8_requirePosition 1 := ⟨wG_in (in_t4 (List.mem_of_getElem? (i := 40) rfl)) rfl, wG_in (in_t4 (List.mem_of_getElem? (i := 39) rfl)) rfl, wG_in (in_t1 (List.mem_of_getElem? (i := 1) rfl)) rfl, ⟨by decide +kernel, by decide +kernel⟩, by decide +kernel⟩
theorem okX8_requireFound : SOK mX8_requireFound 1 := ⟨wG_in (in_t4 (List.mem_of_getElem? (i := 46) rfl)) rfl, wG_in (in_t4 (List.mem_of_getElem? (i := 45) rfl)) rfl, wG_in (in_t1 (List.mem_of_getElem? (i := 1) rfl)) rfl, ⟨by decide +kernel, by decide +kernel⟩, by decide +kernel⟩
theorem okX8_requireMagnet : VOK mX8_requireMagnet 1 := ⟨wG_in (in_t4 (List.mem_of_getElem? (i := 9) rfl)) rfl, wG_in (in_t4 (List.mem_of_getElem? (i := 8) rfl)) rfl, wG_in (List.mem_append_left _ (List.mem_of_getElem? (i := 17) rfl)) rfl, wG_in (in_t1 (List.mem_of_getElem? (i := 1) rfl)) rfl, ⟨by decide +kernel, by decide +kernel⟩, by decide +kernel, rfl⟩
theorem okX8_requireTunnel : VOK mX8_requireTunnel 1 := ⟨wG_in (in_t4 (List.mem_of_getElem? (i := 109) rfl)) rfl, wG_in (in_t4 (List.mem_of_getElem? (i := 108) rfl)) rfl, wG_in (List.mem_append_left _ (List.mem_of_getElem? (i := 19) rfl)) rfl, wG_in (in_t1 (List.mem_of_getElem? (i := 1) rfl)) rfl, ⟨by decide +kernel, by decide +kernel⟩, by decide +kernel, rfl⟩
theorem okX8_requireDenial : VOK mX8_requireDenial 0 := ⟨wG_in (in_t5 (List.mem_of_getElem? (i := 203) rfl)) rfl, wG_in (in_t5 (List.mem_of_getElem? (i := 202) rfl)) rfl, wG_in (List.mem_append_left _ (List.mem_of_getElem? (i := 30) rfl)) rfl, wG_in (in_t1 (List.mem_of_getElem? (i := 1) rfl)) rfl, ⟨by decide +kernel, by decide +kernel⟩, by decide +kernel, rfl⟩
theorem okX9_init : IOK mX9_init 0 := ⟨wG_in (in_t6 (List.mem_of_getElem? (i := 8) rfl)) rfl, wG_in (in_t6 (List.mem_of_getElem? (i := 7) rfl)) rfl, rfl, wG_in (in_t1 (List.mem_of_getElem? (i := 10) rfl)) rfl, ⟨by decide +kernel, by decide +kernel⟩, by decide +kernel, rfl, rfl⟩
theorem okX9_thrown : VOK mX9_thrown 0 := ⟨wG_in (in_t6 (List.mem_of_getElem? (i := 74) rfl)) rfl, wG_in (in_t6 (List.mem_of_getElem? (i := 72) rfl)) rfl, wG_in (in_t6 (List.mem_of_getElem? (i := 73) rfl)) rfl, wG_in (in_t1 (List.mem_of_getElem? (i := 10) rfl)) rfl, ⟨by decide +kernel, by decide +kernel⟩, by decide +kernel, rfl⟩
theorem okX9_fails : VOK mX9_fails 1 := ⟨wG_in (in_t6 (List.mem_of_getElem? (i := 85) rfl)) rfl, wG_in (in_t6 (List.mem_of_getElem? (i := 84) rfl)) rfl, wG_in (List.mem_append_left _ (List.mem_of_getElem? (i := 31) rfl)) rfl, wG_in (in_t1 (List.mem_of_getElem? (i := 10) rfl)) rfl, ⟨by decide +kernel, by decide +kernel⟩, by decide +kernel, rfl⟩
theorem okX9_denies : VOK mX9_denies 3 := ⟨wG_in (in_t6 (List.mem_of_getElem? (i := 89) rfl)) rfl, wG_in (in_t6 (List.mem_of_getElem? (i := 88) rfl)) rfl, wG_in (List.mem_append_left _ (List.mem_of_getElem? (i := 32) rfl)) rfl, wG_in (in_t1 (List.mem_of_getElem? (i := 10) rfl)) rfl, ⟨by decide +kernel, by decide +kernel⟩, by decide +kernel, rfl⟩
theorem okX9_in : SOK mX9_in 3 := ⟨wG_in (in_t6 (List.mem_of_getElem? (i := 81) rfl)) rfl, wG_in (in_t6 (List.mem_of_getElem? (i := 80) rfl)) rfl, wG_in (in_t1 (List.mem_of_getElem? (i := 10) rfl)) rfl, ⟨by decide +kernel, by decide +kernel⟩, by decide +kernel⟩
theorem okX9_size : SOK mX9_size 1 := ⟨wG_in (in_t7 (List.mem_of_getElem? (i := 62) rfl)) rfl, wG_in (in_t7 (List.mem_of_getElem? (i := 61) rfl)) rfl, wG_in (in_t1 (List.mem_of_getElem? (i := 10) rfl)) rfl, ⟨by decide +kernel, by decide +kernel⟩, by decide +kernel⟩
theorem okX9_strong : SOK mX9_strong 1 := ⟨wG_in (in_t7 (List.mem_of_getElem? (i := 69) rfl)) rfl, wG_in (in_t7 (List.mem_of_getElem? (i := 68) rfl)) rfl, wG_in (in_t1 (List.mem_of_getElem? (i := 10) rfl)) rfl, ⟨by decide +kernel, by decide +kernel⟩, by decide +kernel⟩
theorem okX9_copies : SOK mX9_copies 4 := ⟨wG_in (in_t6 (List.mem_of_getElem? (i := 104) rfl)) rfl, wG_in (in_t6 (List.mem_of_getElem? (i := 103) rfl)) rfl, wG_in (in_t1 (List.mem_of_getElem? (i := 10) rfl)) rfl, ⟨by decide +kernel, by decide +kernel⟩, by decide +kernel⟩
theorem okX9_keeps : VOK mX9_keeps 1 := ⟨wG_in (in_t6 (List.mem_of_getElem? (i := 101) rfl)) rfl, wG_in (in_t6 (List.mem_of_getElem? (i := 100) rfl)) rfl, wG_in (List.mem_append_left _ (List.mem_of_getElem? (i := 35) rfl)) rfl, wG_in (in_t1 (List.mem_of_getElem? (i := 10) rfl)) rfl, ⟨by decide +kernel, by decide +kernel⟩, by decide +kernel, rfl⟩
theorem okX9_bits : SOK mX9_bits 1 := ⟨wG_in (in_t6 (List.mem_of_getElem? (i := 211) rfl)) rfl, wG_in (in_t6 (List.mem_of_getElem? (i := 210) rfl)) rfl, wG_in (in_t1 (List.mem_of_getElem? (i := 10) rfl)) rfl, ⟨by decide +kernel, by decide +kernel⟩, by decide +kernel⟩
theorem okX9_isMagnet : VOK mX9_isMagnet 1 := ⟨wG_in (in_t6 (List.mem_of_getElem? (i := 120) rfl)) rfl, wG_in (in_t6 (List.mem_of_getElem? (i := 119) rfl)) rfl, wG_in (List.mem_append_left _ (List.mem_of_getElem? (i := 38) rfl)) rfl, wG_in (in_t1 (List.mem_of_getElem? (i := 10) rfl)) rfl, ⟨by decide +kernel, by decide +kernel⟩, by decide +kernel, rfl⟩
theorem okX9_isNone : VOK mX9_isNone 1 := ⟨wG_in (in_t6 (List.mem_of_getElem? (i := 116) rfl)) rfl, wG_in (in_t6 (List.mem_of_getElem? (i := 115) rfl)) rfl, wG_in (List.mem_append_left _ (List.mem_of_getElem? (i := 37) rfl)) rfl, wG_in (in_t1 (List.mem_of_getElem? (i := 10) rfl)) rfl, ⟨by decide +kernel, by decide +kernel⟩, by decide +kernel, rfl⟩
theorem okX9_of : VOK mX9_of 2 := ⟨wG_in (in_t6 (List.mem_of_getElem? (i := 97) rfl)) rfl, wG_in (in_t6 (List.mem_of_getElem? (i := 96) rfl)) rfl, wG_in (List.mem_append_left _ (List.mem_of_getElem? (i := 34) rfl)) rfl, wG_in (in_t1 (List.mem_of_getElem? (i := 10) rfl)) rfl, ⟨by decide +kernel, by decide +kernel⟩, by decide +kernel, rfl⟩
theorem okX9_lays : VOK mX9_lays 3 := ⟨wG_in (in_t6 (List.mem_of_getElem? (i := 108) rfl)) rfl, wG_in (in_t6 (List.mem_of_getElem? (i := 107) rfl)) rfl, wG_in (List.mem_append_left _ (List.mem_of_getElem? (i := 36) rfl)) rfl, wG_in (in_t1 (List.mem_of_getElem? (i := 10) rfl)) rfl, ⟨by decide +kernel, by decide +kernel⟩, by decide +kernel, rfl⟩
theorem okX9_found : VOK mX9_found 1 := ⟨wG_in (in_t6 (List.mem_of_getElem? (i := 93) rfl)) rfl, wG_in (in_t6 (List.mem_of_getElem? (i := 92) rfl)) rfl, wG_in (List.mem_append_left _ (List.mem_of_getElem? (i := 33) rfl)) rfl, wG_in (in_t1 (List.mem_of_getElem? (i := 10) rfl)) rfl, ⟨by decide +kernel, by decide +kernel⟩, by decide +kernel, rfl⟩
theorem okX9_addMagnet : VOK mX9_addMagnet 3 := ⟨wG_in (in_t6 (List.mem_of_getElem? (i := 78) rfl)) rfl, wG_in (in_t6 (List.mem_of_getElem? (i := 76) rfl)) rfl, wG_in (in_t6 (List.mem_of_getElem? (i := 77) rfl)) rfl, wG_in (in_t1 (List.mem_of_getElem? (i := 10) rfl)) rfl, ⟨by decide +kernel, by decide +kernel⟩, by decide +kernel, rfl⟩
theorem okX9_setStrength : VOK mX9_setStrength 2 := ⟨wG_in (in_t6 (List.mem_of_getElem? (i := 112) rfl)) rfl, wG_in (in_t6 (List.mem_of_getElem? (i := 110) rfl)) rfl, wG_in (in_t6 (List.mem_of_getElem? (i := 111) rfl)) rfl, wG_in (in_t1 (List.mem_of_getElem? (i := 10) rfl)) rfl, ⟨by decide +kernel, by decide +kernel⟩, by decide +kernel, rfl⟩
theorem okX9_turnsOne : VOK mX9_turnsOne 1 := ⟨wG_in (in_t6 (List.mem_of_getElem? (i := 128) rfl)) rfl, wG_in (in_t6 (List.mem_of_getElem? (i := 127) rfl)) rfl, wG_in (List.mem_append_left _ (List.mem_of_getElem? (i := 39) rfl)) rfl, wG_in (in_t1 (List.mem_of_getElem? (i := 10) rfl)) rfl, ⟨by decide +kernel, by decide +kernel⟩, by decide +kernel, rfl⟩
theorem okX9_turn : VOK mX9_turn 1 := ⟨wG_in (in_t6 (List.mem_of_getElem? (i := 124) rfl)) rfl, wG_in (in_t6 (List.mem_of_getElem? (i := 122) rfl)) rfl, wG_in (in_t6 (List.mem_of_getElem? (i := 123) rfl)) rfl, wG_in (in_t1 (List.mem_of_getElem? (i := 10) rfl)) rfl, ⟨by decide +kernel, by decide +kernel⟩, by decide +kernel, rfl⟩
theorem okX9_shift : VOK mX9_shift 1 := ⟨wG_in (in_t6 (List.mem_of_getElem? (i := 144) rfl)) rfl, wG_in (in_t6 (List.mem_of_getElem? (i := 142) rfl)) rfl, wG_in (in_t6 (List.mem_of_getElem? (i := 143) rfl)) rfl, wG_in (in_t1 (List.mem_of_getElem? (i := 10) rfl)) rfl, ⟨by decide +kernel, by decide +kernel⟩, by decide +kernel, rfl⟩
theorem okX9_pull : VOK mX9_pull 1 := ⟨wG_in (in_t6 (List.mem_of_getElem? (i := 152) rfl)) rfl, wG_in (in_t6 (List.mem_of_getElem? (i := 151) rfl)) rfl, wG_in (List.mem_append_left _ (List.mem_of_getElem? (i := 43) rfl)) rfl, wG_in (in_t1 (List.mem_of_getElem? (i := 10) rfl)) rfl, ⟨by decide +kernel, by decide +kernel⟩, by decide +kernel, rfl⟩
theorem okX9_move : VOK mX9_move 0 := ⟨wG_in (in_t6 (List.mem_of_getElem? (i := 148) rfl)) rfl, wG_in (in_t6 (List.mem_of_getElem? (i := 146) rfl)) rfl, wG_in (in_t6 (List.mem_of_getElem? (i := 147) rfl)) rfl, wG_in (in_t1 (List.mem_of_getElem? (i := 10) rfl)) rfl, ⟨by decide +kernel, by decide +kernel⟩, by decide +kernel, rfl⟩
theorem okX9_magnetCount : VOK mX9_magnetCount 0 := ⟨wG_in (in_t6 (List.mem_of_getElem? (i := 156) rfl)) rfl, wG_in (in_t6 (List.mem_of_getElem? (i := 154) rfl)) rfl, wG_in (in_t6 (List.mem_of_getElem? (i := 155) rfl)) rfl, wG_in (in_t1 (List.mem_of_getElem? (i := 10) rfl)) rfl, ⟨by decide +kernel, by decide +kernel⟩, by decide +kernel, rfl⟩
theorem okX9_position : VOK mX9_position 1 := ⟨wG_in (in_t6 (List.mem_of_getElem? (i := 160) rfl)) rfl, wG_in (in_t6 (List.mem_of_getElem? (i := 158) rfl)) rfl, wG_in (in_t6 (List.mem_of_getElem? (i := 159) rfl)) rfl, wG_in (in_t1 (List.mem_of_getElem? (i := 10) rfl)) rfl, ⟨by decide +kernel, by decide +kernel⟩, by decide +kernel, rfl⟩
theorem okX9_strength : VOK mX9_strength 1 := ⟨wG_in (in_t6 (List.mem_of_getElem? (i := 164) rfl)) rfl, wG_in (in_t6 (List.mem_of_getElem? (i := 162) rfl)) rfl, wG_in (in_t6 (List.mem_of_getElem? (i := 163) rfl)) rfl, wG_in (in_t1 (List.mem_of_getElem? (i := 10) rfl)) rfl, ⟨by decide +kernel, by decide +kernel⟩, by decide +kernel, rfl⟩
theorem okX9_sign : VOK mX9_sign 1 := ⟨wG_in (in_t6 (List.mem_of_getElem? (i := 172) rfl)) rfl, wG_in (in_t6 (List.mem_of_getElem? (i := 171) rfl)) rfl, wG_in (List.mem_append_left _ (List.mem_of_getElem? (i := 44) rfl)) rfl, wG_in (in_t1 (List.mem_of_getElem? (i := 10) rfl)) rfl, ⟨by decide +kernel, by decide +kernel⟩, by decide +kernel, rfl⟩
theorem okX9_pole : VOK mX9_pole 1 := ⟨wG_in (in_t6 (List.mem_of_getElem? (i := 168) rfl)) rfl, wG_in (in_t6 (List.mem_of_getElem? (i := 166) rfl)) rfl, wG_in (in_t6 (List.mem_of_getElem? (i := 167) rfl)) rfl, wG_in (in_t1 (List.mem_of_getElem? (i := 10) rfl)) rfl, ⟨by decide +kernel, by decide +kernel⟩, by decide +kernel, rfl⟩
theorem okX9_magnetAt : VOK mX9_magnetAt 1 := ⟨wG_in (in_t6 (List.mem_of_getElem? (i := 176) rfl)) rfl, wG_in (in_t6 (List.mem_of_getElem? (i := 174) rfl)) rfl, wG_in (in_t6 (List.mem_of_getElem? (i := 175) rfl)) rfl, wG_in (in_t1 (List.mem_of_getElem? (i := 10) rfl)) rfl, ⟨by decide +kernel, by decide +kernel⟩, by decide +kernel, rfl⟩
theorem okX9_isAhead : VOK mX9_isAhead 2 := ⟨wG_in (in_t6 (List.mem_of_getElem? (i := 184) rfl)) rfl, wG_in (in_t6 (List.mem_of_getElem? (i := 183) rfl)) rfl, wG_in (List.mem_append_left _ (List.mem_of_getElem? (i := 45) rfl)) rfl, wG_in (in_t1 (List.mem_of_getElem? (i := 10) rfl)) rfl, ⟨by decide +kernel, by decide +kernel⟩, by decide +kernel, rfl⟩
theorem okX9_magnetByStrength : VOK mX9_magnetByStrength 1 := ⟨wG_in (in_t6 (List.mem_of_getElem? (i := 180) rfl)) rfl, wG_in (in_t6 (List.mem_of_getElem? (i := 178) rfl)) rfl, wG_in (in_t6 (List.mem_of_getElem? (i := 179) rfl)) rfl, wG_in (in_t1 (List.mem_of_getElem? (i := 10) rfl)) rfl, ⟨by decide +kernel, by decide +kernel⟩, by decide +kernel, rfl⟩
theorem okX9_isTunnel : VOK mX9_isTunnel 1 := ⟨wG_in (in_t6 (List.mem_of_getElem? (i := 200) rfl)) rfl, wG_in (in_t6 (List.mem_of_getElem? (i := 199) rfl)) rfl, wG_in (List.mem_append_left _ (List.mem_of_getElem? (i := 47) rfl)) rfl, wG_in (in_t1 (List.mem_of_getElem? (i := 10) rfl)) rfl, ⟨by decide +kernel, by decide +kernel⟩, by decide +kernel, rfl⟩
theorem okX9_joins : VOK mX9_joins 2 := ⟨wG_in (in_t6 (List.mem_of_getElem? (i := 140) rfl)) rfl, wG_in (in_t6 (List.mem_of_getElem? (i := 139) rfl)) rfl, wG_in (List.mem_append_left _ (List.mem_of_getElem? (i := 42) rfl)) rfl, wG_in (in_t1 (List.mem_of_getElem? (i := 10) rfl)) rfl, ⟨by decide +kernel, by decide +kernel⟩, by decide +kernel, rfl⟩
theorem okX9_between : VOK mX9_between 2 := ⟨wG_in (in_t6 (List.mem_of_getElem? (i := 192) rfl)) rfl, wG_in (in_t6 (List.mem_of_getElem? (i := 191) rfl)) rfl, wG_in (List.mem_append_left _ (List.mem_of_getElem? (i := 46) rfl)) rfl, wG_in (in_t1 (List.mem_of_getElem? (i := 10) rfl)) rfl, ⟨by decide +kernel, by decide +kernel⟩, by decide +kernel, rfl⟩
theorem okX9_isFree : VOK mX9_isFree 2 := ⟨wG_in (in_t6 (List.mem_of_getElem? (i := 136) rfl)) rfl, wG_in (in_t6 (List.mem_of_getElem? (i := 135) rfl)) rfl, wG_in (List.mem_append_left _ (List.mem_of_getElem? (i := 41) rfl)) rfl, wG_in (in_t1 (List.mem_of_getElem? (i := 10) rfl)) rfl, ⟨by decide +kernel, by decide +kernel⟩, by decide +kernel, rfl⟩
theorem okX9_shut : VOK mX9_shut 1 := ⟨wG_in (in_t6 (List.mem_of_getElem? (i := 132) rfl)) rfl, wG_in (in_t6 (List.mem_of_getElem? (i := 131) rfl)) rfl, wG_in (List.mem_append_left _ (List.mem_of_getElem? (i := 40) rfl)) rfl, wG_in (in_t1 (List.mem_of_getElem? (i := 10) rfl)) rfl, ⟨by decide +kernel, by decide +kernel⟩, by decide +kernel, rfl⟩
theorem okX9_dig : VOK mX9_dig 2 := ⟨wG_in (in_t6 (List.mem_of_getElem? (i := 188) rfl)) rfl, wG_in (in_t6 (List.mem_of_getElem? (i := 186) rfl)) rfl, wG_in (in_t6 (List.mem_of_getElem? (i := 187) rfl)) rfl, wG_in (in_t1 (List.mem_of_getElem? (i := 10) rfl)) rfl, ⟨by decide +kernel, by decide +kernel⟩, by decide +kernel, rfl⟩
theorem okX9_fill : VOK mX9_fill 1 := ⟨wG_in (in_t6 (List.mem_of_getElem? (i := 196) rfl)) rfl, wG_in (in_t6 (List.mem_of_getElem? (i := 194) rfl)) rfl, wG_in (in_t6 (List.mem_of_getElem? (i := 195) rfl)) rfl, wG_in (in_t1 (List.mem_of_getElem? (i := 10) rfl)) rfl, ⟨by decide +kernel, by decide +kernel⟩, by decide +kernel, rfl⟩
theorem okX9_best : VOK mX9_best 0 := ⟨wG_in (in_t6 (List.mem_of_getElem? (i := 208) rfl)) rfl, wG_in (in_t6 (List.mem_of_getElem? (i := 207) rfl)) rfl, wG_in (List.mem_append_left _ (List.mem_of_getElem? (i := 48) rfl)) rfl, wG_in (in_t1 (List.mem_of_getElem? (i := 10) rfl)) rfl, ⟨by decide +kernel, by decide +kernel⟩, by decide +kernel, rfl⟩
theorem okX9_settle : VOK mX9_settle 0 := ⟨wG_in (in_t6 (List.mem_of_getElem? (i := 204) rfl)) rfl, wG_in (in_t6 (List.mem_of_getElem? (i := 202) rfl)) rfl, wG_in (in_t6 (List.mem_of_getElem? (i := 203) rfl)) rfl, wG_in (in_t1 (List.mem_of_getElem? (i := 10) rfl)) rfl, ⟨by decide +kernel, by decide +kernel⟩, by decide +kernel, rfl⟩
theorem okX9_tunnelCount : VOK mX9_tunnelCount 0 := ⟨wG_in (in_t6 (List.mem_of_getElem? (i := 215) rfl)) rfl, wG_in (in_t6 (List.mem_of_getElem? (i := 213) rfl)) rfl, wG_in (in_t6 (List.mem_of_getElem? (i := 214) rfl)) rfl, wG_in (in_t1 (List.mem_of_getElem? (i := 10) rfl)) rfl, ⟨by decide +kernel, by decide +kernel⟩, by decide +kernel, rfl⟩
theorem okX9_isOpen : VOK mX9_isOpen 1 := ⟨wG_in (in_t6 (List.mem_of_getElem? (i := 219) rfl)) rfl, wG_in (in_t6 (List.mem_of_getElem? (i := 217) rfl)) rfl, wG_in (in_t6 (List.mem_of_getElem? (i := 218) rfl)) rfl, wG_in (in_t1 (List.mem_of_getElem? (i := 10) rfl)) rfl, ⟨by decide +kernel, by decide +kernel⟩, by decide +kernel, rfl⟩
theorem okX9_blocked : VOK mX9_blocked 0 := ⟨wG_in (in_t6 (List.mem_of_getElem? (i := 223) rfl)) rfl, wG_in (in_t6 (List.mem_of_getElem? (i := 221) rfl)) rfl, wG_in (in_t6 (List.mem_of_getElem? (i := 222) rfl)) rfl, wG_in (in_t1 (List.mem_of_getElem? (i := 10) rfl)) rfl, ⟨by decide +kernel, by decide +kernel⟩, by decide +kernel, rfl⟩
theorem okX9_part : VOK mX9_part 2 := ⟨wG_in (in_t6 (List.mem_of_getElem? (i := 235) rfl)) rfl, wG_in (in_t6 (List.mem_of_getElem? (i := 234) rfl)) rfl, wG_in (List.mem_append_left _ (List.mem_of_getElem? (i := 50) rfl)) rfl, wG_in (in_t1 (List.mem_of_getElem? (i := 10) rfl)) rfl, ⟨by decide +kernel, by decide +kernel⟩, by decide +kernel, rfl⟩
theorem okX9_partsWithout : VOK mX9_partsWithout 1 := ⟨wG_in (in_t6 (List.mem_of_getElem? (i := 231) rfl)) rfl, wG_in (in_t6 (List.mem_of_getElem? (i := 230) rfl)) rfl, wG_in (List.mem_append_left _ (List.mem_of_getElem? (i := 49) rfl)) rfl, wG_in (in_t1 (List.mem_of_getElem? (i := 10) rfl)) rfl, ⟨by decide +kernel, by decide +kernel⟩, by decide +kernel, rfl⟩
theorem okX9_parts : VOK mX9_parts 0 := ⟨wG_in (in_t6 (List.mem_of_getElem? (i := 227) rfl)) rfl, wG_in (in_t6 (List.mem_of_getElem? (i := 225) rfl)) rfl, wG_in (in_t6 (List.mem_of_getElem? (i := 226) rfl)) rfl, wG_in (in_t1 (List.mem_of_getElem? (i := 10) rfl)) rfl, ⟨by decide +kernel, by decide +kernel⟩, by decide +kernel, rfl⟩
theorem okX9_walk : VOK mX9_walk 2 := ⟨wG_in (in_t6 (List.mem_of_getElem? (i := 239) rfl)) rfl, wG_in (in_t6 (List.mem_of_getElem? (i := 237) rfl)) rfl, wG_in (in_t6 (List.mem_of_getElem? (i := 238) rfl)) rfl, wG_in (in_t1 (List.mem_of_getElem? (i := 10) rfl)) rfl, ⟨by decide +kernel, by decide +kernel⟩, by decide +kernel, rfl⟩
theorem okX9_spans : VOK mX9_spans 0 := ⟨wG_in (in_t7 (List.mem_of_getElem? (i := 7) rfl)) rfl, wG_in (in_t7 (List.mem_of_getElem? (i := 6) rfl)) rfl, wG_in (List.mem_append_left _ (List.mem_of_getElem? (i := 51) rfl)) rfl, wG_in (in_t1 (List.mem_of_getElem? (i := 10) rfl)) rfl, ⟨by decide +kernel, by decide +kernel⟩, by decide +kernel, rfl⟩
theorem okX9_bridges : VOK mX9_bridges 0 := ⟨wG_in (in_t7 (List.mem_of_getElem? (i := 3) rfl)) rfl, wG_in (in_t7 (List.mem_of_getElem? (i := 1) rfl)) rfl, wG_in (in_t7 (List.mem_of_getElem? (i := 2) rfl)) rfl, wG_in (in_t1 (List.mem_of_getElem? (i := 10) rfl)) rfl, ⟨by decide +kernel, by decide +kernel⟩, by decide +kernel, rfl⟩
theorem okX9_bridgesByFilling : VOK mX9_bridgesByFilling 0 := ⟨wG_in (in_t7 (List.mem_of_getElem? (i := 11) rfl)) rfl, wG_in (in_t7 (List.mem_of_getElem? (i := 9) rfl)) rfl, wG_in (in_t7 (List.mem_of_getElem? (i := 10) rfl)) rfl, wG_in (in_t1 (List.mem_of_getElem? (i := 10) rfl)) rfl, ⟨by decide +kernel, by decide +kernel⟩, by decide +kernel, rfl⟩
theorem okX9_canSettle : VOK mX9_canSettle 0 := ⟨wG_in (in_t7 (List.mem_of_getElem? (i := 15) rfl)) rfl, wG_in (in_t7 (List.mem_of_getElem? (i := 13) rfl)) rfl, wG_in (in_t7 (List.mem_of_getElem? (i := 14) rfl)) rfl, wG_in (in_t1 (List.mem_of_getElem? (i := 10) rfl)) rfl, ⟨by decide +kernel, by decide +kernel⟩, by decide +kernel, rfl⟩
theorem okX9_canSettleByUnions : VOK mX9_canSettleByUnions 0 := ⟨wG_in (in_t7 (List.mem_of_getElem? (i := 19) rfl)) rfl, wG_in (in_t7 (List.mem_of_getElem? (i := 17) rfl)) rfl, wG_in (in_t7 (List.mem_of_getElem? (i := 18) rfl)) rfl, wG_in (in_t1 (List.mem_of_getElem? (i := 10) rfl)) rfl, ⟨by decide +kernel, by decide +kernel⟩, by decide +kernel, rfl⟩
theorem okX9_fewest : VOK mX9_fewest 0 := ⟨wG_in (in_t7 (List.mem_of_getElem? (i := 27) rfl)) rfl, wG_in (in_t7 (List.mem_of_getElem? (i := 26) rfl)) rfl, wG_in (List.mem_append_left _ (List.mem_of_getElem? (i := 52) rfl)) rfl, wG_in (in_t1 (List.mem_of_getElem? (i := 10) rfl)) rfl, ⟨by decide +kernel, by decide +kernel⟩, by decide +kernel, rfl⟩
theorem okX9_fewestTurns : VOK mX9_fewestTurns 0 := ⟨wG_in (in_t7 (List.mem_of_getElem? (i := 23) rfl)) rfl, wG_in (in_t7 (List.mem_of_getElem? (i := 21) rfl)) rfl, wG_in (in_t7 (List.mem_of_getElem? (i := 22) rfl)) rfl, wG_in (in_t1 (List.mem_of_getElem? (i := 10) rfl)) rfl, ⟨by decide +kernel, by decide +kernel⟩, by decide +kernel, rfl⟩
theorem okX9_fewestTurnsBySets : VOK mX9_fewestTurnsBySets 0 := ⟨wG_in (in_t7 (List.mem_of_getElem? (i := 31) rfl)) rfl, wG_in (in_t7 (List.mem_of_getElem? (i := 29) rfl)) rfl, wG_in (in_t7 (List.mem_of_getElem? (i := 30) rfl)) rfl, wG_in (in_t1 (List.mem_of_getElem? (i := 10) rfl)) rfl, ⟨by decide +kernel, by decide +kernel⟩, by decide +kernel, rfl⟩
theorem okX9_leastShut : VOK mX9_leastShut 0 := ⟨wG_in (in_t7 (List.mem_of_getElem? (i := 39) rfl)) rfl, wG_in (in_t7 (List.mem_of_getElem? (i := 38) rfl)) rfl, wG_in (List.mem_append_left _ (List.mem_of_getElem? (i := 53) rfl)) rfl, wG_in (in_t1 (List.mem_of_getElem? (i := 10) rfl)) rfl, ⟨by decide +kernel, by decide +kernel⟩, by decide +kernel, rfl⟩
theorem okX9_leastBlocked : VOK mX9_leastBlocked 0 := ⟨wG_in (in_t7 (List.mem_of_getElem? (i := 35) rfl)) rfl, wG_in (in_t7 (List.mem_of_getElem? (i := 33) rfl)) rfl, wG_in (in_t7 (List.mem_of_getElem? (i := 34) rfl)) rfl, wG_in (in_t1 (List.mem_of_getElem? (i := 10) rfl)) rfl, ⟨by decide +kernel, by decide +kernel⟩, by decide +kernel, rfl⟩
theorem okX9_leastBlockedByBounds : VOK mX9_leastBlockedByBounds 0 := ⟨wG_in (in_t7 (List.mem_of_getElem? (i := 43) rfl)) rfl, wG_in (in_t7 (List.mem_of_getElem? (i := 41) rfl)) rfl, wG_in (in_t7 (List.mem_of_getElem? (i := 42) rfl)) rfl, wG_in (in_t1 (List.mem_of_getElem? (i := 10) rfl)) rfl, ⟨by decide +kernel, by decide +kernel⟩, by decide +kernel, rfl⟩
theorem okX9_force : VOK mX9_force 1 := ⟨wG_in (in_t7 (List.mem_of_getElem? (i := 47) rfl)) rfl, wG_in (in_t7 (List.mem_of_getElem? (i := 45) rfl)) rfl, wG_in (in_t7 (List.mem_of_getElem? (i := 46) rfl)) rfl, wG_in (in_t1 (List.mem_of_getElem? (i := 10) rfl)) rfl, ⟨by decide +kernel, by decide +kernel⟩, by decide +kernel, rfl⟩
theorem okX9_wholeForce : VOK mX9_wholeForce 1 := ⟨wG_in (in_t7 (List.mem_of_getElem? (i := 51) rfl)) rfl, wG_in (in_t7 (List.mem_of_getElem? (i := 49) rfl)) rfl, wG_in (in_t7 (List.mem_of_getElem? (i := 50) rfl)) rfl, wG_in (in_t1 (List.mem_of_getElem? (i := 10) rfl)) rfl, ⟨by decide +kernel, by decide +kernel⟩, by decide +kernel, rfl⟩
theorem okX9_fieldAt : VOK mX9_fieldAt 1 := ⟨wG_in (in_t7 (List.mem_of_getElem? (i := 59) rfl)) rfl, wG_in (in_t7 (List.mem_of_getElem? (i := 58) rfl)) rfl, wG_in (List.mem_append_left _ (List.mem_of_getElem? (i := 54) rfl)) rfl, wG_in (in_t1 (List.mem_of_getElem? (i := 10) rfl)) rfl, ⟨by decide +kernel, by decide +kernel⟩, by decide +kernel, rfl⟩
theorem okX9_field : VOK mX9_field 1 := ⟨wG_in (in_t7 (List.mem_of_getElem? (i := 55) rfl)) rfl, wG_in (in_t7 (List.mem_of_getElem? (i := 53) rfl)) rfl, wG_in (in_t7 (List.mem_of_getElem? (i := 54) rfl)) rfl, wG_in (in_t1 (List.mem_of_getElem? (i := 10) rfl)) rfl, ⟨by decide +kernel, by decide +kernel⟩, by decide +kernel, rfl⟩
theorem okX9_strongestPosition : VOK mX9_strongestPosition 0 := ⟨wG_in (in_t7 (List.mem_of_getElem? (i := 66) rfl)) rfl, wG_in (in_t7 (List.mem_of_getElem? (i := 64) rfl)) rfl, wG_in (in_t7 (List.mem_of_getElem? (i := 65) rfl)) rfl, wG_in (in_t1 (List.mem_of_getElem? (i := 10) rfl)) rfl, ⟨by decide +kernel, by decide +kernel⟩, by decide +kernel, rfl⟩
theorem okX9_queen : VOK mX9_queen 0 := ⟨wG_in (in_t7 (List.mem_of_getElem? (i := 73) rfl)) rfl, wG_in (in_t7 (List.mem_of_getElem? (i := 71) rfl)) rfl, wG_in (in_t7 (List.mem_of_getElem? (i := 72) rfl)) rfl, wG_in (in_t1 (List.mem_of_getElem? (i := 10) rfl)) rfl, ⟨by decide +kernel, by decide +kernel⟩, by decide +kernel, rfl⟩
theorem okX9_meanStrength : VOK mX9_meanStrength 0 := ⟨wG_in (in_t7 (List.mem_of_getElem? (i := 77) rfl)) rfl, wG_in (in_t7 (List.mem_of_getElem? (i := 75) rfl)) rfl, wG_in (in_t7 (List.mem_of_getElem? (i := 76) rfl)) rfl, wG_in (in_t1 (List.mem_of_getElem? (i := 10) rfl)) rfl, ⟨by decide +kernel, by decide +kernel⟩, by decide +kernel, rfl⟩
theorem okX9_openShare : VOK mX9_openShare 0 := ⟨wG_in (in_t7 (List.mem_of_getElem? (i := 81) rfl)) rfl, wG_in (in_t7 (List.mem_of_getElem? (i := 79) rfl)) rfl, wG_in (in_t7 (List.mem_of_getElem? (i := 80) rfl)) rfl, wG_in (in_t1 (List.mem_of_getElem? (i := 10) rfl)) rfl, ⟨by decide +kernel, by decide +kernel⟩, by decide +kernel, rfl⟩
theorem okX9_turnTotal : VOK mX9_turnTotal 0 := ⟨wG_in (in_t7 (List.mem_of_getElem? (i := 85) rfl)) rfl, wG_in (in_t7 (List.mem_of_getElem? (i := 83) rfl)) rfl, wG_in (in_t7 (List.mem_of_getElem? (i := 84) rfl)) rfl, wG_in (in_t1 (List.mem_of_getElem? (i := 10) rfl)) rfl, ⟨by decide +kernel, by decide +kernel⟩, by decide +kernel, rfl⟩
theorem okX9_turnsOf : VOK mX9_turnsOf 1 := ⟨wG_in (in_t7 (List.mem_of_getElem? (i := 89) rfl)) rfl, wG_in (in_t7 (List.mem_of_getElem? (i := 87) rfl)) rfl, wG_in (in_t7 (List.mem_of_getElem? (i := 88) rfl)) rfl, wG_in (in_t1 (List.mem_of_getElem? (i := 10) rfl)) rfl, ⟨by decide +kernel, by decide +kernel⟩, by decide +kernel, rfl⟩
theorem okX9_moved : VOK mX9_moved 0 := ⟨wG_in (in_t7 (List.mem_of_getElem? (i := 93) rfl)) rfl, wG_in (in_t7 (List.mem_of_getElem? (i := 91) rfl)) rfl, wG_in (in_t7 (List.mem_of_getElem? (i := 92) rfl)) rfl, wG_in (in_t1 (List.mem_of_getElem? (i := 10) rfl)) rfl, ⟨by decide +kernel, by decide +kernel⟩, by decide +kernel, rfl⟩
theorem okX9_feed : VOK mX9_feed 1 := ⟨wG_in (in_t7 (List.mem_of_getElem? (i := 97) rfl)) rfl, wG_in (in_t7 (List.mem_of_getElem? (i := 95) rfl)) rfl, wG_in (in_t7 (List.mem_of_getElem? (i := 96) rfl)) rfl, wG_in (in_t1 (List.mem_of_getElem? (i := 10) rfl)) rfl, ⟨by decide +kernel, by decide +kernel⟩, by decide +kernel, rfl⟩
theorem okX9_here : VOK mX9_here 0 := ⟨wG_in (in_t7 (List.mem_of_getElem? (i := 117) rfl)) rfl, wG_in (in_t7 (List.mem_of_getElem? (i := 116) rfl)) rfl, wG_in (List.mem_append_left _ (List.mem_of_getElem? (i := 58) rfl)) rfl, wG_in (in_t1 (List.mem_of_getElem? (i := 10) rfl)) rfl, ⟨by decide +kernel, by decide +kernel⟩, by decide +kernel, rfl⟩
theorem okX9_skips : VOK mX9_skips 1 := ⟨wG_in (in_t7 (List.mem_of_getElem? (i := 113) rfl)) rfl, wG_in (in_t7 (List.mem_of_getElem? (i := 112) rfl)) rfl, wG_in (List.mem_append_left _ (List.mem_of_getElem? (i := 57) rfl)) rfl, wG_in (in_t1 (List.mem_of_getElem? (i := 10) rfl)) rfl, ⟨by decide +kernel, by decide +kernel⟩, by decide +kernel, rfl⟩
theorem okX9_isWord : VOK mX9_isWord 2 := ⟨wG_in (in_t7 (List.mem_of_getElem? (i := 122) rfl)) rfl, wG_in (in_t7 (List.mem_of_getElem? (i := 121) rfl)) rfl, wG_in (List.mem_append_left _ (List.mem_of_getElem? (i := 59) rfl)) rfl, wG_in (in_t1 (List.mem_of_getElem? (i := 10) rfl)) rfl, ⟨by decide +kernel, by decide +kernel⟩, by decide +kernel, rfl⟩
theorem okX9_figures : VOK mX9_figures 3 := ⟨wG_in (in_t7 (List.mem_of_getElem? (i := 128) rfl)) rfl, wG_in (in_t7 (List.mem_of_getElem? (i := 127) rfl)) rfl, wG_in (List.mem_append_left _ (List.mem_of_getElem? (i := 60) rfl)) rfl, wG_in (in_t1 (List.mem_of_getElem? (i := 10) rfl)) rfl, ⟨by decide +kernel, by decide +kernel⟩, by decide +kernel, rfl⟩
theorem okX9_poleHere : VOK mX9_poleHere 1 := ⟨wG_in (in_t7 (List.mem_of_getElem? (i := 136) rfl)) rfl, wG_in (in_t7 (List.mem_of_getElem? (i := 135) rfl)) rfl, wG_in (List.mem_append_left _ (List.mem_of_getElem? (i := 61) rfl)) rfl, wG_in (in_t1 (List.mem_of_getElem? (i := 10) rfl)) rfl, ⟨by decide +kernel, by decide +kernel⟩, by decide +kernel, rfl⟩
theorem okX9_commandHere : VOK mX9_commandHere 0 := ⟨wG_in (in_t7 (List.mem_of_getElem? (i := 109) rfl)) rfl, wG_in (in_t7 (List.mem_of_getElem? (i := 108) rfl)) rfl, wG_in (List.mem_append_left _ (List.mem_of_getElem? (i := 56) rfl)) rfl, wG_in (in_t1 (List.mem_of_getElem? (i := 10) rfl)) rfl, ⟨by decide +kernel, by decide +kernel⟩, by decide +kernel, rfl⟩
theorem okX9_isText : VOK mX9_isText 0 := ⟨wG_in (in_t7 (List.mem_of_getElem? (i := 105) rfl)) rfl, wG_in (in_t7 (List.mem_of_getElem? (i := 104) rfl)) rfl, wG_in (List.mem_append_left _ (List.mem_of_getElem? (i := 55) rfl)) rfl, wG_in (in_t1 (List.mem_of_getElem? (i := 10) rfl)) rfl, ⟨by decide +kernel, by decide +kernel⟩, by decide +kernel, rfl⟩
theorem okX9_carries : VOK mX9_carries 1 := ⟨wG_in (in_t7 (List.mem_of_getElem? (i := 143) rfl)) rfl, wG_in (in_t7 (List.mem_of_getElem? (i := 142) rfl)) rfl, wG_in (List.mem_append_left _ (List.mem_of_getElem? (i := 62) rfl)) rfl, wG_in (in_t1 (List.mem_of_getElem? (i := 10) rfl)) rfl, ⟨by decide +kernel, by decide +kernel⟩, by decide +kernel, rfl⟩
theorem okX9_deniesText : VOK mX9_deniesText 1 := ⟨wG_in (in_t7 (List.mem_of_getElem? (i := 155) rfl)) rfl, wG_in (in_t7 (List.mem_of_getElem? (i := 154) rfl)) rfl, wG_in (List.mem_append_left _ (List.mem_of_getElem? (i := 63) rfl)) rfl, wG_in (in_t1 (List.mem_of_getElem? (i := 10) rfl)) rfl, ⟨by decide +kernel, by decide +kernel⟩, by decide +kernel, rfl⟩
theorem okX9_execute : VOK mX9_execute 0 := ⟨wG_in (in_t7 (List.mem_of_getElem? (i := 101) rfl)) rfl, wG_in (in_t7 (List.mem_of_getElem? (i := 99) rfl)) rfl, wG_in (in_t7 (List.mem_of_getElem? (i := 100) rfl)) rfl, wG_in (in_t1 (List.mem_of_getElem? (i := 10) rfl)) rfl, ⟨by decide +kernel, by decide +kernel⟩, by decide +kernel, rfl⟩
theorem okX9_faultPosition : VOK mX9_faultPosition 0 := ⟨wG_in (in_t7 (List.mem_of_getElem? (i := 159) rfl)) rfl, wG_in (in_t7 (List.mem_of_getElem? (i := 157) rfl)) rfl, wG_in (in_t7 (List.mem_of_getElem? (i := 158) rfl)) rfl, wG_in (in_t1 (List.mem_of_getElem? (i := 10) rfl)) rfl, ⟨by decide +kernel, by decide +kernel⟩, by decide +kernel, rfl⟩
theorem okX9_writes : VOK mX9_writes 1 := ⟨wG_in (in_t7 (List.mem_of_getElem? (i := 171) rfl)) rfl, wG_in (in_t7 (List.mem_of_getElem? (i := 170) rfl)) rfl, wG_in (List.mem_append_left _ (List.mem_of_getElem? (i := 65) rfl)) rfl, wG_in (in_t1 (List.mem_of_getElem? (i := 10) rfl)) rfl, ⟨by decide +kernel, by decide +kernel⟩, by decide +kernel, rfl⟩
theorem okX9_writesNumber : VOK mX9_writesNumber 1 := ⟨wG_in (in_t7 (List.mem_of_getElem? (i := 167) rfl)) rfl, wG_in (in_t7 (List.mem_of_getElem? (i := 166) rfl)) rfl, wG_in (List.mem_append_left _ (List.mem_of_getElem? (i := 64) rfl)) rfl, wG_in (in_t1 (List.mem_of_getElem? (i := 10) rfl)) rfl, ⟨by decide +kernel, by decide +kernel⟩, by decide +kernel, rfl⟩
theorem okX9_writesBehind : VOK mX9_writesBehind 2 := ⟨wG_in (in_t7 (List.mem_of_getElem? (i := 175) rfl)) rfl, wG_in (in_t7 (List.mem_of_getElem? (i := 174) rfl)) rfl, wG_in (List.mem_append_left _ (List.mem_of_getElem? (i := 66) rfl)) rfl, wG_in (in_t1 (List.mem_of_getElem? (i := 10) rfl)) rfl, ⟨by decide +kernel, by decide +kernel⟩, by decide +kernel, rfl⟩
theorem okX9_writeMagnet : VOK mX9_writeMagnet 1 := ⟨wG_in (in_t7 (List.mem_of_getElem? (i := 163) rfl)) rfl, wG_in (in_t7 (List.mem_of_getElem? (i := 161) rfl)) rfl, wG_in (in_t7 (List.mem_of_getElem? (i := 162) rfl)) rfl, wG_in (in_t1 (List.mem_of_getElem? (i := 10) rfl)) rfl, ⟨by decide +kernel, by decide +kernel⟩, by decide +kernel, rfl⟩
theorem okX9_lineCharacter : VOK mX9_lineCharacter 1 := ⟨wG_in (in_t7 (List.mem_of_getElem? (i := 179) rfl)) rfl, wG_in (in_t7 (List.mem_of_getElem? (i := 177) rfl)) rfl, wG_in (in_t7 (List.mem_of_getElem? (i := 178) rfl)) rfl, wG_in (in_t1 (List.mem_of_getElem? (i := 10) rfl)) rfl, ⟨by decide +kernel, by decide +kernel⟩, by decide +kernel, rfl⟩
theorem okX9_denial : VOK mX9_denial 0 := ⟨wG_in (in_t7 (List.mem_of_getElem? (i := 183) rfl)) rfl, wG_in (in_t7 (List.mem_of_getElem? (i := 181) rfl)) rfl, wG_in (in_t7 (List.mem_of_getElem? (i := 182) rfl)) rfl, wG_in (in_t1 (List.mem_of_getElem? (i := 10) rfl)) rfl, ⟨by decide +kernel, by decide +kernel⟩, by decide +kernel, rfl⟩
theorem okX9_denialDetail : VOK mX9_denialDetail 0 := ⟨wG_in (in_t7 (List.mem_of_getElem? (i := 187) rfl)) rfl, wG_in (in_t7 (List.mem_of_getElem? (i := 185) rfl)) rfl, wG_in (in_t7 (List.mem_of_getElem? (i := 186) rfl)) rfl, wG_in (in_t1 (List.mem_of_getElem? (i := 10) rfl)) rfl, ⟨by decide +kernel, by decide +kernel⟩, by decide +kernel, rfl⟩
theorem okX9_denialCause : VOK mX9_denialCause 0 := ⟨wG_in (in_t7 (List.mem_of_getElem? (i := 191) rfl)) rfl, wG_in (in_t7 (List.mem_of_getElem? (i := 189) rfl)) rfl, wG_in (in_t7 (List.mem_of_getElem? (i := 190) rfl)) rfl, wG_in (in_t1 (List.mem_of_getElem? (i := 10) rfl)) rfl, ⟨by decide +kernel, by decide +kernel⟩, by decide +kernel, rfl⟩
theorem okX9_undo : VOK mX9_undo 0 := ⟨wG_in (in_t7 (List.mem_of_getElem? (i := 195) rfl)) rfl, wG_in (in_t7 (List.mem_of_getElem? (i := 193) rfl)) rfl, wG_in (in_t7 (List.mem_of_getElem? (i := 194) rfl)) rfl, wG_in (in_t1 (List.mem_of_getElem? (i := 10) rfl)) rfl, ⟨by decide +kernel, by decide +kernel⟩, by decide +kernel, rfl⟩
theorem okX9_undoCount : VOK mX9_undoCount 0 := ⟨wG_in (in_t7 (List.mem_of_getElem? (i := 199) rfl)) rfl, wG_in (in_t7 (List.mem_of_getElem? (i := 197) rfl)) rfl, wG_in (in_t7 (List.mem_of_getElem? (i := 198) rfl)) rfl, wG_in (in_t1 (List.mem_of_getElem? (i := 10) rfl)) rfl, ⟨by decide +kernel, by decide +kernel⟩, by decide +kernel, rfl⟩
theorem okX9_saveSnapshot : VOK mX9_saveSnapshot 0 := ⟨wG_in (in_t7 (List.mem_of_getElem? (i := 203) rfl)) rfl, wG_in (in_t7 (List.mem_of_getElem? (i := 201) rfl)) rfl, wG_in (in_t7 (List.mem_of_getElem? (i := 202) rfl)) rfl, wG_in (in_t1 (List.mem_of_getElem? (i := 10) rfl)) rfl, ⟨by decide +kernel, by decide +kernel⟩, by decide +kernel, rfl⟩
theorem okX9_restoreSnapshot : VOK mX9_restoreSnapshot 0 := ⟨wG_in (in_t7 (List.mem_of_getElem? (i := 207) rfl)) rfl, wG_in (in_t7 (List.mem_of_getElem? (i := 205) rfl)) rfl, wG_in (in_t7 (List.mem_of_getElem? (i := 206) rfl)) rfl, wG_in (in_t1 (List.mem_of_getElem? (i := 10) rfl)) rfl, ⟨by decide +kernel, by decide +kernel⟩, by decide +kernel, rfl⟩
theorem okJx00060_init_a7421 : IOK mJx00060_init_a7421 1 := ⟨wG_in (in_t3 (List.mem_of_getElem? (i := 203) rfl)) rfl, wG_in (in_t3 (List.mem_of_getElem? (i := 202) rfl)) rfl, rfl, wG_in (in_t1 (List.mem_of_getElem? (i := 20) rfl)) rfl, ⟨by decide +kernel, by decide +kernel⟩, by decide +kernel, rfl, rfl⟩
theorem okJ6_bitCount_0f7a4 : SOK mJ6_bitCount_0f7a4 1 := ⟨wG_in (in_t2 (List.mem_of_getElem? (i := 134) rfl)) rfl, wG_in (in_t2 (List.mem_of_getElem? (i := 133) rfl)) rfl, wG_in (in_t1 (List.mem_of_getElem? (i := 11) rfl)) rfl, ⟨by decide +kernel, by decide +kernel⟩, by decide +kernel⟩
theorem okJ9_abs_0f7a4 : SOK mJ9_abs_0f7a4 1 := ⟨wG_in (in_t4 (List.mem_of_getElem? (i := 183) rfl)) rfl, wG_in (in_t4 (List.mem_of_getElem? (i := 182) rfl)) rfl, wG_in (in_t1 (List.mem_of_getElem? (i := 19) rfl)) rfl, ⟨by decide +kernel, by decide +kernel⟩, by decide +kernel⟩
theorem okJ9_max_7cf53 : SOK mJ9_max_7cf53 2 := ⟨wG_in (in_t5 (List.mem_of_getElem? (i := 138) rfl)) rfl, wG_in (in_t5 (List.mem_of_getElem? (i := 137) rfl)) rfl, wG_in (in_t1 (List.mem_of_getElem? (i := 19) rfl)) rfl, ⟨by decide +kernel, by decide +kernel⟩, by decide +kernel⟩
theorem okJ9_min_7cf53 : SOK mJ9_min_7cf53 2 := ⟨wG_in (in_t3 (List.mem_of_getElem? (i := 24) rfl)) rfl, wG_in (in_t3 (List.mem_of_getElem? (i := 23) rfl)) rfl, wG_in (in_t1 (List.mem_of_getElem? (i := 19) rfl)) rfl, ⟨by decide +kernel, by decide +kernel⟩, by decide +kernel⟩
theorem okJ0_length_8abf5 : VOK mJ0_length_8abf5 0 := ⟨wG_in (in_t5 (List.mem_of_getElem? (i := 79) rfl)) rfl, wG_in (in_t5 (List.mem_of_getElem? (i := 77) rfl)) rfl, wG_in (in_t5 (List.mem_of_getElem? (i := 78) rfl)) rfl, wG_in (in_t1 (List.mem_of_getElem? (i := 21) rfl)) rfl, ⟨by decide +kernel, by decide +kernel⟩, by decide +kernel, rfl⟩
theorem okJ0_charAt_5068e : VOK mJ0_charAt_5068e 1 := ⟨wG_in (in_t5 (List.mem_of_getElem? (i := 89) rfl)) rfl, wG_in (in_t5 (List.mem_of_getElem? (i := 87) rfl)) rfl, wG_in (in_t5 (List.mem_of_getElem? (i := 88) rfl)) rfl, wG_in (in_t1 (List.mem_of_getElem? (i := 21) rfl)) rfl, ⟨by decide +kernel, by decide +kernel⟩, by decide +kernel, rfl⟩
theorem okJ0_coder_7d493 : VOK mJ0_coder_7d493 0 := ⟨wG_in (in_t5 (List.mem_of_getElem? (i := 83) rfl)) rfl, wG_in (in_t5 (List.mem_of_getElem? (i := 81) rfl)) rfl, wG_in (in_t5 (List.mem_of_getElem? (i := 82) rfl)) rfl, wG_in (in_t1 (List.mem_of_getElem? (i := 21) rfl)) rfl, ⟨by decide +kernel, by decide +kernel⟩, by decide +kernel, rfl⟩
theorem okJ0_isLatin1_aae02 : VOK mJ0_isLatin1_aae02 0 := ⟨wG_in (in_t5 (List.mem_of_getElem? (i := 93) rfl)) rfl, wG_in (in_t5 (List.mem_of_getElem? (i := 91) rfl)) rfl, wG_in (in_t5 (List.mem_of_getElem? (i := 92) rfl)) rfl, wG_in (in_t1 (List.mem_of_getElem? (i := 21) rfl)) rfl, ⟨by decide +kernel, by decide +kernel⟩, by decide +kernel, rfl⟩
theorem okJ0_checkIndex_df160 : SOK mJ0_checkIndex_df160 2 := ⟨wG_in (in_t5 (List.mem_of_getElem? (i := 99) rfl)) rfl, wG_in (in_t5 (List.mem_of_getElem? (i := 98) rfl)) rfl, wG_in (in_t1 (List.mem_of_getElem? (i := 21) rfl)) rfl, ⟨by decide +kernel, by decide +kernel⟩, by decide +kernel⟩
theorem okJ1_charAt_3b067 : SOK mJ1_charAt_3b067 2 := ⟨wG_in (in_t5 (List.mem_of_getElem? (i := 96) rfl)) rfl, wG_in (in_t5 (List.mem_of_getElem? (i := 95) rfl)) rfl, wG_in (in_t1 (List.mem_of_getElem? (i := 26) rfl)) rfl, ⟨by decide +kernel, by decide +kernel⟩, by decide +kernel⟩
theorem okJ2_getChar_3b067 : SOK mJ2_getChar_3b067 2 := ⟨wG_in (in_t5 (List.mem_of_getElem? (i := 117) rfl)) rfl, wG_in (in_t5 (List.mem_of_getElem? (i := 116) rfl)) rfl, wG_in (in_t1 (List.mem_of_getElem? (i := 28) rfl)) rfl, ⟨by decide +kernel, by decide +kernel⟩, by decide +kernel⟩
theorem okJ2_length_9d52b : SOK mJ2_length_9d52b 1 := ⟨wG_in (in_t5 (List.mem_of_getElem? (i := 113) rfl)) rfl, wG_in (in_t5 (List.mem_of_getElem? (i := 112) rfl)) rfl, wG_in (in_t1 (List.mem_of_getElem? (i := 28) rfl)) rfl, ⟨by decide +kernel, by decide +kernel⟩, by decide +kernel⟩
theorem okJ2_charAt_3b067 : SOK mJ2_charAt_3b067 2 := ⟨wG_in (in_t5 (List.mem_of_getElem? (i := 107) rfl)) rfl, wG_in (in_t5 (List.mem_of_getElem? (i := 106) rfl)) rfl, wG_in (in_t1 (List.mem_of_getElem? (i := 28) rfl)) rfl, ⟨by decide +kernel, by decide +kernel⟩, by decide +kernel⟩
theorem okJ2_checkIndex_2214a : SOK mJ2_checkIndex_2214a 2 := ⟨wG_in (in_t5 (List.mem_of_getElem? (i := 110) rfl)) rfl, wG_in (in_t5 (List.mem_of_getElem? (i := 109) rfl)) rfl, wG_in (in_t1 (List.mem_of_getElem? (i := 28) rfl)) rfl, ⟨by decide +kernel, by decide +kernel⟩, by decide +kernel⟩
theorem okJ7_fill_53178 : SOK mJ7_fill_53178 2 := ⟨wG_in (in_t3 (List.mem_of_getElem? (i := 110) rfl)) rfl, wG_in (in_t3 (List.mem_of_getElem? (i := 109) rfl)) rfl, wG_in (in_t1 (List.mem_of_getElem? (i := 23) rfl)) rfl, ⟨by decide +kernel, by decide +kernel⟩, by decide +kernel⟩
theorem okJ3_checkIndex_8e157 : SOK mJ3_checkIndex_8e157 3 := ⟨wG_in (in_t5 (List.mem_of_getElem? (i := 104) rfl)) rfl, wG_in (in_t5 (List.mem_of_getElem? (i := 103) rfl)) rfl, wG_in (in_t1 (List.mem_of_getElem? (i := 27) rfl)) rfl, ⟨by decide +kernel, by decide +kernel⟩, by decide +kernel⟩
theorem okL_addMagnet : SOK mL_addMagnet 5 := ⟨wG_in (in_t3 (List.mem_of_getElem? (i := 190) rfl)) rfl, wG_in (in_t3 (List.mem_of_getElem? (i := 189) rfl)) rfl, wG_in (in_t1 (List.mem_of_getElem? (i := 0) rfl)) rfl, ⟨by decide +kernel, by decide +kernel⟩, by decide +kernel⟩
theorem okL_setStrength : SOK mL_setStrength 4 := ⟨wG_in (in_t3 (List.mem_of_getElem? (i := 199) rfl)) rfl, wG_in (in_t3 (List.mem_of_getElem? (i := 198) rfl)) rfl, wG_in (in_t1 (List.mem_of_getElem? (i := 0) rfl)) rfl, ⟨by decide +kernel, by decide +kernel⟩, by decide +kernel⟩
theorem okL_turn : SOK mL_turn 3 := ⟨wG_in (in_t3 (List.mem_of_getElem? (i := 227) rfl)) rfl, wG_in (in_t3 (List.mem_of_getElem? (i := 226) rfl)) rfl, wG_in (in_t1 (List.mem_of_getElem? (i := 0) rfl)) rfl, ⟨by decide +kernel, by decide +kernel⟩, by decide +kernel⟩
theorem okL_shift : SOK mL_shift 3 := ⟨wG_in (in_t3 (List.mem_of_getElem? (i := 234) rfl)) rfl, wG_in (in_t3 (List.mem_of_getElem? (i := 233) rfl)) rfl, wG_in (in_t1 (List.mem_of_getElem? (i := 0) rfl)) rfl, ⟨by decide +kernel, by decide +kernel⟩, by decide +kernel⟩
theorem okL_position : SOK mL_position 3 := ⟨wG_in (in_t4 (List.mem_of_getElem? (i := 1) rfl)) rfl, wG_in (in_t4 (List.mem_of_getElem? (i := 0) rfl)) rfl, wG_in (in_t1 (List.mem_of_getElem? (i := 0) rfl)) rfl, ⟨by decide +kernel, by decide +kernel⟩, by decide +kernel⟩
theorem okL_strength : SOK mL_strength 3 := ⟨wG_in (in_t4 (List.mem_of_getElem? (i := 14) rfl)) rfl, wG_in (in_t4 (List.mem_of_getElem? (i := 13) rfl)) rfl, wG_in (in_t1 (List.mem_of_getElem? (i := 0) rfl)) rfl, ⟨by decide +kernel, by decide +kernel⟩, by decide +kernel⟩
theorem okL_pole : SOK mL_pole 3 := ⟨wG_in (in_t4 (List.mem_of_getElem? (i := 21) rfl)) rfl, wG_in (in_t4 (List.mem_of_getElem? (i := 20) rfl)) rfl, wG_in (in_t1 (List.mem_of_getElem? (i := 0) rfl)) rfl, ⟨by decide +kernel, by decide +kernel⟩, by decide +kernel⟩
theorem okL_magnetAt : SOK mL_magnetAt 3 := ⟨wG_in (in_t4 (List.mem_of_getElem? (i := 32) rfl)) rfl, wG_in (in_t4 (List.mem_of_getElem? (i := 31) rfl)) rfl, wG_in (in_t1 (List.mem_of_getElem? (i := 0) rfl)) rfl, ⟨by decide +kernel, by decide +kernel⟩, by decide +kernel⟩
theorem okL_magnetByStrength : SOK mL_magnetByStrength 3 := ⟨wG_in (in_t4 (List.mem_of_getElem? (i := 65) rfl)) rfl, wG_in (in_t4 (List.mem_of_getElem? (i := 64) rfl)) rfl, wG_in (in_t1 (List.mem_of_getElem? (i := 0) rfl)) rfl, ⟨by decide +kernel, by decide +kernel⟩, by decide +kernel⟩
theorem okL_dig : SOK mL_dig 4 := ⟨wG_in (in_t4 (List.mem_of_getElem? (i := 80) rfl)) rfl, wG_in (in_t4 (List.mem_of_getElem? (i := 79) rfl)) rfl, wG_in (in_t1 (List.mem_of_getElem? (i := 0) rfl)) rfl, ⟨by decide +kernel, by decide +kernel⟩, by decide +kernel⟩
theorem okL_fill : SOK mL_fill 3 := ⟨wG_in (in_t4 (List.mem_of_getElem? (i := 87) rfl)) rfl, wG_in (in_t4 (List.mem_of_getElem? (i := 86) rfl)) rfl, wG_in (in_t1 (List.mem_of_getElem? (i := 0) rfl)) rfl, ⟨by decide +kernel, by decide +kernel⟩, by decide +kernel⟩
theorem okL_settle : SOK mL_settle 2 := ⟨wG_in (in_t4 (List.mem_of_getElem? (i := 94) rfl)) rfl, wG_in (in_t4 (List.mem_of_getElem? (i := 93) rfl)) rfl, wG_in (in_t1 (List.mem_of_getElem? (i := 0) rfl)) rfl, ⟨by decide +kernel, by decide +kernel⟩, by decide +kernel⟩
theorem okL_isOpen : SOK mL_isOpen 3 := ⟨wG_in (in_t4 (List.mem_of_getElem? (i := 101) rfl)) rfl, wG_in (in_t4 (List.mem_of_getElem? (i := 100) rfl)) rfl, wG_in (in_t1 (List.mem_of_getElem? (i := 0) rfl)) rfl, ⟨by decide +kernel, by decide +kernel⟩, by decide +kernel⟩
theorem okL_walk : SOK mL_walk 4 := ⟨wG_in (in_t4 (List.mem_of_getElem? (i := 118) rfl)) rfl, wG_in (in_t4 (List.mem_of_getElem? (i := 117) rfl)) rfl, wG_in (in_t1 (List.mem_of_getElem? (i := 0) rfl)) rfl, ⟨by decide +kernel, by decide +kernel⟩, by decide +kernel⟩
theorem okL_fewestTurns : SOK mL_fewestTurns 2 := ⟨wG_in (in_t4 (List.mem_of_getElem? (i := 134) rfl)) rfl, wG_in (in_t4 (List.mem_of_getElem? (i := 133) rfl)) rfl, wG_in (in_t1 (List.mem_of_getElem? (i := 0) rfl)) rfl, ⟨by decide +kernel, by decide +kernel⟩, by decide +kernel⟩
theorem okL_fewestTurnsBySets : SOK mL_fewestTurnsBySets 2 := ⟨wG_in (in_t4 (List.mem_of_getElem? (i := 146) rfl)) rfl, wG_in (in_t4 (List.mem_of_getElem? (i := 145) rfl)) rfl, wG_in (in_t1 (List.mem_of_getElem? (i := 0) rfl)) rfl, ⟨by decide +kernel, by decide +kernel⟩, by decide +kernel⟩
theorem okL_force : SOK mL_force 3 := ⟨wG_in (in_t4 (List.mem_of_getElem? (i := 157) rfl)) rfl, wG_in (in_t4 (List.mem_of_getElem? (i := 156) rfl)) rfl, wG_in (in_t1 (List.mem_of_getElem? (i := 0) rfl)) rfl, ⟨by decide +kernel, by decide +kernel⟩, by decide +kernel⟩
theorem okL_wholeForce : SOK mL_wholeForce 3 := ⟨wG_in (in_t4 (List.mem_of_getElem? (i := 165) rfl)) rfl, wG_in (in_t4 (List.mem_of_getElem? (i := 164) rfl)) rfl, wG_in (in_t1 (List.mem_of_getElem? (i := 0) rfl)) rfl, ⟨by decide +kernel, by decide +kernel⟩, by decide +kernel⟩
theorem okL_field : SOK mL_field 3 := ⟨wG_in (in_t4 (List.mem_of_getElem? (i := 172) rfl)) rfl, wG_in (in_t4 (List.mem_of_getElem? (i := 171) rfl)) rfl, wG_in (in_t1 (List.mem_of_getElem? (i := 0) rfl)) rfl, ⟨by decide +kernel, by decide +kernel⟩, by decide +kernel⟩
theorem okL_strongestPosition : SOK mL_strongestPosition 2 := ⟨wG_in (in_t4 (List.mem_of_getElem? (i := 186) rfl)) rfl, wG_in (in_t4 (List.mem_of_getElem? (i := 185) rfl)) rfl, wG_in (in_t1 (List.mem_of_getElem? (i := 0) rfl)) rfl, ⟨by decide +kernel, by decide +kernel⟩, by decide +kernel⟩
theorem okL_queen : SOK mL_queen 2 := ⟨wG_in (in_t4 (List.mem_of_getElem? (i := 202) rfl)) rfl, wG_in (in_t4 (List.mem_of_getElem? (i := 201) rfl)) rfl, wG_in (in_t1 (List.mem_of_getElem? (i := 0) rfl)) rfl, ⟨by decide +kernel, by decide +kernel⟩, by decide +kernel⟩
theorem okL_meanStrength : SOK mL_meanStrength 2 := ⟨wG_in (in_t4 (List.mem_of_getElem? (i := 213) rfl)) rfl, wG_in (in_t4 (List.mem_of_getElem? (i := 212) rfl)) rfl, wG_in (in_t1 (List.mem_of_getElem? (i := 0) rfl)) rfl, ⟨by decide +kernel, by decide +kernel⟩, by decide +kernel⟩
theorem okL_openShare : SOK mL_openShare 2 := ⟨wG_in (in_t5 (List.mem_of_getElem? (i := 1) rfl)) rfl, wG_in (in_t5 (List.mem_of_getElem? (i := 0) rfl)) rfl, wG_in (in_t1 (List.mem_of_getElem? (i := 0) rfl)) rfl, ⟨by decide +kernel, by decide +kernel⟩, by decide +kernel⟩
theorem okL_turnsOf : SOK mL_turnsOf 3 := ⟨wG_in (in_t5 (List.mem_of_getElem? (i := 9) rfl)) rfl, wG_in (in_t5 (List.mem_of_getElem? (i := 8) rfl)) rfl, wG_in (in_t1 (List.mem_of_getElem? (i := 0) rfl)) rfl, ⟨by decide +kernel, by decide +kernel⟩, by decide +kernel⟩
theorem okL_feed : SOK mL_feed 3 := ⟨wG_in (in_t5 (List.mem_of_getElem? (i := 16) rfl)) rfl, wG_in (in_t5 (List.mem_of_getElem? (i := 15) rfl)) rfl, wG_in (in_t1 (List.mem_of_getElem? (i := 0) rfl)) rfl, ⟨by decide +kernel, by decide +kernel⟩, by decide +kernel⟩
theorem okL_execute : SOK mL_execute 2 := ⟨wG_in (in_t5 (List.mem_of_getElem? (i := 48) rfl)) rfl, wG_in (in_t5 (List.mem_of_getElem? (i := 47) rfl)) rfl, wG_in (in_t1 (List.mem_of_getElem? (i := 0) rfl)) rfl, ⟨by decide +kernel, by decide +kernel⟩, by decide +kernel⟩
theorem okL_faultPosition : SOK mL_faultPosition 2 := ⟨wG_in (in_t5 (List.mem_of_getElem? (i := 158) rfl)) rfl, wG_in (in_t5 (List.mem_of_getElem? (i := 157) rfl)) rfl, wG_in (in_t1 (List.mem_of_getElem? (i := 0) rfl)) rfl, ⟨by decide +kernel, by decide +kernel⟩, by decide +kernel⟩
theorem okL_writeMagnet : SOK mL_writeMagnet 3 := ⟨wG_in (in_t5 (List.mem_of_getElem? (i := 165) rfl)) rfl, wG_in (in_t5 (List.mem_of_getElem? (i := 164) rfl)) rfl, wG_in (in_t1 (List.mem_of_getElem? (i := 0) rfl)) rfl, ⟨by decide +kernel, by decide +kernel⟩, by decide +kernel⟩
theorem okL_lineCharacter : SOK mL_lineCharacter 3 := ⟨wG_in (in_t5 (List.mem_of_getElem? (i := 187) rfl)) rfl, wG_in (in_t5 (List.mem_of_getElem? (i := 186) rfl)) rfl, wG_in (in_t1 (List.mem_of_getElem? (i := 0) rfl)) rfl, ⟨by decide +kernel, by decide +kernel⟩, by decide +kernel⟩
theorem okL_denial : SOK mL_denial 2 := ⟨wG_in (in_t5 (List.mem_of_getElem? (i := 195) rfl)) rfl, wG_in (in_t5 (List.mem_of_getElem? (i := 194) rfl)) rfl, wG_in (in_t1 (List.mem_of_getElem? (i := 0) rfl)) rfl, ⟨by decide +kernel, by decide +kernel⟩, by decide +kernel⟩
theorem okL_denialDetail : SOK mL_denialDetail 2 := ⟨wG_in (in_t5 (List.mem_of_getElem? (i := 207) rfl)) rfl, wG_in (in_t5 (List.mem_of_getElem? (i := 206) rfl)) rfl, wG_in (in_t1 (List.mem_of_getElem? (i := 0) rfl)) rfl, ⟨by decide +kernel, by decide +kernel⟩, by decide +kernel⟩
theorem okL_denialCause : SOK mL_denialCause 2 := ⟨wG_in (in_t5 (List.mem_of_getElem? (i := 214) rfl)) rfl, wG_in (in_t5 (List.mem_of_getElem? (i := 213) rfl)) rfl, wG_in (in_t1 (List.mem_of_getElem? (i := 0) rfl)) rfl, ⟨by decide +kernel, by decide +kernel⟩, by decide +kernel⟩
theorem okL_undo : SOK mL_undo 2 := ⟨wG_in (in_t5 (List.mem_of_getElem? (i := 222) rfl)) rfl, wG_in (in_t5 (List.mem_of_getElem? (i := 221) rfl)) rfl, wG_in (in_t1 (List.mem_of_getElem? (i := 0) rfl)) rfl, ⟨by decide +kernel, by decide +kernel⟩, by decide +kernel⟩
theorem okL_restoreSnapshot : SOK mL_restoreSnapshot 2 := ⟨wG_in (in_t5 (List.mem_of_getElem? (i := 234) rfl)) rfl, wG_in (in_t5 (List.mem_of_getElem? (i := 233) rfl)) rfl, wG_in (in_t1 (List.mem_of_getElem? (i := 0) rfl)) rfl, ⟨by decide +kernel, by decide +kernel⟩, by decide +kernel⟩
theorem fl_X1_27 : Cond.fieldLink RX1 27 "MagnetColony$Colony" "magnets" "I" ∈ wG := wG_in (in_t1 (List.mem_of_getElem? (i := 43) rfl)) rfl
theorem fl_X6_31 : Cond.fieldLink RX6 31 "MagnetColony$Colony" "magnets" "I" ∈ wG := wG_in (in_t1 (List.mem_of_getElem? (i := 44) rfl)) rfl
theorem fl_X3_15 : Cond.fieldLink RX3 15 "MagnetColony$Colony" "magnets" "I" ∈ wG := wG_in (in_t1 (List.mem_of_getElem? (i := 45) rfl)) rfl
theorem fl_X0_52 : Cond.fieldLink RX0 52 "MagnetColony$Colony" "magnets" "I" ∈ wG := wG_in (in_t1 (List.mem_of_getElem? (i := 46) rfl)) rfl
theorem fl_X8_76 : Cond.fieldLink RX8 76 "MagnetColony$Colony" "magnets" "I" ∈ wG := wG_in (in_t1 (List.mem_of_getElem? (i := 47) rfl)) rfl
theorem fl_X1_9 : Cond.fieldLink RX1 9 "MagnetColony$Colony" "positions" "[I" ∈ wG := wG_in (in_t1 (List.mem_of_getElem? (i := 48) rfl)) rfl
theorem fl_X5_27 : Cond.fieldLink RX5 27 "MagnetColony$Colony" "positions" "[I" ∈ wG := wG_in (in_t1 (List.mem_of_getElem? (i := 49) rfl)) rfl
theorem fl_X3_21 : Cond.fieldLink RX3 21 "MagnetColony$Colony" "positions" "[I" ∈ wG := wG_in (in_t1 (List.mem_of_getElem? (i := 50) rfl)) rfl
theorem fl_X8_83 : Cond.fieldLink RX8 83 "MagnetColony$Colony" "positions" "[I" ∈ wG := wG_in (in_t1 (List.mem_of_getElem? (i := 51) rfl)) rfl
theorem fl_X1_15 : Cond.fieldLink RX1 15 "MagnetColony$Colony" "strengths" "[I" ∈ wG := wG_in (in_t1 (List.mem_of_getElem? (i := 52) rfl)) rfl
theorem fl_X5_37 : Cond.fieldLink RX5 37 "MagnetColony$Colony" "strengths" "[I" ∈ wG := wG_in (in_t1 (List.mem_of_getElem? (i := 53) rfl)) rfl
theorem fl_X3_25 : Cond.fieldLink RX3 25 "MagnetColony$Colony" "strengths" "[I" ∈ wG := wG_in (in_t1 (List.mem_of_getElem? (i := 54) rfl)) rfl
theorem fl_X8_87 : Cond.fieldLink RX8 87 "MagnetColony$Colony" "strengths" "[I" ∈ wG := wG_in (in_t1 (List.mem_of_getElem? (i := 55) rfl)) rfl
theorem fl_X1_18 : Cond.fieldLink RX1 18 "MagnetColony$Colony" "turns" "[I" ∈ wG := wG_in (in_t1 (List.mem_of_getElem? (i := 56) rfl)) rfl
theorem fl_X8_182 : Cond.fieldLink RX8 182 "MagnetColony$Colony" "turns" "[I" ∈ wG := wG_in (in_t1 (List.mem_of_getElem? (i := 57) rfl)) rfl
theorem fl_X1_37 : Cond.fieldLink RX1 37 "MagnetColony$Colony" "norths" "I" ∈ wG := wG_in (in_t1 (List.mem_of_getElem? (i := 58) rfl)) rfl
theorem fl_X3_28 : Cond.fieldLink RX3 28 "MagnetColony$Colony" "norths" "I" ∈ wG := wG_in (in_t1 (List.mem_of_getElem? (i := 59) rfl)) rfl
theorem fl_X6_110 : Cond.fieldLink RX6 110 "MagnetColony$Colony" "norths" "I" ∈ wG := wG_in (in_t1 (List.mem_of_getElem? (i := 60) rfl)) rfl
theorem fl_X6_37 : Cond.fieldLink RX6 37 "MagnetColony$Colony" "tunnels" "I" ∈ wG := wG_in (in_t1 (List.mem_of_getElem? (i := 61) rfl)) rfl
theorem fl_X5_40 : Cond.fieldLink RX5 40 "MagnetColony$Colony" "tunnels" "I" ∈ wG := wG_in (in_t1 (List.mem_of_getElem? (i := 62) rfl)) rfl
theorem fl_X1_40 : Cond.fieldLink RX1 40 "MagnetColony$Colony" "tunnels" "I" ∈ wG := wG_in (in_t1 (List.mem_of_getElem? (i := 63) rfl)) rfl
theorem fl_X0_66 : Cond.fieldLink RX0 66 "MagnetColony$Colony" "tunnels" "I" ∈ wG := wG_in (in_t1 (List.mem_of_getElem? (i := 64) rfl)) rfl
theorem fl_X8_107 : Cond.fieldLink RX8 107 "MagnetColony$Colony" "tunnels" "I" ∈ wG := wG_in (in_t1 (List.mem_of_getElem? (i := 65) rfl)) rfl
theorem fl_X1_21 : Cond.fieldLink RX1 21 "MagnetColony$Colony" "firsts" "[I" ∈ wG := wG_in (in_t1 (List.mem_of_getElem? (i := 66) rfl)) rfl
theorem fl_X6_40 : Cond.fieldLink RX6 40 "MagnetColony$Colony" "firsts" "[I" ∈ wG := wG_in (in_t1 (List.mem_of_getElem? (i := 67) rfl)) rfl
theorem fl_X1_24 : Cond.fieldLink RX1 24 "MagnetColony$Colony" "seconds" "[I" ∈ wG := wG_in (in_t1 (List.mem_of_getElem? (i := 68) rfl)) rfl
theorem fl_X6_43 : Cond.fieldLink RX6 43 "MagnetColony$Colony" "seconds" "[I" ∈ wG := wG_in (in_t1 (List.mem_of_getElem? (i := 69) rfl)) rfl
theorem fl_X1_43 : Cond.fieldLink RX1 43 "MagnetColony$Colony" "allTurns" "I" ∈ wG := wG_in (in_t1 (List.mem_of_getElem? (i := 70) rfl)) rfl
theorem fl_X8_179 : Cond.fieldLink RX8 179 "MagnetColony$Colony" "allTurns" "I" ∈ wG := wG_in (in_t1 (List.mem_of_getElem? (i := 71) rfl)) rfl
theorem fl_X1_46 : Cond.fieldLink RX1 46 "MagnetColony$Colony" "allMoves" "I" ∈ wG := wG_in (in_t1 (List.mem_of_getElem? (i := 72) rfl)) rfl
theorem fl_X3_39 : Cond.fieldLink RX3 39 "MagnetColony$Colony" "allMoves" "I" ∈ wG := wG_in (in_t1 (List.mem_of_getElem? (i := 73) rfl)) rfl
theorem fl_X8_185 : Cond.fieldLink RX8 185 "MagnetColony$Colony" "allMoves" "I" ∈ wG := wG_in (in_t1 (List.mem_of_getElem? (i := 74) rfl)) rfl
theorem fl_X6_24 : Cond.fieldLink RX6 24 "MagnetColony$Survey" "colony" "LMagnetColony$Colony;" ∈ wG := wG_in (in_t1 (List.mem_of_getElem? (i := 103) rfl)) rfl
theorem fl_X6_9 : Cond.fieldLink RX6 9 "MagnetColony$Survey" "labels" "[I" ∈ wG := wG_in (in_t1 (List.mem_of_getElem? (i := 104) rfl)) rfl
theorem fl_X6_15 : Cond.fieldLink RX6 15 "MagnetColony$Survey" "distances" "[I" ∈ wG := wG_in (in_t1 (List.mem_of_getElem? (i := 105) rfl)) rfl
theorem fl_X6_18 : Cond.fieldLink RX6 18 "MagnetColony$Survey" "numbers" "[I" ∈ wG := wG_in (in_t1 (List.mem_of_getElem? (i := 106) rfl)) rfl
theorem fl_X6_21 : Cond.fieldLink RX6 21 "MagnetColony$Survey" "lowest" "[I" ∈ wG := wG_in (in_t1 (List.mem_of_getElem? (i := 107) rfl)) rfl
theorem fl_X6_95 : Cond.fieldLink RX6 95 "MagnetColony$Survey" "givenNorths" "I" ∈ wG := wG_in (in_t1 (List.mem_of_getElem? (i := 108) rfl)) rfl
theorem fl_X6_64 : Cond.fieldLink RX6 64 "MagnetColony$Survey" "lastNumber" "I" ∈ wG := wG_in (in_t1 (List.mem_of_getElem? (i := 109) rfl)) rfl
theorem fl_X6_67 : Cond.fieldLink RX6 67 "MagnetColony$Survey" "bridgesFound" "I" ∈ wG := wG_in (in_t1 (List.mem_of_getElem? (i := 110) rfl)) rfl
theorem fl_X3_9 : Cond.fieldLink RX3 9 "MagnetColony$Forces" "colony" "LMagnetColony$Colony;" ∈ wG := wG_in (in_t1 (List.mem_of_getElem? (i := 134) rfl)) rfl
theorem fl_X0_9 : Cond.fieldLink RX0 9 "MagnetColony$Changes" "colony" "LMagnetColony$Colony;" ∈ wG := wG_in (in_t1 (List.mem_of_getElem? (i := 144) rfl)) rfl
theorem fl_X0_15 : Cond.fieldLink RX0 15 "MagnetColony$Changes" "survey" "LMagnetColony$Survey;" ∈ wG := wG_in (in_t1 (List.mem_of_getElem? (i := 145) rfl)) rfl
theorem fl_X0_19 : Cond.fieldLink RX0 19 "MagnetColony$Changes" "forces" "LMagnetColony$Forces;" ∈ wG := wG_in (in_t1 (List.mem_of_getElem? (i := 146) rfl)) rfl
theorem fl_X0_77 : Cond.fieldLink RX0 77 "MagnetColony$Changes" "detail" "I" ∈ wG := wG_in (in_t1 (List.mem_of_getElem? (i := 147) rfl)) rfl
theorem fl_X8_318 : Cond.fieldLink RX8 318 "MagnetColony$Changes" "detail" "I" ∈ wG := wG_in (in_t1 (List.mem_of_getElem? (i := 148) rfl)) rfl
theorem fl_X4_11 : Cond.fieldLink RX4 11 "MagnetColony$History" "ring" "[LMagnetColony$Colony;" ∈ wG := wG_in (in_t1 (List.mem_of_getElem? (i := 167) rfl)) rfl
theorem fl_X4_18 : Cond.fieldLink RX4 18 "MagnetColony$History" "next" "I" ∈ wG := wG_in (in_t1 (List.mem_of_getElem? (i := 168) rfl)) rfl
theorem fl_X4_26 : Cond.fieldLink RX4 26 "MagnetColony$History" "size" "I" ∈ wG := wG_in (in_t1 (List.mem_of_getElem? (i := 169) rfl)) rfl
theorem fl_X8_294 : Cond.fieldLink RX8 294 "MagnetColony$History" "size" "I" ∈ wG := wG_in (in_t1 (List.mem_of_getElem? (i := 170) rfl)) rfl
theorem fl_X7_91 : Cond.fieldLink RX7 91 "MagnetColony$Command" "kind" "I" ∈ wG := wG_in (in_t1 (List.mem_of_getElem? (i := 191) rfl)) rfl
theorem fl_X8_227 : Cond.fieldLink RX8 227 "MagnetColony$Command" "kind" "I" ∈ wG := wG_in (in_t1 (List.mem_of_getElem? (i := 192) rfl)) rfl
theorem fl_X2_7 : Cond.fieldLink RX2 7 "MagnetColony$Command" "first" "I" ∈ wG := wG_in (in_t1 (List.mem_of_getElem? (i := 193) rfl)) rfl
theorem fl_X8_232 : Cond.fieldLink RX8 232 "MagnetColony$Command" "first" "I" ∈ wG := wG_in (in_t1 (List.mem_of_getElem? (i := 194) rfl)) rfl
theorem fl_X2_13 : Cond.fieldLink RX2 13 "MagnetColony$Command" "second" "I" ∈ wG := wG_in (in_t1 (List.mem_of_getElem? (i := 195) rfl)) rfl
theorem fl_X8_235 : Cond.fieldLink RX8 235 "MagnetColony$Command" "second" "I" ∈ wG := wG_in (in_t1 (List.mem_of_getElem? (i := 196) rfl)) rfl
theorem fl_X2_16 : Cond.fieldLink RX2 16 "MagnetColony$Command" "third" "I" ∈ wG := wG_in (in_t1 (List.mem_of_getElem? (i := 197) rfl)) rfl
theorem fl_X8_254 : Cond.fieldLink RX8 254 "MagnetColony$Command" "third" "I" ∈ wG := wG_in (in_t1 (List.mem_of_getElem? (i := 198) rfl)) rfl
theorem fl_X7_9 : Cond.fieldLink RX7 9 "MagnetColony$Text" "characters" "[C" ∈ wG := wG_in (in_t1 (List.mem_of_getElem? (i := 209) rfl)) rfl
theorem fl_X7_22 : Cond.fieldLink RX7 22 "MagnetColony$Text" "length" "I" ∈ wG := wG_in (in_t1 (List.mem_of_getElem? (i := 210) rfl)) rfl
theorem fl_X8_200 : Cond.fieldLink RX8 200 "MagnetColony$Text" "length" "I" ∈ wG := wG_in (in_t1 (List.mem_of_getElem? (i := 211) rfl)) rfl
theorem fl_X7_17 : Cond.fieldLink RX7 17 "MagnetColony$Text" "commands" "[LMagnetColony$Command;" ∈ wG := wG_in (in_t1 (List.mem_of_getElem? (i := 212) rfl)) rfl
theorem fl_X8_223 : Cond.fieldLink RX8 223 "MagnetColony$Text" "commands" "[LMagnetColony$Command;" ∈ wG := wG_in (in_t1 (List.mem_of_getElem? (i := 213) rfl)) rfl
theorem fl_X7_26 : Cond.fieldLink RX7 26 "MagnetColony$Text" "commandCount" "I" ∈ wG := wG_in (in_t1 (List.mem_of_getElem? (i := 214) rfl)) rfl
theorem fl_X8_220 : Cond.fieldLink RX8 220 "MagnetColony$Text" "commandCount" "I" ∈ wG := wG_in (in_t1 (List.mem_of_getElem? (i := 215) rfl)) rfl
theorem fl_X7_29 : Cond.fieldLink RX7 29 "MagnetColony$Text" "fault" "I" ∈ wG := wG_in (in_t1 (List.mem_of_getElem? (i := 216) rfl)) rfl
theorem fl_X8_209 : Cond.fieldLink RX8 209 "MagnetColony$Text" "fault" "I" ∈ wG := wG_in (in_t1 (List.mem_of_getElem? (i := 217) rfl)) rfl
theorem fl_X5_9 : Cond.fieldLink RX5 9 "MagnetColony$Line" "characters" "[C" ∈ wG := wG_in (in_t1 (List.mem_of_getElem? (i := 235) rfl)) rfl
theorem fl_X8_273 : Cond.fieldLink RX8 273 "MagnetColony$Line" "characters" "[C" ∈ wG := wG_in (in_t1 (List.mem_of_getElem? (i := 236) rfl)) rfl
theorem fl_X5_15 : Cond.fieldLink RX5 15 "MagnetColony$Line" "length" "I" ∈ wG := wG_in (in_t1 (List.mem_of_getElem? (i := 237) rfl)) rfl
theorem fl_X8_267 : Cond.fieldLink RX8 267 "MagnetColony$Line" "length" "I" ∈ wG := wG_in (in_t1 (List.mem_of_getElem? (i := 238) rfl)) rfl
theorem fl_X8_12 : Cond.fieldLink RX8 12 "MagnetColony" "colony" "LMagnetColony$Colony;" ∈ wG := wG_in (in_t2 (List.mem_of_getElem? (i := 4) rfl)) rfl
theorem fl_X8_21 : Cond.fieldLink RX8 21 "MagnetColony" "survey" "LMagnetColony$Survey;" ∈ wG := wG_in (in_t2 (List.mem_of_getElem? (i := 5) rfl)) rfl
theorem fl_X8_28 : Cond.fieldLink RX8 28 "MagnetColony" "forces" "LMagnetColony$Forces;" ∈ wG := wG_in (in_t2 (List.mem_of_getElem? (i := 6) rfl)) rfl
theorem fl_X8_37 : Cond.fieldLink RX8 37 "MagnetColony" "changes" "LMagnetColony$Changes;" ∈ wG := wG_in (in_t2 (List.mem_of_getElem? (i := 7) rfl)) rfl
theorem fl_X8_44 : Cond.fieldLink RX8 44 "MagnetColony" "history" "LMagnetColony$History;" ∈ wG := wG_in (in_t2 (List.mem_of_getElem? (i := 8) rfl)) rfl
theorem fl_X8_48 : Cond.fieldLink RX8 48 "MagnetColony" "beforeText" "LMagnetColony$Colony;" ∈ wG := wG_in (in_t2 (List.mem_of_getElem? (i := 9) rfl)) rfl
theorem fl_X8_51 : Cond.fieldLink RX8 51 "MagnetColony" "snapshot" "LMagnetColony$Colony;" ∈ wG := wG_in (in_t2 (List.mem_of_getElem? (i := 10) rfl)) rfl
theorem fl_X8_57 : Cond.fieldLink RX8 57 "MagnetColony" "text" "LMagnetColony$Text;" ∈ wG := wG_in (in_t2 (List.mem_of_getElem? (i := 11) rfl)) rfl
theorem fl_X8_64 : Cond.fieldLink RX8 64 "MagnetColony" "line" "LMagnetColony$Line;" ∈ wG := wG_in (in_t2 (List.mem_of_getElem? (i := 12) rfl)) rfl
theorem fl_X8_302 : Cond.fieldLink RX8 302 "MagnetColony" "hasSnapshot" "Z" ∈ wG := wG_in (in_t2 (List.mem_of_getElem? (i := 13) rfl)) rfl
theorem fl_X8_68 : Cond.fieldLink RX8 68 "MagnetColony" "keptFault" "I" ∈ wG := wG_in (in_t2 (List.mem_of_getElem? (i := 14) rfl)) rfl
theorem fl_X8_280 : Cond.fieldLink RX8 280 "MagnetColony" "deniedNumber" "I" ∈ wG := wG_in (in_t2 (List.mem_of_getElem? (i := 15) rfl)) rfl
theorem fl_X8_283 : Cond.fieldLink RX8 283 "MagnetColony" "deniedDetail" "I" ∈ wG := wG_in (in_t2 (List.mem_of_getElem? (i := 16) rfl)) rfl
theorem fl_X8_286 : Cond.fieldLink RX8 286 "MagnetColony" "deniedCause" "I" ∈ wG := wG_in (in_t2 (List.mem_of_getElem? (i := 17) rfl)) rfl
theorem fl_J0_38 : Cond.fieldLink RJ0 38 "java/lang/String" "COMPACT_STRINGS" "Z" ∈ wG := wG_in (in_t5 (List.mem_of_getElem? (i := 84) rfl)) rfl
theorem fl_J0_1053 : Cond.fieldLink RJ0 1053 "jdk/internal/util/Preconditions" "SIOOBE_FORMATTER" "Ljava/util/function/BiFunction;" ∈ wG := wG_in (in_t5 (List.mem_of_getElem? (i := 100) rfl)) rfl
theorem fl_J2_44 : Cond.fieldLink RJ2 44 "java/lang/StringUTF16" "$assertionsDisabled" "Z" ∈ wG := wG_in (in_t5 (List.mem_of_getElem? (i := 118) rfl)) rfl
theorem fl_J2_59 : Cond.fieldLink RJ2 59 "java/lang/StringUTF16" "HI_BYTE_SHIFT" "I" ∈ wG := wG_in (in_t5 (List.mem_of_getElem? (i := 120) rfl)) rfl
theorem fl_J2_63 : Cond.fieldLink RJ2 63 "java/lang/StringUTF16" "LO_BYTE_SHIFT" "I" ∈ wG := wG_in (in_t5 (List.mem_of_getElem? (i := 122) rfl)) rfl
theorem fl_X9_7 : Cond.fieldLink RX9 7 "MagnetColonyModel" "g" "[I" ∈ wG := wG_in (in_t6 (List.mem_of_getElem? (i := 10) rfl)) rfl
theorem fl_X9_13 : Cond.fieldLink RX9 13 "MagnetColonyModel" "kept" "[I" ∈ wG := wG_in (in_t6 (List.mem_of_getElem? (i := 11) rfl)) rfl
theorem fl_X9_16 : Cond.fieldLink RX9 16 "MagnetColonyModel" "saved" "[I" ∈ wG := wG_in (in_t6 (List.mem_of_getElem? (i := 12) rfl)) rfl
theorem fl_X9_19 : Cond.fieldLink RX9 19 "MagnetColonyModel" "before" "[I" ∈ wG := wG_in (in_t6 (List.mem_of_getElem? (i := 13) rfl)) rfl
theorem fl_X9_259 : Cond.fieldLink RX9 259 "MagnetColonyModel" "isSaved" "Z" ∈ wG := wG_in (in_t6 (List.mem_of_getElem? (i := 14) rfl)) rfl
theorem fl_X9_55 : Cond.fieldLink RX9 55 "MagnetColonyModel" "changes" "I" ∈ wG := wG_in (in_t6 (List.mem_of_getElem? (i := 15) rfl)) rfl
theorem fl_X9_52 : Cond.fieldLink RX9 52 "MagnetColonyModel" "isWithin" "Z" ∈ wG := wG_in (in_t6 (List.mem_of_getElem? (i := 16) rfl)) rfl
theorem fl_X9_39 : Cond.fieldLink RX9 39 "MagnetColonyModel" "isDenied" "Z" ∈ wG := wG_in (in_t6 (List.mem_of_getElem? (i := 17) rfl)) rfl
theorem fl_X9_36 : Cond.fieldLink RX9 36 "MagnetColonyModel" "code" "I" ∈ wG := wG_in (in_t6 (List.mem_of_getElem? (i := 18) rfl)) rfl
theorem fl_X9_43 : Cond.fieldLink RX9 43 "MagnetColonyModel" "why" "I" ∈ wG := wG_in (in_t6 (List.mem_of_getElem? (i := 19) rfl)) rfl
theorem fl_X9_46 : Cond.fieldLink RX9 46 "MagnetColonyModel" "detail" "I" ∈ wG := wG_in (in_t6 (List.mem_of_getElem? (i := 20) rfl)) rfl
theorem fl_X9_49 : Cond.fieldLink RX9 49 "MagnetColonyModel" "cause" "I" ∈ wG := wG_in (in_t6 (List.mem_of_getElem? (i := 21) rfl)) rfl
theorem fl_X9_22 : Cond.fieldLink RX9 22 "MagnetColonyModel" "input" "[I" ∈ wG := wG_in (in_t6 (List.mem_of_getElem? (i := 22) rfl)) rfl
theorem fl_X9_160 : Cond.fieldLink RX9 160 "MagnetColonyModel" "length" "I" ∈ wG := wG_in (in_t6 (List.mem_of_getElem? (i := 23) rfl)) rfl
theorem fl_X9_25 : Cond.fieldLink RX9 25 "MagnetColonyModel" "fault" "I" ∈ wG := wG_in (in_t6 (List.mem_of_getElem? (i := 24) rfl)) rfl
theorem fl_X9_29 : Cond.fieldLink RX9 29 "MagnetColonyModel" "signs" "[C" ∈ wG := wG_in (in_t6 (List.mem_of_getElem? (i := 25) rfl)) rfl
theorem fl_X9_246 : Cond.fieldLink RX9 246 "MagnetColonyModel" "signMany" "I" ∈ wG := wG_in (in_t6 (List.mem_of_getElem? (i := 26) rfl)) rfl
theorem fl_X9_163 : Cond.fieldLink RX9 163 "MagnetColonyModel" "at" "I" ∈ wG := wG_in (in_t6 (List.mem_of_getElem? (i := 27) rfl)) rfl
theorem fl_X9_33 : Cond.fieldLink RX9 33 "MagnetColonyModel" "told" "[I" ∈ wG := wG_in (in_t6 (List.mem_of_getElem? (i := 28) rfl)) rfl
theorem fl_X9_169 : Cond.fieldLink RX9 169 "MagnetColonyModel" "toldMany" "I" ∈ wG := wG_in (in_t6 (List.mem_of_getElem? (i := 29) rfl)) rfl
theorem fl_J0_9 : Cond.fieldLink RJ0 9 "java/lang/String" "value" "[B" ∈ wG := wG_in (in_t7 (List.mem_of_getElem? (i := 231) rfl)) rfl
theorem fl_J0_15 : Cond.fieldLink RJ0 15 "java/lang/String" "coder" "B" ∈ wG := wG_in (in_t7 (List.mem_of_getElem? (i := 232) rfl)) rfl
theorem ml_L_134 : Cond.methodLink RL 134 yX8_init ∈ wG := wG_in (in_t1 (List.mem_of_getElem? (i := 31) rfl)) rfl
theorem ml_X8_3 : Cond.methodLink RX8 3 ⟨"java/lang/Object", "<init>", "()V"⟩ ∈ wG := wG_in (in_t1 (List.mem_of_getElem? (i := 34) rfl)) rfl
theorem ml_X1_3 : Cond.methodLink RX1 3 ⟨"java/lang/Object", "<init>", "()V"⟩ ∈ wG := wG_in (in_t1 (List.mem_of_getElem? (i := 42) rfl)) rfl
theorem ml_X8_18 : Cond.methodLink RX8 18 yX6_init ∈ wG := wG_in (in_t1 (List.mem_of_getElem? (i := 99) rfl)) rfl
theorem ml_X6_3 : Cond.methodLink RX6 3 ⟨"java/lang/Object", "<init>", "()V"⟩ ∈ wG := wG_in (in_t1 (List.mem_of_getElem? (i := 102) rfl)) rfl
theorem ml_X8_27 : Cond.methodLink RX8 27 yX3_init ∈ wG := wG_in (in_t1 (List.mem_of_getElem? (i := 130) rfl)) rfl
theorem ml_X3_3 : Cond.methodLink RX3 3 ⟨"java/lang/Object", "<init>", "()V"⟩ ∈ wG := wG_in (in_t1 (List.mem_of_getElem? (i := 133) rfl)) rfl
theorem ml_X8_34 : Cond.methodLink RX8 34 yX0_init ∈ wG := wG_in (in_t1 (List.mem_of_getElem? (i := 140) rfl)) rfl
theorem ml_X0_3 : Cond.methodLink RX0 3 ⟨"java/lang/Object", "<init>", "()V"⟩ ∈ wG := wG_in (in_t1 (List.mem_of_getElem? (i := 143) rfl)) rfl
theorem ml_X8_43 : Cond.methodLink RX8 43 yX4_init ∈ wG := wG_in (in_t1 (List.mem_of_getElem? (i := 160) rfl)) rfl
theorem ml_X4_3 : Cond.methodLink RX4 3 ⟨"java/lang/Object", "<init>", "()V"⟩ ∈ wG := wG_in (in_t1 (List.mem_of_getElem? (i := 163) rfl)) rfl
theorem ml_X8_56 : Cond.methodLink RX8 56 yX7_init ∈ wG := wG_in (in_t1 (List.mem_of_getElem? (i := 180) rfl)) rfl
theorem ml_X7_3 : Cond.methodLink RX7 3 ⟨"java/lang/Object", "<init>", "()V"⟩ ∈ wG := wG_in (in_t1 (List.mem_of_getElem? (i := 183) rfl)) rfl
theorem ml_X2_1 : Cond.methodLink RX2 1 ⟨"java/lang/Object", "<init>", "()V"⟩ ∈ wG := wG_in (in_t1 (List.mem_of_getElem? (i := 190) rfl)) rfl
theorem ml_X5_3 : Cond.methodLink RX5 3 ⟨"java/lang/Object", "<init>", "()V"⟩ ∈ wG := wG_in (in_t1 (List.mem_of_getElem? (i := 234) rfl)) rfl
theorem ml_L_158 : Cond.methodLink RL 158 yX8_move ∈ wG := wG_in (in_t2 (List.mem_of_getElem? (i := 47) rfl)) rfl
theorem ml_X8_72 : Cond.methodLink RX8 72 yX8_change ∈ wG := wG_in (in_t2 (List.mem_of_getElem? (i := 51) rfl)) rfl
theorem ml_X8_238 : Cond.methodLink RX8 238 yX0_judge ∈ wG := wG_in (in_t2 (List.mem_of_getElem? (i := 55) rfl)) rfl
theorem ml_X0_23 : Cond.methodLink RX0 23 yX0_judgeAdding ∈ wG := wG_in (in_t2 (List.mem_of_getElem? (i := 59) rfl)) rfl
theorem ml_X0_56 : Cond.methodLink RX0 56 yX0_deny ∈ wG := wG_in (in_t2 (List.mem_of_getElem? (i := 69) rfl)) rfl
theorem ml_X0_59 : Cond.methodLink RX0 59 yX1_magnetOn ∈ wG := wG_in (in_t2 (List.mem_of_getElem? (i := 73) rfl)) rfl
theorem ml_X0_27 : Cond.methodLink RX0 27 yX0_judgeStrength ∈ wG := wG_in (in_t2 (List.mem_of_getElem? (i := 77) rfl)) rfl
theorem ml_X0_30 : Cond.methodLink RX0 30 yX1_hasMagnet ∈ wG := wG_in (in_t2 (List.mem_of_getElem? (i := 81) rfl)) rfl
theorem ml_X0_39 : Cond.methodLink RX0 39 yX0_judgeDigging ∈ wG := wG_in (in_t2 (List.mem_of_getElem? (i := 85) rfl)) rfl
theorem ml_X0_63 : Cond.methodLink RX0 63 yX1_tunnelBetween ∈ wG := wG_in (in_t2 (List.mem_of_getElem? (i := 89) rfl)) rfl
theorem ml_X1_65 : Cond.methodLink RX1 65 yX1_otherEnd ∈ wG := wG_in (in_t2 (List.mem_of_getElem? (i := 93) rfl)) rfl
theorem ml_X0_42 : Cond.methodLink RX0 42 yX1_hasTunnel ∈ wG := wG_in (in_t2 (List.mem_of_getElem? (i := 97) rfl)) rfl
theorem ml_X0_45 : Cond.methodLink RX0 45 yX0_judgeSettling ∈ wG := wG_in (in_t2 (List.mem_of_getElem? (i := 101) rfl)) rfl
theorem ml_X0_69 : Cond.methodLink RX0 69 yX1_countBlocked ∈ wG := wG_in (in_t2 (List.mem_of_getElem? (i := 105) rfl)) rfl
theorem ml_X1_72 : Cond.methodLink RX1 72 yX1_countBlockedWith ∈ wG := wG_in (in_t2 (List.mem_of_getElem? (i := 109) rfl)) rfl
theorem ml_X1_69 : Cond.methodLink RX1 69 yX1_isBlockedWith ∈ wG := wG_in (in_t2 (List.mem_of_getElem? (i := 113) rfl)) rfl
theorem ml_X0_72 : Cond.methodLink RX0 72 yX6_bestTurnSet ∈ wG := wG_in (in_t2 (List.mem_of_getElem? (i := 117) rfl)) rfl
theorem ml_X6_101 : Cond.methodLink RX6 101 yX6_givePolesFrom ∈ wG := wG_in (in_t2 (List.mem_of_getElem? (i := 124) rfl)) rfl
theorem ml_X6_104 : Cond.methodLink RX6 104 yX6_bestTurnSetOf ∈ wG := wG_in (in_t2 (List.mem_of_getElem? (i := 128) rfl)) rfl
theorem ml_X6_113 : Cond.methodLink RX6 113 yJ6_bitCount_0f7a4 ∈ wG := wG_in (in_t2 (List.mem_of_getElem? (i := 132) rfl)) rfl
theorem ml_X6_107 : Cond.methodLink RX6 107 yX1_countBlockedWith ∈ wG := wG_in (in_t2 (List.mem_of_getElem? (i := 138) rfl)) rfl
theorem ml_X8_311 : Cond.methodLink RX8 311 yX8_refuse ∈ wG := wG_in (in_t2 (List.mem_of_getElem? (i := 139) rfl)) rfl
theorem ml_X8_272 : Cond.methodLink RX8 272 ⟨"java/lang/IndexOutOfBoundsException", "<init>", "(Ljava/lang/String;)V"⟩ ∈ wG := wG_in (in_t2 (List.mem_of_getElem? (i := 189) rfl)) rfl
theorem ml_X8_216 : Cond.methodLink RX8 216 ⟨"java/lang/IllegalArgumentException", "<init>", "(Ljava/lang/String;)V"⟩ ∈ wG := wG_in (in_t2 (List.mem_of_getElem? (i := 225) rfl)) rfl
theorem ml_X8_245 : Cond.methodLink RX8 245 yX8_keepDenial ∈ wG := wG_in (in_t2 (List.mem_of_getElem? (i := 231) rfl)) rfl
theorem ml_X8_253 : Cond.methodLink RX8 253 ⟨"java/lang/UnsupportedOperationException", "<init>", "(Ljava/lang/String;)V"⟩ ∈ wG := wG_in (in_t3 (List.mem_of_getElem? (i := 5) rfl)) rfl
theorem ml_X8_260 : Cond.methodLink RX8 260 yX4_push ∈ wG := wG_in (in_t3 (List.mem_of_getElem? (i := 11) rfl)) rfl
theorem ml_X4_22 : Cond.methodLink RX4 22 yX1_copyFrom ∈ wG := wG_in (in_t3 (List.mem_of_getElem? (i := 15) rfl)) rfl
theorem ml_X1_31 : Cond.methodLink RX1 31 ⟨"java/lang/System", "arraycopy", "(Ljava/lang/Object;ILjava/lang/Object;II)V"⟩ ∈ wG := wG_in (in_t3 (List.mem_of_getElem? (i := 19) rfl)) rfl
theorem ml_X4_29 : Cond.methodLink RX4 29 yJ9_min_7cf53 ∈ wG := wG_in (in_t3 (List.mem_of_getElem? (i := 22) rfl)) rfl
theorem ml_X8_257 : Cond.methodLink RX8 257 yX0_carryOut ∈ wG := wG_in (in_t3 (List.mem_of_getElem? (i := 25) rfl)) rfl
theorem ml_X0_80 : Cond.methodLink RX0 80 yX1_place ∈ wG := wG_in (in_t3 (List.mem_of_getElem? (i := 29) rfl)) rfl
theorem ml_X0_84 : Cond.methodLink RX0 84 yX1_strengthen ∈ wG := wG_in (in_t3 (List.mem_of_getElem? (i := 33) rfl)) rfl
theorem ml_X0_87 : Cond.methodLink RX0 87 yX1_turnSet ∈ wG := wG_in (in_t3 (List.mem_of_getElem? (i := 37) rfl)) rfl
theorem ml_X1_60 : Cond.methodLink RX1 60 yJ6_bitCount_0f7a4 ∈ wG := wG_in (in_t3 (List.mem_of_getElem? (i := 42) rfl)) rfl
theorem ml_X0_90 : Cond.methodLink RX0 90 yX1_turnFrom ∈ wG := wG_in (in_t3 (List.mem_of_getElem? (i := 43) rfl)) rfl
theorem ml_X1_57 : Cond.methodLink RX1 57 yX1_turnSet ∈ wG := wG_in (in_t3 (List.mem_of_getElem? (i := 47) rfl)) rfl
theorem ml_X0_93 : Cond.methodLink RX0 93 yX3_moveEach ∈ wG := wG_in (in_t3 (List.mem_of_getElem? (i := 48) rfl)) rfl
theorem ml_X3_35 : Cond.methodLink RX3 35 yX3_targetOf ∈ wG := wG_in (in_t3 (List.mem_of_getElem? (i := 52) rfl)) rfl
theorem ml_X3_42 : Cond.methodLink RX3 42 yX3_forceOn ∈ wG := wG_in (in_t3 (List.mem_of_getElem? (i := 56) rfl)) rfl
theorem ml_X3_50 : Cond.methodLink RX3 50 yX1_magnetOn ∈ wG := wG_in (in_t3 (List.mem_of_getElem? (i := 62) rfl)) rfl
theorem ml_X0_98 : Cond.methodLink RX0 98 yX1_join ∈ wG := wG_in (in_t3 (List.mem_of_getElem? (i := 63) rfl)) rfl
theorem ml_X0_101 : Cond.methodLink RX0 101 yX1_remove ∈ wG := wG_in (in_t3 (List.mem_of_getElem? (i := 67) rfl)) rfl
theorem ml_L_162 : Cond.methodLink RL 162 yX8_magnetCount ∈ wG := wG_in (in_t3 (List.mem_of_getElem? (i := 71) rfl)) rfl
theorem ml_L_191 : Cond.methodLink RL 191 yX8_tunnelCount ∈ wG := wG_in (in_t3 (List.mem_of_getElem? (i := 75) rfl)) rfl
theorem ml_L_198 : Cond.methodLink RL 198 yX8_blocked ∈ wG := wG_in (in_t3 (List.mem_of_getElem? (i := 79) rfl)) rfl
theorem ml_X8_117 : Cond.methodLink RX8 117 yX1_countBlocked ∈ wG := wG_in (in_t3 (List.mem_of_getElem? (i := 83) rfl)) rfl
theorem ml_L_202 : Cond.methodLink RL 202 yX8_parts ∈ wG := wG_in (in_t3 (List.mem_of_getElem? (i := 84) rfl)) rfl
theorem ml_X8_121 : Cond.methodLink RX8 121 yX6_countParts ∈ wG := wG_in (in_t3 (List.mem_of_getElem? (i := 88) rfl)) rfl
theorem ml_X6_28 : Cond.methodLink RX6 28 yX6_separateLabels ∈ wG := wG_in (in_t3 (List.mem_of_getElem? (i := 92) rfl)) rfl
theorem ml_X6_46 : Cond.methodLink RX6 46 yX6_unite ∈ wG := wG_in (in_t3 (List.mem_of_getElem? (i := 96) rfl)) rfl
theorem ml_L_209 : Cond.methodLink RL 209 yX8_bridges ∈ wG := wG_in (in_t3 (List.mem_of_getElem? (i := 100) rfl)) rfl
theorem ml_X8_128 : Cond.methodLink RX8 128 yX6_countBridges ∈ wG := wG_in (in_t3 (List.mem_of_getElem? (i := 104) rfl)) rfl
theorem ml_X6_50 : Cond.methodLink RX6 50 yJ7_fill_53178 ∈ wG := wG_in (in_t3 (List.mem_of_getElem? (i := 108) rfl)) rfl
theorem ml_X6_70 : Cond.methodLink RX6 70 yX6_explore ∈ wG := wG_in (in_t3 (List.mem_of_getElem? (i := 111) rfl)) rfl
theorem ml_X6_74 : Cond.methodLink RX6 74 yX6_numberMagnet ∈ wG := wG_in (in_t3 (List.mem_of_getElem? (i := 114) rfl)) rfl
theorem ml_X6_78 : Cond.methodLink RX6 78 yX1_otherEnd ∈ wG := wG_in (in_t3 (List.mem_of_getElem? (i := 118) rfl)) rfl
theorem ml_X6_82 : Cond.methodLink RX6 82 yX6_reachNumber ∈ wG := wG_in (in_t3 (List.mem_of_getElem? (i := 119) rfl)) rfl
theorem ml_X6_86 : Cond.methodLink RX6 86 yJ9_min_7cf53 ∈ wG := wG_in (in_t3 (List.mem_of_getElem? (i := 123) rfl)) rfl
theorem ml_L_213 : Cond.methodLink RL 213 yX8_bridgesByFilling ∈ wG := wG_in (in_t3 (List.mem_of_getElem? (i := 124) rfl)) rfl
theorem ml_X8_131 : Cond.methodLink RX8 131 yX6_countBridgesByFilling ∈ wG := wG_in (in_t3 (List.mem_of_getElem? (i := 128) rfl)) rfl
theorem ml_X6_91 : Cond.methodLink RX6 91 yX6_countParts ∈ wG := wG_in (in_t3 (List.mem_of_getElem? (i := 132) rfl)) rfl
theorem ml_L_217 : Cond.methodLink RL 217 yX8_canSettle ∈ wG := wG_in (in_t3 (List.mem_of_getElem? (i := 133) rfl)) rfl
theorem ml_X8_134 : Cond.methodLink RX8 134 yX6_bestTurnSet ∈ wG := wG_in (in_t3 (List.mem_of_getElem? (i := 137) rfl)) rfl
theorem ml_L_222 : Cond.methodLink RL 222 yX8_canSettleByUnions ∈ wG := wG_in (in_t3 (List.mem_of_getElem? (i := 138) rfl)) rfl
theorem ml_X8_137 : Cond.methodLink RX8 137 yX6_canUniteCounterparts ∈ wG := wG_in (in_t3 (List.mem_of_getElem? (i := 142) rfl)) rfl
theorem ml_L_232 : Cond.methodLink RL 232 yX8_leastBlocked ∈ wG := wG_in (in_t3 (List.mem_of_getElem? (i := 146) rfl)) rfl
theorem ml_X8_147 : Cond.methodLink RX8 147 yX6_leastBlockedOfSets ∈ wG := wG_in (in_t3 (List.mem_of_getElem? (i := 150) rfl)) rfl
theorem ml_L_236 : Cond.methodLink RL 236 yX8_leastBlockedByBounds ∈ wG := wG_in (in_t3 (List.mem_of_getElem? (i := 154) rfl)) rfl
theorem ml_X8_150 : Cond.methodLink RX8 150 yX6_leastBlockedWithinBounds ∈ wG := wG_in (in_t3 (List.mem_of_getElem? (i := 158) rfl)) rfl
theorem ml_X6_122 : Cond.methodLink RX6 122 yX1_countBlocked ∈ wG := wG_in (in_t3 (List.mem_of_getElem? (i := 162) rfl)) rfl
theorem ml_X6_125 : Cond.methodLink RX6 125 yX6_bound ∈ wG := wG_in (in_t3 (List.mem_of_getElem? (i := 163) rfl)) rfl
theorem ml_X6_129 : Cond.methodLink RX6 129 yX6_blockedToEarlier ∈ wG := wG_in (in_t3 (List.mem_of_getElem? (i := 166) rfl)) rfl
theorem ml_X6_132 : Cond.methodLink RX6 132 yX1_isBlockedWith ∈ wG := wG_in (in_t3 (List.mem_of_getElem? (i := 170) rfl)) rfl
theorem ml_L_263 : Cond.methodLink RL 263 yX8_turnTotal ∈ wG := wG_in (in_t3 (List.mem_of_getElem? (i := 171) rfl)) rfl
theorem ml_L_270 : Cond.methodLink RL 270 yX8_moved ∈ wG := wG_in (in_t3 (List.mem_of_getElem? (i := 175) rfl)) rfl
theorem ml_L_302 : Cond.methodLink RL 302 yX8_undoCount ∈ wG := wG_in (in_t3 (List.mem_of_getElem? (i := 179) rfl)) rfl
theorem ml_L_306 : Cond.methodLink RL 306 yX8_saveSnapshot ∈ wG := wG_in (in_t3 (List.mem_of_getElem? (i := 183) rfl)) rfl
theorem ml_X8_217 : Cond.methodLink RX8 217 yX1_copyFrom ∈ wG := wG_in (in_t3 (List.mem_of_getElem? (i := 187) rfl)) rfl
theorem ml_L_138 : Cond.methodLink RL 138 yL_addMagnet ∈ wG := wG_in (in_t3 (List.mem_of_getElem? (i := 188) rfl)) rfl
theorem ml_L_7 : Cond.methodLink RL 7 yX8_addMagnet ∈ wG := wG_in (in_t3 (List.mem_of_getElem? (i := 193) rfl)) rfl
theorem ml_L_147 : Cond.methodLink RL 147 yL_setStrength ∈ wG := wG_in (in_t3 (List.mem_of_getElem? (i := 197) rfl)) rfl
theorem ml_Jx00060_7 : Cond.methodLink RJx00060 7 ⟨"java/lang/IndexOutOfBoundsException", "<init>", "(Ljava/lang/String;)V"⟩ ∈ wG := wG_in (in_t3 (List.mem_of_getElem? (i := 204) rfl)) rfl
theorem ml_L_17 : Cond.methodLink RL 17 yX8_setStrength ∈ wG := wG_in (in_t3 (List.mem_of_getElem? (i := 221) rfl)) rfl
theorem ml_L_151 : Cond.methodLink RL 151 yL_turn ∈ wG := wG_in (in_t3 (List.mem_of_getElem? (i := 225) rfl)) rfl
theorem ml_L_23 : Cond.methodLink RL 23 yX8_turn ∈ wG := wG_in (in_t3 (List.mem_of_getElem? (i := 228) rfl)) rfl
theorem ml_L_155 : Cond.methodLink RL 155 yL_shift ∈ wG := wG_in (in_t3 (List.mem_of_getElem? (i := 232) rfl)) rfl
theorem ml_L_27 : Cond.methodLink RL 27 yX8_shift ∈ wG := wG_in (in_t3 (List.mem_of_getElem? (i := 235) rfl)) rfl
theorem ml_L_166 : Cond.methodLink RL 166 yL_position ∈ wG := wG_in (in_t3 (List.mem_of_getElem? (i := 239) rfl)) rfl
theorem ml_L_30 : Cond.methodLink RL 30 yX8_position ∈ wG := wG_in (in_t4 (List.mem_of_getElem? (i := 2) rfl)) rfl
theorem ml_X8_79 : Cond.methodLink RX8 79 yX8_requireMagnet ∈ wG := wG_in (in_t4 (List.mem_of_getElem? (i := 6) rfl)) rfl
theorem ml_X8_330 : Cond.methodLink RX8 330 yX1_hasMagnet ∈ wG := wG_in (in_t4 (List.mem_of_getElem? (i := 10) rfl)) rfl
theorem ml_L_169 : Cond.methodLink RL 169 yL_strength ∈ wG := wG_in (in_t4 (List.mem_of_getElem? (i := 12) rfl)) rfl
theorem ml_L_33 : Cond.methodLink RL 33 yX8_strength ∈ wG := wG_in (in_t4 (List.mem_of_getElem? (i := 15) rfl)) rfl
theorem ml_L_172 : Cond.methodLink RL 172 yL_pole ∈ wG := wG_in (in_t4 (List.mem_of_getElem? (i := 19) rfl)) rfl
theorem ml_L_36 : Cond.methodLink RL 36 yX8_pole ∈ wG := wG_in (in_t4 (List.mem_of_getElem? (i := 22) rfl)) rfl
theorem ml_X8_90 : Cond.methodLink RX8 90 yX1_poleSign ∈ wG := wG_in (in_t4 (List.mem_of_getElem? (i := 26) rfl)) rfl
theorem ml_L_175 : Cond.methodLink RL 175 yL_magnetAt ∈ wG := wG_in (in_t4 (List.mem_of_getElem? (i := 30) rfl)) rfl
theorem ml_L_40 : Cond.methodLink RL 40 yX8_magnetAt ∈ wG := wG_in (in_t4 (List.mem_of_getElem? (i := 34) rfl)) rfl
theorem ml_X8_94 : Cond.methodLink RX8 94 yX8_requirePosition ∈ wG := wG_in (in_t4 (List.mem_of_getElem? (i := 38) rfl)) rfl
theorem ml_X8_323 : Cond.methodLink RX8 323 yX8_isPosition ∈ wG := wG_in (in_t4 (List.mem_of_getElem? (i := 41) rfl)) rfl
theorem ml_X8_97 : Cond.methodLink RX8 97 yX1_magnetOn ∈ wG := wG_in (in_t4 (List.mem_of_getElem? (i := 43) rfl)) rfl
theorem ml_X8_101 : Cond.methodLink RX8 101 yX8_requireFound ∈ wG := wG_in (in_t4 (List.mem_of_getElem? (i := 44) rfl)) rfl
theorem ml_X8_293 : Cond.methodLink RX8 293 ⟨"java/util/NoSuchElementException", "<init>", "(Ljava/lang/String;)V"⟩ ∈ wG := wG_in (in_t4 (List.mem_of_getElem? (i := 57) rfl)) rfl
theorem ml_L_178 : Cond.methodLink RL 178 yL_magnetByStrength ∈ wG := wG_in (in_t4 (List.mem_of_getElem? (i := 63) rfl)) rfl
theorem ml_L_45 : Cond.methodLink RL 45 yX8_magnetByStrength ∈ wG := wG_in (in_t4 (List.mem_of_getElem? (i := 66) rfl)) rfl
theorem ml_X8_104 : Cond.methodLink RX8 104 yX1_magnetOfRank ∈ wG := wG_in (in_t4 (List.mem_of_getElem? (i := 70) rfl)) rfl
theorem ml_X1_49 : Cond.methodLink RX1 49 yX1_rankOf ∈ wG := wG_in (in_t4 (List.mem_of_getElem? (i := 74) rfl)) rfl
theorem ml_L_181 : Cond.methodLink RL 181 yL_dig ∈ wG := wG_in (in_t4 (List.mem_of_getElem? (i := 78) rfl)) rfl
theorem ml_L_48 : Cond.methodLink RL 48 yX8_dig ∈ wG := wG_in (in_t4 (List.mem_of_getElem? (i := 81) rfl)) rfl
theorem ml_L_184 : Cond.methodLink RL 184 yL_fill ∈ wG := wG_in (in_t4 (List.mem_of_getElem? (i := 85) rfl)) rfl
theorem ml_L_51 : Cond.methodLink RL 51 yX8_fill ∈ wG := wG_in (in_t4 (List.mem_of_getElem? (i := 88) rfl)) rfl
theorem ml_L_187 : Cond.methodLink RL 187 yL_settle ∈ wG := wG_in (in_t4 (List.mem_of_getElem? (i := 92) rfl)) rfl
theorem ml_L_54 : Cond.methodLink RL 54 yX8_settle ∈ wG := wG_in (in_t4 (List.mem_of_getElem? (i := 95) rfl)) rfl
theorem ml_L_195 : Cond.methodLink RL 195 yL_isOpen ∈ wG := wG_in (in_t4 (List.mem_of_getElem? (i := 99) rfl)) rfl
theorem ml_L_58 : Cond.methodLink RL 58 yX8_isOpen ∈ wG := wG_in (in_t4 (List.mem_of_getElem? (i := 102) rfl)) rfl
theorem ml_X8_110 : Cond.methodLink RX8 110 yX8_requireTunnel ∈ wG := wG_in (in_t4 (List.mem_of_getElem? (i := 106) rfl)) rfl
theorem ml_X8_335 : Cond.methodLink RX8 335 yX1_hasTunnel ∈ wG := wG_in (in_t4 (List.mem_of_getElem? (i := 110) rfl)) rfl
theorem ml_X8_113 : Cond.methodLink RX8 113 yX1_hasUnlikePoles ∈ wG := wG_in (in_t4 (List.mem_of_getElem? (i := 112) rfl)) rfl
theorem ml_L_206 : Cond.methodLink RL 206 yL_walk ∈ wG := wG_in (in_t4 (List.mem_of_getElem? (i := 116) rfl)) rfl
theorem ml_L_62 : Cond.methodLink RL 62 yX8_walk ∈ wG := wG_in (in_t4 (List.mem_of_getElem? (i := 119) rfl)) rfl
theorem ml_X8_124 : Cond.methodLink RX8 124 yX6_shortestWalk ∈ wG := wG_in (in_t4 (List.mem_of_getElem? (i := 123) rfl)) rfl
theorem ml_X6_56 : Cond.methodLink RX6 56 yX1_hasUnlikePoles ∈ wG := wG_in (in_t4 (List.mem_of_getElem? (i := 127) rfl)) rfl
theorem ml_X6_60 : Cond.methodLink RX6 60 yX6_walkOn ∈ wG := wG_in (in_t4 (List.mem_of_getElem? (i := 128) rfl)) rfl
theorem ml_L_226 : Cond.methodLink RL 226 yL_fewestTurns ∈ wG := wG_in (in_t4 (List.mem_of_getElem? (i := 132) rfl)) rfl
theorem ml_L_65 : Cond.methodLink RL 65 yX8_fewestTurns ∈ wG := wG_in (in_t4 (List.mem_of_getElem? (i := 135) rfl)) rfl
theorem ml_X8_141 : Cond.methodLink RX8 141 yX6_bestTurnSetSize ∈ wG := wG_in (in_t4 (List.mem_of_getElem? (i := 139) rfl)) rfl
theorem ml_X6_118 : Cond.methodLink RX6 118 yX6_bestTurnSet ∈ wG := wG_in (in_t4 (List.mem_of_getElem? (i := 143) rfl)) rfl
theorem ml_L_229 : Cond.methodLink RL 229 yL_fewestTurnsBySets ∈ wG := wG_in (in_t4 (List.mem_of_getElem? (i := 144) rfl)) rfl
theorem ml_L_68 : Cond.methodLink RL 68 yX8_fewestTurnsBySets ∈ wG := wG_in (in_t4 (List.mem_of_getElem? (i := 147) rfl)) rfl
theorem ml_X8_144 : Cond.methodLink RX8 144 yX6_smallestSettlingSet ∈ wG := wG_in (in_t4 (List.mem_of_getElem? (i := 151) rfl)) rfl
theorem ml_L_240 : Cond.methodLink RL 240 yL_force ∈ wG := wG_in (in_t4 (List.mem_of_getElem? (i := 155) rfl)) rfl
theorem ml_L_71 : Cond.methodLink RL 71 yX8_force ∈ wG := wG_in (in_t4 (List.mem_of_getElem? (i := 158) rfl)) rfl
theorem ml_X8_153 : Cond.methodLink RX8 153 yX3_forceOn ∈ wG := wG_in (in_t4 (List.mem_of_getElem? (i := 162) rfl)) rfl
theorem ml_L_244 : Cond.methodLink RL 244 yL_wholeForce ∈ wG := wG_in (in_t4 (List.mem_of_getElem? (i := 163) rfl)) rfl
theorem ml_L_75 : Cond.methodLink RL 75 yX8_wholeForce ∈ wG := wG_in (in_t4 (List.mem_of_getElem? (i := 166) rfl)) rfl
theorem ml_L_247 : Cond.methodLink RL 247 yL_field ∈ wG := wG_in (in_t4 (List.mem_of_getElem? (i := 170) rfl)) rfl
theorem ml_L_78 : Cond.methodLink RL 78 yX8_field ∈ wG := wG_in (in_t4 (List.mem_of_getElem? (i := 173) rfl)) rfl
theorem ml_X8_157 : Cond.methodLink RX8 157 yX3_fieldAt ∈ wG := wG_in (in_t4 (List.mem_of_getElem? (i := 177) rfl)) rfl
theorem ml_X3_53 : Cond.methodLink RX3 53 yJ9_abs_0f7a4 ∈ wG := wG_in (in_t4 (List.mem_of_getElem? (i := 181) rfl)) rfl
theorem ml_L_250 : Cond.methodLink RL 250 yL_strongestPosition ∈ wG := wG_in (in_t4 (List.mem_of_getElem? (i := 184) rfl)) rfl
theorem ml_L_82 : Cond.methodLink RL 82 yX8_strongestPosition ∈ wG := wG_in (in_t4 (List.mem_of_getElem? (i := 187) rfl)) rfl
theorem ml_X8_161 : Cond.methodLink RX8 161 yX3_positionOfStrongestField ∈ wG := wG_in (in_t4 (List.mem_of_getElem? (i := 191) rfl)) rfl
theorem ml_X3_62 : Cond.methodLink RX3 62 yX3_unsignedFieldAt ∈ wG := wG_in (in_t4 (List.mem_of_getElem? (i := 195) rfl)) rfl
theorem ml_X3_58 : Cond.methodLink RX3 58 yX3_fieldAt ∈ wG := wG_in (in_t4 (List.mem_of_getElem? (i := 199) rfl)) rfl
theorem ml_L_253 : Cond.methodLink RL 253 yL_queen ∈ wG := wG_in (in_t4 (List.mem_of_getElem? (i := 200) rfl)) rfl
theorem ml_L_85 : Cond.methodLink RL 85 yX8_queen ∈ wG := wG_in (in_t4 (List.mem_of_getElem? (i := 203) rfl)) rfl
theorem ml_X8_164 : Cond.methodLink RX8 164 yX3_magnetInStrongestField ∈ wG := wG_in (in_t4 (List.mem_of_getElem? (i := 207) rfl)) rfl
theorem ml_L_256 : Cond.methodLink RL 256 yL_meanStrength ∈ wG := wG_in (in_t4 (List.mem_of_getElem? (i := 211) rfl)) rfl
theorem ml_L_88 : Cond.methodLink RL 88 yX8_meanStrength ∈ wG := wG_in (in_t4 (List.mem_of_getElem? (i := 228) rfl)) rfl
theorem ml_X8_171 : Cond.methodLink RX8 171 ⟨"java/lang/ArithmeticException", "<init>", "(Ljava/lang/String;)V"⟩ ∈ wG := wG_in (in_t4 (List.mem_of_getElem? (i := 234) rfl)) rfl
theorem ml_X8_174 : Cond.methodLink RX8 174 yX1_sumOfStrengths ∈ wG := wG_in (in_t4 (List.mem_of_getElem? (i := 235) rfl)) rfl
theorem ml_L_260 : Cond.methodLink RL 260 yL_openShare ∈ wG := wG_in (in_t4 (List.mem_of_getElem? (i := 239) rfl)) rfl
theorem ml_L_94 : Cond.methodLink RL 94 yX8_openShare ∈ wG := wG_in (in_t5 (List.mem_of_getElem? (i := 2) rfl)) rfl
theorem ml_L_267 : Cond.methodLink RL 267 yL_turnsOf ∈ wG := wG_in (in_t5 (List.mem_of_getElem? (i := 7) rfl)) rfl
theorem ml_L_98 : Cond.methodLink RL 98 yX8_turnsOf ∈ wG := wG_in (in_t5 (List.mem_of_getElem? (i := 10) rfl)) rfl
theorem ml_L_274 : Cond.methodLink RL 274 yL_feed ∈ wG := wG_in (in_t5 (List.mem_of_getElem? (i := 14) rfl)) rfl
theorem ml_L_101 : Cond.methodLink RL 101 yX8_feed ∈ wG := wG_in (in_t5 (List.mem_of_getElem? (i := 18) rfl)) rfl
theorem ml_X8_188 : Cond.methodLink RX8 188 yX7_hasRoom ∈ wG := wG_in (in_t5 (List.mem_of_getElem? (i := 22) rfl)) rfl
theorem ml_X8_195 : Cond.methodLink RX8 195 ⟨"java/lang/IllegalStateException", "<init>", "(Ljava/lang/String;)V"⟩ ∈ wG := wG_in (in_t5 (List.mem_of_getElem? (i := 36) rfl)) rfl
theorem ml_X8_196 : Cond.methodLink RX8 196 yX7_append ∈ wG := wG_in (in_t5 (List.mem_of_getElem? (i := 42) rfl)) rfl
theorem ml_L_278 : Cond.methodLink RL 278 yL_execute ∈ wG := wG_in (in_t5 (List.mem_of_getElem? (i := 46) rfl)) rfl
theorem ml_L_107 : Cond.methodLink RL 107 yX8_execute ∈ wG := wG_in (in_t5 (List.mem_of_getElem? (i := 49) rfl)) rfl
theorem ml_X8_203 : Cond.methodLink RX8 203 yX7_parse ∈ wG := wG_in (in_t5 (List.mem_of_getElem? (i := 53) rfl)) rfl
theorem ml_X7_32 : Cond.methodLink RX7 32 yX7_parseCommand ∈ wG := wG_in (in_t5 (List.mem_of_getElem? (i := 57) rfl)) rfl
theorem ml_X7_40 : Cond.methodLink RX7 40 yX7_matchKind ∈ wG := wG_in (in_t5 (List.mem_of_getElem? (i := 61) rfl)) rfl
theorem ml_X7_60 : Cond.methodLink RX7 60 yX7_shapeOf ∈ wG := wG_in (in_t5 (List.mem_of_getElem? (i := 65) rfl)) rfl
theorem ml_X7_64 : Cond.methodLink RX7 64 yJ0_length_8abf5 ∈ wG := wG_in (in_t5 (List.mem_of_getElem? (i := 76) rfl)) rfl
theorem ml_J0_335 : Cond.methodLink RJ0 335 yJ0_coder_7d493 ∈ wG := wG_in (in_t5 (List.mem_of_getElem? (i := 80) rfl)) rfl
theorem ml_X7_69 : Cond.methodLink RX7 69 yJ0_charAt_5068e ∈ wG := wG_in (in_t5 (List.mem_of_getElem? (i := 86) rfl)) rfl
theorem ml_J0_492 : Cond.methodLink RJ0 492 yJ0_isLatin1_aae02 ∈ wG := wG_in (in_t5 (List.mem_of_getElem? (i := 90) rfl)) rfl
theorem ml_J0_495 : Cond.methodLink RJ0 495 yJ1_charAt_3b067 ∈ wG := wG_in (in_t5 (List.mem_of_getElem? (i := 94) rfl)) rfl
theorem ml_J1_9 : Cond.methodLink RJ1 9 yJ0_checkIndex_df160 ∈ wG := wG_in (in_t5 (List.mem_of_getElem? (i := 97) rfl)) rfl
theorem ml_J0_1059 : Cond.methodLink RJ0 1059 yJ3_checkIndex_8e157 ∈ wG := wG_in (in_t5 (List.mem_of_getElem? (i := 102) rfl)) rfl
theorem ml_J0_498 : Cond.methodLink RJ0 498 yJ2_charAt_3b067 ∈ wG := wG_in (in_t5 (List.mem_of_getElem? (i := 105) rfl)) rfl
theorem ml_J2_67 : Cond.methodLink RJ2 67 yJ2_checkIndex_2214a ∈ wG := wG_in (in_t5 (List.mem_of_getElem? (i := 108) rfl)) rfl
theorem ml_J2_48 : Cond.methodLink RJ2 48 yJ2_length_9d52b ∈ wG := wG_in (in_t5 (List.mem_of_getElem? (i := 111) rfl)) rfl
theorem ml_J2_414 : Cond.methodLink RJ2 414 yJ0_checkIndex_df160 ∈ wG := wG_in (in_t5 (List.mem_of_getElem? (i := 114) rfl)) rfl
theorem ml_J2_71 : Cond.methodLink RJ2 71 yJ2_getChar_3b067 ∈ wG := wG_in (in_t5 (List.mem_of_getElem? (i := 115) rfl)) rfl
theorem ml_X7_73 : Cond.methodLink RX7 73 yX7_widthOf ∈ wG := wG_in (in_t5 (List.mem_of_getElem? (i := 124) rfl)) rfl
theorem ml_X7_94 : Cond.methodLink RX7 94 yX7_isDigitAt ∈ wG := wG_in (in_t5 (List.mem_of_getElem? (i := 128) rfl)) rfl
theorem ml_X7_36 : Cond.methodLink RX7 36 yX7_hasAt ∈ wG := wG_in (in_t5 (List.mem_of_getElem? (i := 132) rfl)) rfl
theorem ml_X7_77 : Cond.methodLink RX7 77 yJ9_max_7cf53 ∈ wG := wG_in (in_t5 (List.mem_of_getElem? (i := 136) rfl)) rfl
theorem ml_X7_83 : Cond.methodLink RX7 83 yX7_valueOf ∈ wG := wG_in (in_t5 (List.mem_of_getElem? (i := 139) rfl)) rfl
theorem ml_X7_87 : Cond.methodLink RX7 87 yX2_setParameter ∈ wG := wG_in (in_t5 (List.mem_of_getElem? (i := 143) rfl)) rfl
theorem ml_X8_206 : Cond.methodLink RX8 206 yX7_clear ∈ wG := wG_in (in_t5 (List.mem_of_getElem? (i := 147) rfl)) rfl
theorem ml_X8_242 : Cond.methodLink RX8 242 yX8_causeOf ∈ wG := wG_in (in_t5 (List.mem_of_getElem? (i := 152) rfl)) rfl
theorem ml_L_281 : Cond.methodLink RL 281 yL_faultPosition ∈ wG := wG_in (in_t5 (List.mem_of_getElem? (i := 156) rfl)) rfl
theorem ml_L_110 : Cond.methodLink RL 110 yX8_faultPosition ∈ wG := wG_in (in_t5 (List.mem_of_getElem? (i := 159) rfl)) rfl
theorem ml_L_284 : Cond.methodLink RL 284 yL_writeMagnet ∈ wG := wG_in (in_t5 (List.mem_of_getElem? (i := 163) rfl)) rfl
theorem ml_L_113 : Cond.methodLink RL 113 yX8_writeMagnet ∈ wG := wG_in (in_t5 (List.mem_of_getElem? (i := 166) rfl)) rfl
theorem ml_X8_263 : Cond.methodLink RX8 263 yX5_describe ∈ wG := wG_in (in_t5 (List.mem_of_getElem? (i := 170) rfl)) rfl
theorem ml_X5_19 : Cond.methodLink RX5 19 yX5_putNumber ∈ wG := wG_in (in_t5 (List.mem_of_getElem? (i := 174) rfl)) rfl
theorem ml_X5_23 : Cond.methodLink RX5 23 yX5_put ∈ wG := wG_in (in_t5 (List.mem_of_getElem? (i := 178) rfl)) rfl
theorem ml_X5_33 : Cond.methodLink RX5 33 yX1_poleSign ∈ wG := wG_in (in_t5 (List.mem_of_getElem? (i := 182) rfl)) rfl
theorem ml_X5_43 : Cond.methodLink RX5 43 yX1_otherEnd ∈ wG := wG_in (in_t5 (List.mem_of_getElem? (i := 183) rfl)) rfl
theorem ml_X5_47 : Cond.methodLink RX5 47 yX1_hasUnlikePoles ∈ wG := wG_in (in_t5 (List.mem_of_getElem? (i := 184) rfl)) rfl
theorem ml_L_287 : Cond.methodLink RL 287 yL_lineCharacter ∈ wG := wG_in (in_t5 (List.mem_of_getElem? (i := 185) rfl)) rfl
theorem ml_L_116 : Cond.methodLink RL 116 yX8_lineCharacter ∈ wG := wG_in (in_t5 (List.mem_of_getElem? (i := 188) rfl)) rfl
theorem ml_L_290 : Cond.methodLink RL 290 yL_denial ∈ wG := wG_in (in_t5 (List.mem_of_getElem? (i := 193) rfl)) rfl
theorem ml_L_119 : Cond.methodLink RL 119 yX8_denial ∈ wG := wG_in (in_t5 (List.mem_of_getElem? (i := 196) rfl)) rfl
theorem ml_X8_277 : Cond.methodLink RX8 277 yX8_requireDenial ∈ wG := wG_in (in_t5 (List.mem_of_getElem? (i := 200) rfl)) rfl
theorem ml_L_293 : Cond.methodLink RL 293 yL_denialDetail ∈ wG := wG_in (in_t5 (List.mem_of_getElem? (i := 205) rfl)) rfl
theorem ml_L_122 : Cond.methodLink RL 122 yX8_denialDetail ∈ wG := wG_in (in_t5 (List.mem_of_getElem? (i := 208) rfl)) rfl
theorem ml_L_296 : Cond.methodLink RL 296 yL_denialCause ∈ wG := wG_in (in_t5 (List.mem_of_getElem? (i := 212) rfl)) rfl
theorem ml_L_125 : Cond.methodLink RL 125 yX8_denialCause ∈ wG := wG_in (in_t5 (List.mem_of_getElem? (i := 215) rfl)) rfl
theorem ml_L_299 : Cond.methodLink RL 299 yL_undo ∈ wG := wG_in (in_t5 (List.mem_of_getElem? (i := 220) rfl)) rfl
theorem ml_L_128 : Cond.methodLink RL 128 yX8_undo ∈ wG := wG_in (in_t5 (List.mem_of_getElem? (i := 223) rfl)) rfl
theorem ml_X8_299 : Cond.methodLink RX8 299 yX4_popInto ∈ wG := wG_in (in_t5 (List.mem_of_getElem? (i := 228) rfl)) rfl
theorem ml_L_310 : Cond.methodLink RL 310 yL_restoreSnapshot ∈ wG := wG_in (in_t5 (List.mem_of_getElem? (i := 232) rfl)) rfl
theorem ml_L_131 : Cond.methodLink RL 131 yX8_restoreSnapshot ∈ wG := wG_in (in_t5 (List.mem_of_getElem? (i := 235) rfl)) rfl
theorem ml_X8_308 : Cond.methodLink RX8 308 yX4_forgetAll ∈ wG := wG_in (in_t6 (List.mem_of_getElem? (i := 0) rfl)) rfl
theorem ml_L_137 : Cond.methodLink RL 137 yX9_init ∈ wG := wG_in (in_t6 (List.mem_of_getElem? (i := 6) rfl)) rfl
theorem ml_X9_1 : Cond.methodLink RX9 1 ⟨"java/lang/Object", "<init>", "()V"⟩ ∈ wG := wG_in (in_t6 (List.mem_of_getElem? (i := 9) rfl)) rfl
theorem ml_L_144 : Cond.methodLink RL 144 yX9_thrown ∈ wG := wG_in (in_t6 (List.mem_of_getElem? (i := 71) rfl)) rfl
theorem ml_L_143 : Cond.methodLink RL 143 yX9_addMagnet ∈ wG := wG_in (in_t6 (List.mem_of_getElem? (i := 75) rfl)) rfl
theorem ml_X9_62 : Cond.methodLink RX9 62 yX9_in ∈ wG := wG_in (in_t6 (List.mem_of_getElem? (i := 79) rfl)) rfl
theorem ml_X9_70 : Cond.methodLink RX9 70 yX9_fails ∈ wG := wG_in (in_t6 (List.mem_of_getElem? (i := 82) rfl)) rfl
theorem ml_X9_77 : Cond.methodLink RX9 77 yX9_denies ∈ wG := wG_in (in_t6 (List.mem_of_getElem? (i := 86) rfl)) rfl
theorem ml_X9_81 : Cond.methodLink RX9 81 yX9_found ∈ wG := wG_in (in_t6 (List.mem_of_getElem? (i := 90) rfl)) rfl
theorem ml_X9_73 : Cond.methodLink RX9 73 yX9_of ∈ wG := wG_in (in_t6 (List.mem_of_getElem? (i := 94) rfl)) rfl
theorem ml_X9_85 : Cond.methodLink RX9 85 yX9_keeps ∈ wG := wG_in (in_t6 (List.mem_of_getElem? (i := 98) rfl)) rfl
theorem ml_X9_58 : Cond.methodLink RX9 58 yX9_copies ∈ wG := wG_in (in_t6 (List.mem_of_getElem? (i := 102) rfl)) rfl
theorem ml_X9_89 : Cond.methodLink RX9 89 yX9_lays ∈ wG := wG_in (in_t6 (List.mem_of_getElem? (i := 105) rfl)) rfl
theorem ml_L_150 : Cond.methodLink RL 150 yX9_setStrength ∈ wG := wG_in (in_t6 (List.mem_of_getElem? (i := 109) rfl)) rfl
theorem ml_X9_93 : Cond.methodLink RX9 93 yX9_isNone ∈ wG := wG_in (in_t6 (List.mem_of_getElem? (i := 113) rfl)) rfl
theorem ml_X9_66 : Cond.methodLink RX9 66 yX9_isMagnet ∈ wG := wG_in (in_t6 (List.mem_of_getElem? (i := 117) rfl)) rfl
theorem ml_L_154 : Cond.methodLink RL 154 yX9_turn ∈ wG := wG_in (in_t6 (List.mem_of_getElem? (i := 121) rfl)) rfl
theorem ml_X9_96 : Cond.methodLink RX9 96 yX9_turnsOne ∈ wG := wG_in (in_t6 (List.mem_of_getElem? (i := 125) rfl)) rfl
theorem ml_X9_100 : Cond.methodLink RX9 100 yX9_shut ∈ wG := wG_in (in_t6 (List.mem_of_getElem? (i := 129) rfl)) rfl
theorem ml_X9_118 : Cond.methodLink RX9 118 yX9_isFree ∈ wG := wG_in (in_t6 (List.mem_of_getElem? (i := 133) rfl)) rfl
theorem ml_X9_115 : Cond.methodLink RX9 115 yX9_joins ∈ wG := wG_in (in_t6 (List.mem_of_getElem? (i := 137) rfl)) rfl
theorem ml_L_157 : Cond.methodLink RL 157 yX9_shift ∈ wG := wG_in (in_t6 (List.mem_of_getElem? (i := 141) rfl)) rfl
theorem ml_L_161 : Cond.methodLink RL 161 yX9_move ∈ wG := wG_in (in_t6 (List.mem_of_getElem? (i := 145) rfl)) rfl
theorem ml_X9_103 : Cond.methodLink RX9 103 yX9_pull ∈ wG := wG_in (in_t6 (List.mem_of_getElem? (i := 149) rfl)) rfl
theorem ml_L_165 : Cond.methodLink RL 165 yX9_magnetCount ∈ wG := wG_in (in_t6 (List.mem_of_getElem? (i := 153) rfl)) rfl
theorem ml_L_168 : Cond.methodLink RL 168 yX9_position ∈ wG := wG_in (in_t6 (List.mem_of_getElem? (i := 157) rfl)) rfl
theorem ml_L_171 : Cond.methodLink RL 171 yX9_strength ∈ wG := wG_in (in_t6 (List.mem_of_getElem? (i := 161) rfl)) rfl
theorem ml_L_174 : Cond.methodLink RL 174 yX9_pole ∈ wG := wG_in (in_t6 (List.mem_of_getElem? (i := 165) rfl)) rfl
theorem ml_X9_107 : Cond.methodLink RX9 107 yX9_sign ∈ wG := wG_in (in_t6 (List.mem_of_getElem? (i := 169) rfl)) rfl
theorem ml_L_177 : Cond.methodLink RL 177 yX9_magnetAt ∈ wG := wG_in (in_t6 (List.mem_of_getElem? (i := 173) rfl)) rfl
theorem ml_L_180 : Cond.methodLink RL 180 yX9_magnetByStrength ∈ wG := wG_in (in_t6 (List.mem_of_getElem? (i := 177) rfl)) rfl
theorem ml_X9_111 : Cond.methodLink RX9 111 yX9_isAhead ∈ wG := wG_in (in_t6 (List.mem_of_getElem? (i := 181) rfl)) rfl
theorem ml_L_183 : Cond.methodLink RL 183 yX9_dig ∈ wG := wG_in (in_t6 (List.mem_of_getElem? (i := 185) rfl)) rfl
theorem ml_X9_121 : Cond.methodLink RX9 121 yX9_between ∈ wG := wG_in (in_t6 (List.mem_of_getElem? (i := 189) rfl)) rfl
theorem ml_L_186 : Cond.methodLink RL 186 yX9_fill ∈ wG := wG_in (in_t6 (List.mem_of_getElem? (i := 193) rfl)) rfl
theorem ml_X9_124 : Cond.methodLink RX9 124 yX9_isTunnel ∈ wG := wG_in (in_t6 (List.mem_of_getElem? (i := 197) rfl)) rfl
theorem ml_L_190 : Cond.methodLink RL 190 yX9_settle ∈ wG := wG_in (in_t6 (List.mem_of_getElem? (i := 201) rfl)) rfl
theorem ml_X9_130 : Cond.methodLink RX9 130 yX9_best ∈ wG := wG_in (in_t6 (List.mem_of_getElem? (i := 205) rfl)) rfl
theorem ml_X9_127 : Cond.methodLink RX9 127 yX9_bits ∈ wG := wG_in (in_t6 (List.mem_of_getElem? (i := 209) rfl)) rfl
theorem ml_L_194 : Cond.methodLink RL 194 yX9_tunnelCount ∈ wG := wG_in (in_t6 (List.mem_of_getElem? (i := 212) rfl)) rfl
theorem ml_L_197 : Cond.methodLink RL 197 yX9_isOpen ∈ wG := wG_in (in_t6 (List.mem_of_getElem? (i := 216) rfl)) rfl
theorem ml_L_201 : Cond.methodLink RL 201 yX9_blocked ∈ wG := wG_in (in_t6 (List.mem_of_getElem? (i := 220) rfl)) rfl
theorem ml_L_205 : Cond.methodLink RL 205 yX9_parts ∈ wG := wG_in (in_t6 (List.mem_of_getElem? (i := 224) rfl)) rfl
theorem ml_X9_137 : Cond.methodLink RX9 137 yX9_partsWithout ∈ wG := wG_in (in_t6 (List.mem_of_getElem? (i := 228) rfl)) rfl
theorem ml_X9_134 : Cond.methodLink RX9 134 yX9_part ∈ wG := wG_in (in_t6 (List.mem_of_getElem? (i := 232) rfl)) rfl
theorem ml_L_208 : Cond.methodLink RL 208 yX9_walk ∈ wG := wG_in (in_t6 (List.mem_of_getElem? (i := 236) rfl)) rfl
theorem ml_L_212 : Cond.methodLink RL 212 yX9_bridges ∈ wG := wG_in (in_t7 (List.mem_of_getElem? (i := 0) rfl)) rfl
theorem ml_X9_140 : Cond.methodLink RX9 140 yX9_spans ∈ wG := wG_in (in_t7 (List.mem_of_getElem? (i := 4) rfl)) rfl
theorem ml_L_216 : Cond.methodLink RL 216 yX9_bridgesByFilling ∈ wG := wG_in (in_t7 (List.mem_of_getElem? (i := 8) rfl)) rfl
theorem ml_L_221 : Cond.methodLink RL 221 yX9_canSettle ∈ wG := wG_in (in_t7 (List.mem_of_getElem? (i := 12) rfl)) rfl
theorem ml_L_225 : Cond.methodLink RL 225 yX9_canSettleByUnions ∈ wG := wG_in (in_t7 (List.mem_of_getElem? (i := 16) rfl)) rfl
theorem ml_L_228 : Cond.methodLink RL 228 yX9_fewestTurns ∈ wG := wG_in (in_t7 (List.mem_of_getElem? (i := 20) rfl)) rfl
theorem ml_X9_143 : Cond.methodLink RX9 143 yX9_fewest ∈ wG := wG_in (in_t7 (List.mem_of_getElem? (i := 24) rfl)) rfl
theorem ml_L_231 : Cond.methodLink RL 231 yX9_fewestTurnsBySets ∈ wG := wG_in (in_t7 (List.mem_of_getElem? (i := 28) rfl)) rfl
theorem ml_L_235 : Cond.methodLink RL 235 yX9_leastBlocked ∈ wG := wG_in (in_t7 (List.mem_of_getElem? (i := 32) rfl)) rfl
theorem ml_X9_146 : Cond.methodLink RX9 146 yX9_leastShut ∈ wG := wG_in (in_t7 (List.mem_of_getElem? (i := 36) rfl)) rfl
theorem ml_L_239 : Cond.methodLink RL 239 yX9_leastBlockedByBounds ∈ wG := wG_in (in_t7 (List.mem_of_getElem? (i := 40) rfl)) rfl
theorem ml_L_243 : Cond.methodLink RL 243 yX9_force ∈ wG := wG_in (in_t7 (List.mem_of_getElem? (i := 44) rfl)) rfl
theorem ml_L_246 : Cond.methodLink RL 246 yX9_wholeForce ∈ wG := wG_in (in_t7 (List.mem_of_getElem? (i := 48) rfl)) rfl
theorem ml_L_249 : Cond.methodLink RL 249 yX9_field ∈ wG := wG_in (in_t7 (List.mem_of_getElem? (i := 52) rfl)) rfl
theorem ml_X9_152 : Cond.methodLink RX9 152 yX9_fieldAt ∈ wG := wG_in (in_t7 (List.mem_of_getElem? (i := 56) rfl)) rfl
theorem ml_X9_149 : Cond.methodLink RX9 149 yX9_size ∈ wG := wG_in (in_t7 (List.mem_of_getElem? (i := 60) rfl)) rfl
theorem ml_L_252 : Cond.methodLink RL 252 yX9_strongestPosition ∈ wG := wG_in (in_t7 (List.mem_of_getElem? (i := 63) rfl)) rfl
theorem ml_X9_156 : Cond.methodLink RX9 156 yX9_strong ∈ wG := wG_in (in_t7 (List.mem_of_getElem? (i := 67) rfl)) rfl
theorem ml_L_255 : Cond.methodLink RL 255 yX9_queen ∈ wG := wG_in (in_t7 (List.mem_of_getElem? (i := 70) rfl)) rfl
theorem ml_L_259 : Cond.methodLink RL 259 yX9_meanStrength ∈ wG := wG_in (in_t7 (List.mem_of_getElem? (i := 74) rfl)) rfl
theorem ml_L_262 : Cond.methodLink RL 262 yX9_openShare ∈ wG := wG_in (in_t7 (List.mem_of_getElem? (i := 78) rfl)) rfl
theorem ml_L_266 : Cond.methodLink RL 266 yX9_turnTotal ∈ wG := wG_in (in_t7 (List.mem_of_getElem? (i := 82) rfl)) rfl
theorem ml_L_269 : Cond.methodLink RL 269 yX9_turnsOf ∈ wG := wG_in (in_t7 (List.mem_of_getElem? (i := 86) rfl)) rfl
theorem ml_L_273 : Cond.methodLink RL 273 yX9_moved ∈ wG := wG_in (in_t7 (List.mem_of_getElem? (i := 90) rfl)) rfl
theorem ml_L_277 : Cond.methodLink RL 277 yX9_feed ∈ wG := wG_in (in_t7 (List.mem_of_getElem? (i := 94) rfl)) rfl
theorem ml_L_280 : Cond.methodLink RL 280 yX9_execute ∈ wG := wG_in (in_t7 (List.mem_of_getElem? (i := 98) rfl)) rfl
theorem ml_X9_237 : Cond.methodLink RX9 237 yX9_isText ∈ wG := wG_in (in_t7 (List.mem_of_getElem? (i := 102) rfl)) rfl
theorem ml_X9_208 : Cond.methodLink RX9 208 yX9_commandHere ∈ wG := wG_in (in_t7 (List.mem_of_getElem? (i := 106) rfl)) rfl
theorem ml_X9_179 : Cond.methodLink RX9 179 yX9_skips ∈ wG := wG_in (in_t7 (List.mem_of_getElem? (i := 110) rfl)) rfl
theorem ml_X9_166 : Cond.methodLink RX9 166 yX9_here ∈ wG := wG_in (in_t7 (List.mem_of_getElem? (i := 114) rfl)) rfl
theorem ml_X9_184 : Cond.methodLink RX9 184 yX9_isWord ∈ wG := wG_in (in_t7 (List.mem_of_getElem? (i := 119) rfl)) rfl
theorem ml_X9_172 : Cond.methodLink RX9 172 yJ0_length_8abf5 ∈ wG := wG_in (in_t7 (List.mem_of_getElem? (i := 123) rfl)) rfl
theorem ml_X9_176 : Cond.methodLink RX9 176 yJ0_charAt_5068e ∈ wG := wG_in (in_t7 (List.mem_of_getElem? (i := 124) rfl)) rfl
theorem ml_X9_188 : Cond.methodLink RX9 188 yX9_figures ∈ wG := wG_in (in_t7 (List.mem_of_getElem? (i := 125) rfl)) rfl
theorem ml_X9_199 : Cond.methodLink RX9 199 yX9_poleHere ∈ wG := wG_in (in_t7 (List.mem_of_getElem? (i := 133) rfl)) rfl
theorem ml_X9_240 : Cond.methodLink RX9 240 yX9_carries ∈ wG := wG_in (in_t7 (List.mem_of_getElem? (i := 140) rfl)) rfl
theorem ml_X9_212 : Cond.methodLink RX9 212 yX9_addMagnet ∈ wG := wG_in (in_t7 (List.mem_of_getElem? (i := 144) rfl)) rfl
theorem ml_X9_216 : Cond.methodLink RX9 216 yX9_turn ∈ wG := wG_in (in_t7 (List.mem_of_getElem? (i := 145) rfl)) rfl
theorem ml_X9_219 : Cond.methodLink RX9 219 yX9_dig ∈ wG := wG_in (in_t7 (List.mem_of_getElem? (i := 146) rfl)) rfl
theorem ml_X9_222 : Cond.methodLink RX9 222 yX9_fill ∈ wG := wG_in (in_t7 (List.mem_of_getElem? (i := 147) rfl)) rfl
theorem ml_X9_225 : Cond.methodLink RX9 225 yX9_settle ∈ wG := wG_in (in_t7 (List.mem_of_getElem? (i := 148) rfl)) rfl
theorem ml_X9_228 : Cond.methodLink RX9 228 yX9_shift ∈ wG := wG_in (in_t7 (List.mem_of_getElem? (i := 149) rfl)) rfl
theorem ml_X9_231 : Cond.methodLink RX9 231 yX9_move ∈ wG := wG_in (in_t7 (List.mem_of_getElem? (i := 150) rfl)) rfl
theorem ml_X9_234 : Cond.methodLink RX9 234 yX9_setStrength ∈ wG := wG_in (in_t7 (List.mem_of_getElem? (i := 151) rfl)) rfl
theorem ml_X9_243 : Cond.methodLink RX9 243 yX9_deniesText ∈ wG := wG_in (in_t7 (List.mem_of_getElem? (i := 152) rfl)) rfl
theorem ml_L_283 : Cond.methodLink RL 283 yX9_faultPosition ∈ wG := wG_in (in_t7 (List.mem_of_getElem? (i := 156) rfl)) rfl
theorem ml_L_286 : Cond.methodLink RL 286 yX9_writeMagnet ∈ wG := wG_in (in_t7 (List.mem_of_getElem? (i := 160) rfl)) rfl
theorem ml_X9_249 : Cond.methodLink RX9 249 yX9_writesNumber ∈ wG := wG_in (in_t7 (List.mem_of_getElem? (i := 164) rfl)) rfl
theorem ml_X9_252 : Cond.methodLink RX9 252 yX9_writes ∈ wG := wG_in (in_t7 (List.mem_of_getElem? (i := 168) rfl)) rfl
theorem ml_X9_255 : Cond.methodLink RX9 255 yX9_writesBehind ∈ wG := wG_in (in_t7 (List.mem_of_getElem? (i := 172) rfl)) rfl
theorem ml_L_289 : Cond.methodLink RL 289 yX9_lineCharacter ∈ wG := wG_in (in_t7 (List.mem_of_getElem? (i := 176) rfl)) rfl
theorem ml_L_292 : Cond.methodLink RL 292 yX9_denial ∈ wG := wG_in (in_t7 (List.mem_of_getElem? (i := 180) rfl)) rfl
theorem ml_L_295 : Cond.methodLink RL 295 yX9_denialDetail ∈ wG := wG_in (in_t7 (List.mem_of_getElem? (i := 184) rfl)) rfl
theorem ml_L_298 : Cond.methodLink RL 298 yX9_denialCause ∈ wG := wG_in (in_t7 (List.mem_of_getElem? (i := 188) rfl)) rfl
theorem ml_L_301 : Cond.methodLink RL 301 yX9_undo ∈ wG := wG_in (in_t7 (List.mem_of_getElem? (i := 192) rfl)) rfl
theorem ml_L_305 : Cond.methodLink RL 305 yX9_undoCount ∈ wG := wG_in (in_t7 (List.mem_of_getElem? (i := 196) rfl)) rfl
theorem ml_L_309 : Cond.methodLink RL 309 yX9_saveSnapshot ∈ wG := wG_in (in_t7 (List.mem_of_getElem? (i := 200) rfl)) rfl
theorem ml_L_312 : Cond.methodLink RL 312 yX9_restoreSnapshot ∈ wG := wG_in (in_t7 (List.mem_of_getElem? (i := 204) rfl)) rfl
theorem nl_X8_11 : Cond.methodLinkNest RX8 11 yX1_init "MagnetColony" ∈ lw_tbl := in_t1 (List.mem_of_getElem? (i := 39) rfl)
theorem nl_X4_17 : Cond.methodLinkNest RX4 17 yX1_init "MagnetColony" ∈ lw_tbl := in_t1 (List.mem_of_getElem? (i := 166) rfl)
theorem nl_X7_21 : Cond.methodLinkNest RX7 21 yX2_init "MagnetColony" ∈ lw_tbl := in_t1 (List.mem_of_getElem? (i := 187) rfl)
theorem nl_X8_63 : Cond.methodLinkNest RX8 63 yX5_init "MagnetColony" ∈ lw_tbl := in_t1 (List.mem_of_getElem? (i := 231) rfl)
theorem nl_X0_36 : Cond.methodLinkNest RX0 36 yX8_isPosition "MagnetColony" ∈ lw_tbl := in_t2 (List.mem_of_getElem? (i := 63) rfl)
theorem nl_X0_49 : Cond.methodLinkNest RX0 49 yX8_isStrength "MagnetColony" ∈ lw_tbl := in_t2 (List.mem_of_getElem? (i := 66) rfl)
theorem nl_X6_98 : Cond.methodLinkNest RX6 98 yX8_isIn "MagnetColony" ∈ lw_tbl := in_t2 (List.mem_of_getElem? (i := 121) rfl)
theorem nl_X1_53 : Cond.methodLinkNest RX1 53 yX8_isIn "MagnetColony" ∈ lw_tbl := in_t3 (List.mem_of_getElem? (i := 41) rfl)
theorem nl_X3_31 : Cond.methodLinkNest RX3 31 yX8_isIn "MagnetColony" ∈ lw_tbl := in_t3 (List.mem_of_getElem? (i := 60) rfl)
theorem nl_X3_46 : Cond.methodLinkNest RX3 46 yX8_isPosition "MagnetColony" ∈ lw_tbl := in_t3 (List.mem_of_getElem? (i := 61) rfl)
theorem cl_L_8 : Cond.classLink RL 8 "MagnetColony" ∈ wG := wG_in (in_t1 (List.mem_of_getElem? (i := 29) rfl)) rfl
theorem cl_X8_9 : Cond.classLink RX8 9 "MagnetColony$Colony" ∈ wG := wG_in (in_t1 (List.mem_of_getElem? (i := 37) rfl)) rfl
theorem cl_X8_16 : Cond.classLink RX8 16 "MagnetColony$Survey" ∈ wG := wG_in (in_t1 (List.mem_of_getElem? (i := 97) rfl)) rfl
theorem cl_X8_25 : Cond.classLink RX8 25 "MagnetColony$Forces" ∈ wG := wG_in (in_t1 (List.mem_of_getElem? (i := 128) rfl)) rfl
theorem cl_X8_32 : Cond.classLink RX8 32 "MagnetColony$Changes" ∈ wG := wG_in (in_t1 (List.mem_of_getElem? (i := 138) rfl)) rfl
theorem cl_X8_41 : Cond.classLink RX8 41 "MagnetColony$History" ∈ wG := wG_in (in_t1 (List.mem_of_getElem? (i := 158) rfl)) rfl
theorem cl_X4_9 : Cond.classLink RX4 9 "MagnetColony$Colony" ∈ wG := wG_in (in_t1 (List.mem_of_getElem? (i := 164) rfl)) rfl
theorem cl_X8_54 : Cond.classLink RX8 54 "MagnetColony$Text" ∈ wG := wG_in (in_t1 (List.mem_of_getElem? (i := 178) rfl)) rfl
theorem cl_X7_15 : Cond.classLink RX7 15 "MagnetColony$Command" ∈ wG := wG_in (in_t1 (List.mem_of_getElem? (i := 184) rfl)) rfl
theorem cl_X8_61 : Cond.classLink RX8 61 "MagnetColony$Line" ∈ wG := wG_in (in_t1 (List.mem_of_getElem? (i := 229) rfl)) rfl
theorem cl_X8_268 : Cond.classLink RX8 268 "java/lang/IndexOutOfBoundsException" ∈ wG := wG_in (in_t2 (List.mem_of_getElem? (i := 143) rfl)) rfl
theorem cl_X8_212 : Cond.classLink RX8 212 "java/lang/IllegalArgumentException" ∈ wG := wG_in (in_t2 (List.mem_of_getElem? (i := 215) rfl)) rfl
theorem cl_X8_249 : Cond.classLink RX8 249 "java/lang/UnsupportedOperationException" ∈ wG := wG_in (in_t2 (List.mem_of_getElem? (i := 235) rfl)) rfl
theorem cl_L_13 : Cond.classLink RL 13 "java/lang/IllegalArgumentException" ∈ wG := wG_in (in_t3 (List.mem_of_getElem? (i := 191) rfl)) rfl
theorem cl_L_15 : Cond.classLink RL 15 "java/lang/UnsupportedOperationException" ∈ wG := wG_in (in_t3 (List.mem_of_getElem? (i := 192) rfl)) rfl
theorem cl_L_21 : Cond.classLink RL 21 "java/lang/IndexOutOfBoundsException" ∈ wG := wG_in (in_t3 (List.mem_of_getElem? (i := 200) rfl)) rfl
theorem cl_L_43 : Cond.classLink RL 43 "java/util/NoSuchElementException" ∈ wG := wG_in (in_t4 (List.mem_of_getElem? (i := 33) rfl)) rfl
theorem cl_X8_289 : Cond.classLink RX8 289 "java/util/NoSuchElementException" ∈ wG := wG_in (in_t4 (List.mem_of_getElem? (i := 47) rfl)) rfl
theorem cl_L_92 : Cond.classLink RL 92 "java/lang/ArithmeticException" ∈ wG := wG_in (in_t4 (List.mem_of_getElem? (i := 214) rfl)) rfl
theorem cl_X8_167 : Cond.classLink RX8 167 "java/lang/ArithmeticException" ∈ wG := wG_in (in_t4 (List.mem_of_getElem? (i := 232) rfl)) rfl
theorem cl_L_105 : Cond.classLink RL 105 "java/lang/IllegalStateException" ∈ wG := wG_in (in_t5 (List.mem_of_getElem? (i := 17) rfl)) rfl
theorem cl_X8_191 : Cond.classLink RX8 191 "java/lang/IllegalStateException" ∈ wG := wG_in (in_t5 (List.mem_of_getElem? (i := 26) rfl)) rfl
theorem cl_L_135 : Cond.classLink RL 135 "MagnetColonyModel" ∈ wG := wG_in (in_t6 (List.mem_of_getElem? (i := 4) rfl)) rfl
theorem ca_IndexOutOfBoundsException : Cond.castable "java/lang/IndexOutOfBoundsException" "java/lang/IndexOutOfBoundsException" ∈ lw_tbl := in_t2 (List.mem_of_getElem? (i := 145) rfl)
theorem ca_IllegalArgumentException : Cond.castable "java/lang/IllegalArgumentException" "java/lang/IllegalArgumentException" ∈ lw_tbl := in_t2 (List.mem_of_getElem? (i := 217) rfl)
theorem ca_UnsupportedOperationException : Cond.castable "java/lang/UnsupportedOperationException" "java/lang/UnsupportedOperationException" ∈ lw_tbl := in_t2 (List.mem_of_getElem? (i := 237) rfl)
theorem ca_ArrayIndexOutOfBoundsException : Cond.castable "java/lang/ArrayIndexOutOfBoundsException" "java/lang/ArrayIndexOutOfBoundsException" ∈ lw_tbl := in_t3 (List.mem_of_getElem? (i := 212) rfl)
theorem ca_NoSuchElementException : Cond.castable "java/util/NoSuchElementException" "java/util/NoSuchElementException" ∈ lw_tbl := in_t4 (List.mem_of_getElem? (i := 49) rfl)
theorem ca_ArithmeticException : Cond.castable "java/lang/ArithmeticException" "java/lang/ArithmeticException" ∈ lw_tbl := in_t4 (List.mem_of_getElem? (i := 226) rfl)
theorem ca_IllegalStateException : Cond.castable "java/lang/IllegalStateException" "java/lang/IllegalStateException" ∈ lw_tbl := in_t5 (List.mem_of_getElem? (i := 28) rfl)
theorem kc_J6_265 : Cond.constant RJ6 265 1431655765 ∈ wG := wG_in (in_t2 (List.mem_of_getElem? (i := 135) rfl)) rfl
theorem kc_J6_266 : Cond.constant RJ6 266 858993459 ∈ wG := wG_in (in_t2 (List.mem_of_getElem? (i := 136) rfl)) rfl
theorem kc_J6_267 : Cond.constant RJ6 267 252645135 ∈ wG := wG_in (in_t2 (List.mem_of_getElem? (i := 137) rfl)) rfl
theorem oi_in : Cond.instanceMethod objectInit ∈ wG := wG_in (in_t1 (List.mem_of_getElem? (i := 35) rfl)) rfl
theorem oi_co : Cond.code objectInit ⟨#[0xb1]⟩ 1 none ∈ wG := wG_in (in_t1 (List.mem_of_getElem? (i := 36) rfl)) rfl
theorem ma_min_s : Cond.static Lib.Math.min.name ∈ wG := wG_in (in_t3 (List.mem_of_getElem? (i := 23) rfl)) rfl
theorem ma_min_c : Cond.code Lib.Math.min.name Lib.Math.min.code 2 (some .int) ∈ wG := wG_in (in_t3 (List.mem_of_getElem? (i := 24) rfl)) rfl
theorem ma_max_s : Cond.static Lib.Math.max.name ∈ wG := wG_in (in_t5 (List.mem_of_getElem? (i := 137) rfl)) rfl
theorem ma_max_c : Cond.code Lib.Math.max.name Lib.Math.max.code 2 (some .int) ∈ wG := wG_in (in_t5 (List.mem_of_getElem? (i := 138) rfl)) rfl
theorem ma_abs_s : Cond.static Lib.Math.abs.name ∈ wG := wG_in (in_t4 (List.mem_of_getElem? (i := 182) rfl)) rfl
theorem ma_abs_c : Cond.code Lib.Math.abs.name Lib.Math.abs.code 1 (some .int) ∈ wG := wG_in (in_t4 (List.mem_of_getElem? (i := 183) rfl)) rfl
theorem in_Math : Cond.initialized "java/lang/Math" ∈ wG := wG_in (in_t1 (List.mem_of_getElem? (i := 19) rfl)) rfl
theorem in_System : Cond.initialized "java/lang/System" ∈ wG := wG_in (in_t1 (List.mem_of_getElem? (i := 18) rfl)) rfl
theorem ac_n : Cond.native arraycopyName ∈ wG := wG_in (in_t3 (List.mem_of_getElem? (i := 21) rfl)) rfl
theorem ac_s : Cond.static arraycopyName ∈ wG := wG_in (in_t3 (List.mem_of_getElem? (i := 20) rfl)) rfl
theorem xat_ok {own cls : String} {ic : Nat} {names : List String} (h : ((vx_atS own ic cls names).all fun w => decide (w ∈ lw_tbl) && oW w) = true) : ∀ w ∈ vx_atS own ic cls names, w ∈ lw_tbl ∧ oW w = true := fun w hw => by
  have h1 := List.all_eq_true.mp h w hw
  simp only [Bool.and_eq_true, decide_eq_true_eq] at h1
  exact h1
theorem xok_IndexOutOfBoundsException : XOK RX8 "java/lang/IndexOutOfBoundsException" 268 272 ["java/lang/RuntimeException", "java/lang/Exception"] := ⟨cl_X8_268, wG_in (in_t1 (List.mem_of_getElem? (i := 15) rfl)) rfl, xat_ok (by decide +kernel), by decide +kernel, by decide +kernel⟩
theorem xok_IllegalArgumentException : XOK RX8 "java/lang/IllegalArgumentException" 212 216 ["java/lang/RuntimeException", "java/lang/Exception"] := ⟨cl_X8_212, wG_in (in_t1 (List.mem_of_getElem? (i := 16) rfl)) rfl, xat_ok (by decide +kernel), by decide +kernel, by decide +kernel⟩
theorem xok_UnsupportedOperationException : XOK RX8 "java/lang/UnsupportedOperationException" 249 253 ["java/lang/RuntimeException", "java/lang/Exception"] := ⟨cl_X8_249, wG_in (in_t1 (List.mem_of_getElem? (i := 17) rfl)) rfl, xat_ok (by decide +kernel), by decide +kernel, by decide +kernel⟩
theorem nat_ok {own cls : String} {ic : Nat} (h : (((nsA own ic cls).filter vx_no).all fun w => decide (w ∈ lw_tbl) && oW w) = true) : ∀ w ∈ (nsA own ic cls).filter vx_no, w ∈ lw_tbl ∧ oW w = true := fun w hw => by
  have h1 := List.all_eq_true.mp h w hw
  simp only [Bool.and_eq_true, decide_eq_true_eq] at h1
  exact h1
theorem xok_NoSuchElementException : XOKn RX8 "java/util/NoSuchElementException" 289 293 := ⟨cl_X8_289, wG_in (in_t1 (List.mem_of_getElem? (i := 22) rfl)) rfl, nat_ok (by decide +kernel), by decide +kernel⟩
theorem xok_ArithmeticException : XOK RX8 "java/lang/ArithmeticException" 167 171 ["java/lang/RuntimeException", "java/lang/Exception"] := ⟨cl_X8_167, wG_in (in_t1 (List.mem_of_getElem? (i := 24) rfl)) rfl, xat_ok (by decide +kernel), by decide +kernel, by decide +kernel⟩
theorem xok_IllegalStateException : XOK RX8 "java/lang/IllegalStateException" 191 195 ["java/lang/RuntimeException", "java/lang/Exception"] := ⟨cl_X8_191, wG_in (in_t1 (List.mem_of_getElem? (i := 25) rfl)) rfl, xat_ok (by decide +kernel), by decide +kernel, by decide +kernel⟩

theorem dL_addMagnet_0 : decode cL_addMagnet 0 = .ok (.aload 4, 2) := by decide +kernel
theorem dL_addMagnet_2 : decode cL_addMagnet 2 = .ok (.iconst 0, 1) := by decide +kernel
theorem dL_addMagnet_3 : decode cL_addMagnet 3 = .ok (.aload_n 0, 1) := by decide +kernel
theorem dL_addMagnet_4 : decode cL_addMagnet 4 = .ok (.iload_n 1, 1) := by decide +kernel
theorem dL_addMagnet_5 : decode cL_addMagnet 5 = .ok (.iload_n 2, 1) := by decide +kernel
theorem dL_addMagnet_6 : decode cL_addMagnet 6 = .ok (.iload_n 3, 1) := by decide +kernel
theorem dL_addMagnet_7 : decode cL_addMagnet 7 = .ok (.invokevirtual 7, 3) := by decide +kernel
theorem dL_addMagnet_10 : decode cL_addMagnet 10 = .ok (.i2l, 1) := by decide +kernel
theorem dL_addMagnet_11 : decode cL_addMagnet 11 = .ok (.lastore, 1) := by decide +kernel
theorem dL_addMagnet_12 : decode cL_addMagnet 12 = .ok (.goto 11, 3) := by decide +kernel
theorem dL_addMagnet_15 : decode cL_addMagnet 15 = .ok (.astore 5, 2) := by decide +kernel
theorem dL_addMagnet_17 : decode cL_addMagnet 17 = .ok (.iconst 1, 1) := by decide +kernel
theorem dL_addMagnet_18 : decode cL_addMagnet 18 = .ok (.ireturn, 1) := by decide +kernel
theorem dL_addMagnet_19 : decode cL_addMagnet 19 = .ok (.astore 5, 2) := by decide +kernel
theorem dL_addMagnet_21 : decode cL_addMagnet 21 = .ok (.iconst 2, 1) := by decide +kernel
theorem dL_addMagnet_22 : decode cL_addMagnet 22 = .ok (.ireturn, 1) := by decide +kernel
theorem dL_addMagnet_23 : decode cL_addMagnet 23 = .ok (.iconst 0, 1) := by decide +kernel
theorem dL_addMagnet_24 : decode cL_addMagnet 24 = .ok (.ireturn, 1) := by decide +kernel
theorem dL_setStrength_0 : decode cL_setStrength 0 = .ok (.aload_n 3, 1) := by decide +kernel
theorem dL_setStrength_1 : decode cL_setStrength 1 = .ok (.iconst 0, 1) := by decide +kernel
theorem dL_setStrength_2 : decode cL_setStrength 2 = .ok (.aload_n 0, 1) := by decide +kernel
theorem dL_setStrength_3 : decode cL_setStrength 3 = .ok (.iload_n 1, 1) := by decide +kernel
theorem dL_setStrength_4 : decode cL_setStrength 4 = .ok (.iload_n 2, 1) := by decide +kernel
theorem dL_setStrength_5 : decode cL_setStrength 5 = .ok (.invokevirtual 17, 3) := by decide +kernel
theorem dL_setStrength_8 : decode cL_setStrength 8 = .ok (.i2l, 1) := by decide +kernel
theorem dL_setStrength_9 : decode cL_setStrength 9 = .ok (.lastore, 1) := by decide +kernel
theorem dL_setStrength_10 : decode cL_setStrength 10 = .ok (.goto 11, 3) := by decide +kernel
theorem dL_setStrength_13 : decode cL_setStrength 13 = .ok (.astore 4, 2) := by decide +kernel
theorem dL_setStrength_15 : decode cL_setStrength 15 = .ok (.iconst 1, 1) := by decide +kernel
theorem dL_setStrength_16 : decode cL_setStrength 16 = .ok (.ireturn, 1) := by decide +kernel
theorem dL_setStrength_17 : decode cL_setStrength 17 = .ok (.astore 4, 2) := by decide +kernel
theorem dL_setStrength_19 : decode cL_setStrength 19 = .ok (.iconst 2, 1) := by decide +kernel
theorem dL_setStrength_20 : decode cL_setStrength 20 = .ok (.ireturn, 1) := by decide +kernel
theorem dL_setStrength_21 : decode cL_setStrength 21 = .ok (.iconst 0, 1) := by decide +kernel
theorem dL_setStrength_22 : decode cL_setStrength 22 = .ok (.ireturn, 1) := by decide +kernel
theorem dL_turn_0 : decode cL_turn 0 = .ok (.aload_n 2, 1) := by decide +kernel
theorem dL_turn_1 : decode cL_turn 1 = .ok (.iconst 0, 1) := by decide +kernel
theorem dL_turn_2 : decode cL_turn 2 = .ok (.aload_n 0, 1) := by decide +kernel
theorem dL_turn_3 : decode cL_turn 3 = .ok (.iload_n 1, 1) := by decide +kernel
theorem dL_turn_4 : decode cL_turn 4 = .ok (.invokevirtual 23, 3) := by decide +kernel
theorem dL_turn_7 : decode cL_turn 7 = .ok (.i2l, 1) := by decide +kernel
theorem dL_turn_8 : decode cL_turn 8 = .ok (.lastore, 1) := by decide +kernel
theorem dL_turn_9 : decode cL_turn 9 = .ok (.goto 6, 3) := by decide +kernel
theorem dL_turn_12 : decode cL_turn 12 = .ok (.astore_n 3, 1) := by decide +kernel
theorem dL_turn_13 : decode cL_turn 13 = .ok (.iconst 1, 1) := by decide +kernel
theorem dL_turn_14 : decode cL_turn 14 = .ok (.ireturn, 1) := by decide +kernel
theorem dL_turn_15 : decode cL_turn 15 = .ok (.iconst 0, 1) := by decide +kernel
theorem dL_turn_16 : decode cL_turn 16 = .ok (.ireturn, 1) := by decide +kernel
theorem dL_shift_0 : decode cL_shift 0 = .ok (.aload_n 2, 1) := by decide +kernel
theorem dL_shift_1 : decode cL_shift 1 = .ok (.iconst 0, 1) := by decide +kernel
theorem dL_shift_2 : decode cL_shift 2 = .ok (.aload_n 0, 1) := by decide +kernel
theorem dL_shift_3 : decode cL_shift 3 = .ok (.iload_n 1, 1) := by decide +kernel
theorem dL_shift_4 : decode cL_shift 4 = .ok (.invokevirtual 27, 3) := by decide +kernel
theorem dL_shift_7 : decode cL_shift 7 = .ok (.i2l, 1) := by decide +kernel
theorem dL_shift_8 : decode cL_shift 8 = .ok (.lastore, 1) := by decide +kernel
theorem dL_shift_9 : decode cL_shift 9 = .ok (.goto 6, 3) := by decide +kernel
theorem dL_shift_12 : decode cL_shift 12 = .ok (.astore_n 3, 1) := by decide +kernel
theorem dL_shift_13 : decode cL_shift 13 = .ok (.iconst 1, 1) := by decide +kernel
theorem dL_shift_14 : decode cL_shift 14 = .ok (.ireturn, 1) := by decide +kernel
theorem dL_shift_15 : decode cL_shift 15 = .ok (.iconst 0, 1) := by decide +kernel
theorem dL_shift_16 : decode cL_shift 16 = .ok (.ireturn, 1) := by decide +kernel
theorem dL_position_0 : decode cL_position 0 = .ok (.aload_n 2, 1) := by decide +kernel
theorem dL_position_1 : decode cL_position 1 = .ok (.iconst 0, 1) := by decide +kernel
theorem dL_position_2 : decode cL_position 2 = .ok (.aload_n 0, 1) := by decide +kernel
theorem dL_position_3 : decode cL_position 3 = .ok (.iload_n 1, 1) := by decide +kernel
theorem dL_position_4 : decode cL_position 4 = .ok (.invokevirtual 30, 3) := by decide +kernel
theorem dL_position_7 : decode cL_position 7 = .ok (.i2l, 1) := by decide +kernel
theorem dL_position_8 : decode cL_position 8 = .ok (.lastore, 1) := by decide +kernel
theorem dL_position_9 : decode cL_position 9 = .ok (.goto 6, 3) := by decide +kernel
theorem dL_position_12 : decode cL_position 12 = .ok (.astore_n 3, 1) := by decide +kernel
theorem dL_position_13 : decode cL_position 13 = .ok (.iconst 1, 1) := by decide +kernel
theorem dL_position_14 : decode cL_position 14 = .ok (.ireturn, 1) := by decide +kernel
theorem dL_position_15 : decode cL_position 15 = .ok (.iconst 0, 1) := by decide +kernel
theorem dL_position_16 : decode cL_position 16 = .ok (.ireturn, 1) := by decide +kernel
theorem dL_strength_0 : decode cL_strength 0 = .ok (.aload_n 2, 1) := by decide +kernel
theorem dL_strength_1 : decode cL_strength 1 = .ok (.iconst 0, 1) := by decide +kernel
theorem dL_strength_2 : decode cL_strength 2 = .ok (.aload_n 0, 1) := by decide +kernel
theorem dL_strength_3 : decode cL_strength 3 = .ok (.iload_n 1, 1) := by decide +kernel
theorem dL_strength_4 : decode cL_strength 4 = .ok (.invokevirtual 33, 3) := by decide +kernel
theorem dL_strength_7 : decode cL_strength 7 = .ok (.i2l, 1) := by decide +kernel
theorem dL_strength_8 : decode cL_strength 8 = .ok (.lastore, 1) := by decide +kernel
theorem dL_strength_9 : decode cL_strength 9 = .ok (.goto 6, 3) := by decide +kernel
theorem dL_strength_12 : decode cL_strength 12 = .ok (.astore_n 3, 1) := by decide +kernel
theorem dL_strength_13 : decode cL_strength 13 = .ok (.iconst 1, 1) := by decide +kernel
theorem dL_strength_14 : decode cL_strength 14 = .ok (.ireturn, 1) := by decide +kernel
theorem dL_strength_15 : decode cL_strength 15 = .ok (.iconst 0, 1) := by decide +kernel
theorem dL_strength_16 : decode cL_strength 16 = .ok (.ireturn, 1) := by decide +kernel
theorem dL_pole_0 : decode cL_pole 0 = .ok (.aload_n 2, 1) := by decide +kernel
theorem dL_pole_1 : decode cL_pole 1 = .ok (.iconst 0, 1) := by decide +kernel
theorem dL_pole_2 : decode cL_pole 2 = .ok (.aload_n 0, 1) := by decide +kernel
theorem dL_pole_3 : decode cL_pole 3 = .ok (.iload_n 1, 1) := by decide +kernel
theorem dL_pole_4 : decode cL_pole 4 = .ok (.invokevirtual 36, 3) := by decide +kernel
theorem dL_pole_7 : decode cL_pole 7 = .ok (.i2l, 1) := by decide +kernel
theorem dL_pole_8 : decode cL_pole 8 = .ok (.lastore, 1) := by decide +kernel
theorem dL_pole_9 : decode cL_pole 9 = .ok (.goto 6, 3) := by decide +kernel
theorem dL_pole_12 : decode cL_pole 12 = .ok (.astore_n 3, 1) := by decide +kernel
theorem dL_pole_13 : decode cL_pole 13 = .ok (.iconst 1, 1) := by decide +kernel
theorem dL_pole_14 : decode cL_pole 14 = .ok (.ireturn, 1) := by decide +kernel
theorem dL_pole_15 : decode cL_pole 15 = .ok (.iconst 0, 1) := by decide +kernel
theorem dL_pole_16 : decode cL_pole 16 = .ok (.ireturn, 1) := by decide +kernel
theorem dL_magnetAt_0 : decode cL_magnetAt 0 = .ok (.aload_n 2, 1) := by decide +kernel
theorem dL_magnetAt_1 : decode cL_magnetAt 1 = .ok (.iconst 0, 1) := by decide +kernel
theorem dL_magnetAt_2 : decode cL_magnetAt 2 = .ok (.aload_n 0, 1) := by decide +kernel
theorem dL_magnetAt_3 : decode cL_magnetAt 3 = .ok (.iload_n 1, 1) := by decide +kernel
theorem dL_magnetAt_4 : decode cL_magnetAt 4 = .ok (.invokevirtual 40, 3) := by decide +kernel
theorem dL_magnetAt_7 : decode cL_magnetAt 7 = .ok (.i2l, 1) := by decide +kernel
theorem dL_magnetAt_8 : decode cL_magnetAt 8 = .ok (.lastore, 1) := by decide +kernel
theorem dL_magnetAt_9 : decode cL_magnetAt 9 = .ok (.goto 9, 3) := by decide +kernel
theorem dL_magnetAt_12 : decode cL_magnetAt 12 = .ok (.astore_n 3, 1) := by decide +kernel
theorem dL_magnetAt_13 : decode cL_magnetAt 13 = .ok (.iconst 1, 1) := by decide +kernel
theorem dL_magnetAt_14 : decode cL_magnetAt 14 = .ok (.ireturn, 1) := by decide +kernel
theorem dL_magnetAt_15 : decode cL_magnetAt 15 = .ok (.astore_n 3, 1) := by decide +kernel
theorem dL_magnetAt_16 : decode cL_magnetAt 16 = .ok (.iconst 2, 1) := by decide +kernel
theorem dL_magnetAt_17 : decode cL_magnetAt 17 = .ok (.ireturn, 1) := by decide +kernel
theorem dL_magnetAt_18 : decode cL_magnetAt 18 = .ok (.iconst 0, 1) := by decide +kernel
theorem dL_magnetAt_19 : decode cL_magnetAt 19 = .ok (.ireturn, 1) := by decide +kernel
theorem dL_magnetByStrength_0 : decode cL_magnetByStrength 0 = .ok (.aload_n 2, 1) := by decide +kernel
theorem dL_magnetByStrength_1 : decode cL_magnetByStrength 1 = .ok (.iconst 0, 1) := by decide +kernel
theorem dL_magnetByStrength_2 : decode cL_magnetByStrength 2 = .ok (.aload_n 0, 1) := by decide +kernel
theorem dL_magnetByStrength_3 : decode cL_magnetByStrength 3 = .ok (.iload_n 1, 1) := by decide +kernel
theorem dL_magnetByStrength_4 : decode cL_magnetByStrength 4 = .ok (.invokevirtual 45, 3) := by decide +kernel
theorem dL_magnetByStrength_7 : decode cL_magnetByStrength 7 = .ok (.i2l, 1) := by decide +kernel
theorem dL_magnetByStrength_8 : decode cL_magnetByStrength 8 = .ok (.lastore, 1) := by decide +kernel
theorem dL_magnetByStrength_9 : decode cL_magnetByStrength 9 = .ok (.goto 6, 3) := by decide +kernel
theorem dL_magnetByStrength_12 : decode cL_magnetByStrength 12 = .ok (.astore_n 3, 1) := by decide +kernel
theorem dL_magnetByStrength_13 : decode cL_magnetByStrength 13 = .ok (.iconst 1, 1) := by decide +kernel
theorem dL_magnetByStrength_14 : decode cL_magnetByStrength 14 = .ok (.ireturn, 1) := by decide +kernel
theorem dL_magnetByStrength_15 : decode cL_magnetByStrength 15 = .ok (.iconst 0, 1) := by decide +kernel
theorem dL_magnetByStrength_16 : decode cL_magnetByStrength 16 = .ok (.ireturn, 1) := by decide +kernel
theorem dL_dig_0 : decode cL_dig 0 = .ok (.aload_n 3, 1) := by decide +kernel
theorem dL_dig_1 : decode cL_dig 1 = .ok (.iconst 0, 1) := by decide +kernel
theorem dL_dig_2 : decode cL_dig 2 = .ok (.aload_n 0, 1) := by decide +kernel
theorem dL_dig_3 : decode cL_dig 3 = .ok (.iload_n 1, 1) := by decide +kernel
theorem dL_dig_4 : decode cL_dig 4 = .ok (.iload_n 2, 1) := by decide +kernel
theorem dL_dig_5 : decode cL_dig 5 = .ok (.invokevirtual 48, 3) := by decide +kernel
theorem dL_dig_8 : decode cL_dig 8 = .ok (.i2l, 1) := by decide +kernel
theorem dL_dig_9 : decode cL_dig 9 = .ok (.lastore, 1) := by decide +kernel
theorem dL_dig_10 : decode cL_dig 10 = .ok (.goto 15, 3) := by decide +kernel
theorem dL_dig_13 : decode cL_dig 13 = .ok (.astore 4, 2) := by decide +kernel
theorem dL_dig_15 : decode cL_dig 15 = .ok (.iconst 1, 1) := by decide +kernel
theorem dL_dig_16 : decode cL_dig 16 = .ok (.ireturn, 1) := by decide +kernel
theorem dL_dig_17 : decode cL_dig 17 = .ok (.astore 4, 2) := by decide +kernel
theorem dL_dig_19 : decode cL_dig 19 = .ok (.iconst 2, 1) := by decide +kernel
theorem dL_dig_20 : decode cL_dig 20 = .ok (.ireturn, 1) := by decide +kernel
theorem dL_dig_21 : decode cL_dig 21 = .ok (.astore 4, 2) := by decide +kernel
theorem dL_dig_23 : decode cL_dig 23 = .ok (.iconst 3, 1) := by decide +kernel
theorem dL_dig_24 : decode cL_dig 24 = .ok (.ireturn, 1) := by decide +kernel
theorem dL_dig_25 : decode cL_dig 25 = .ok (.iconst 0, 1) := by decide +kernel
theorem dL_dig_26 : decode cL_dig 26 = .ok (.ireturn, 1) := by decide +kernel
theorem dL_fill_0 : decode cL_fill 0 = .ok (.aload_n 2, 1) := by decide +kernel
theorem dL_fill_1 : decode cL_fill 1 = .ok (.iconst 0, 1) := by decide +kernel
theorem dL_fill_2 : decode cL_fill 2 = .ok (.aload_n 0, 1) := by decide +kernel
theorem dL_fill_3 : decode cL_fill 3 = .ok (.iload_n 1, 1) := by decide +kernel
theorem dL_fill_4 : decode cL_fill 4 = .ok (.invokevirtual 51, 3) := by decide +kernel
theorem dL_fill_7 : decode cL_fill 7 = .ok (.i2l, 1) := by decide +kernel
theorem dL_fill_8 : decode cL_fill 8 = .ok (.lastore, 1) := by decide +kernel
theorem dL_fill_9 : decode cL_fill 9 = .ok (.goto 6, 3) := by decide +kernel
theorem dL_fill_12 : decode cL_fill 12 = .ok (.astore_n 3, 1) := by decide +kernel
theorem dL_fill_13 : decode cL_fill 13 = .ok (.iconst 1, 1) := by decide +kernel
theorem dL_fill_14 : decode cL_fill 14 = .ok (.ireturn, 1) := by decide +kernel
theorem dL_fill_15 : decode cL_fill 15 = .ok (.iconst 0, 1) := by decide +kernel
theorem dL_fill_16 : decode cL_fill 16 = .ok (.ireturn, 1) := by decide +kernel
theorem dL_settle_0 : decode cL_settle 0 = .ok (.aload_n 1, 1) := by decide +kernel
theorem dL_settle_1 : decode cL_settle 1 = .ok (.iconst 0, 1) := by decide +kernel
theorem dL_settle_2 : decode cL_settle 2 = .ok (.aload_n 0, 1) := by decide +kernel
theorem dL_settle_3 : decode cL_settle 3 = .ok (.invokevirtual 54, 3) := by decide +kernel
theorem dL_settle_6 : decode cL_settle 6 = .ok (.i2l, 1) := by decide +kernel
theorem dL_settle_7 : decode cL_settle 7 = .ok (.lastore, 1) := by decide +kernel
theorem dL_settle_8 : decode cL_settle 8 = .ok (.goto 6, 3) := by decide +kernel
theorem dL_settle_11 : decode cL_settle 11 = .ok (.astore_n 2, 1) := by decide +kernel
theorem dL_settle_12 : decode cL_settle 12 = .ok (.iconst 1, 1) := by decide +kernel
theorem dL_settle_13 : decode cL_settle 13 = .ok (.ireturn, 1) := by decide +kernel
theorem dL_settle_14 : decode cL_settle 14 = .ok (.iconst 0, 1) := by decide +kernel
theorem dL_settle_15 : decode cL_settle 15 = .ok (.ireturn, 1) := by decide +kernel
theorem dL_isOpen_0 : decode cL_isOpen 0 = .ok (.aload_n 2, 1) := by decide +kernel
theorem dL_isOpen_1 : decode cL_isOpen 1 = .ok (.iconst 0, 1) := by decide +kernel
theorem dL_isOpen_2 : decode cL_isOpen 2 = .ok (.aload_n 0, 1) := by decide +kernel
theorem dL_isOpen_3 : decode cL_isOpen 3 = .ok (.iload_n 1, 1) := by decide +kernel
theorem dL_isOpen_4 : decode cL_isOpen 4 = .ok (.invokevirtual 58, 3) := by decide +kernel
theorem dL_isOpen_7 : decode cL_isOpen 7 = .ok (.ifCond .eq 7, 3) := by decide +kernel
theorem dL_isOpen_10 : decode cL_isOpen 10 = .ok (.lconst 1, 1) := by decide +kernel
theorem dL_isOpen_11 : decode cL_isOpen 11 = .ok (.goto 4, 3) := by decide +kernel
theorem dL_isOpen_14 : decode cL_isOpen 14 = .ok (.lconst 0, 1) := by decide +kernel
theorem dL_isOpen_15 : decode cL_isOpen 15 = .ok (.lastore, 1) := by decide +kernel
theorem dL_isOpen_16 : decode cL_isOpen 16 = .ok (.goto 6, 3) := by decide +kernel
theorem dL_isOpen_19 : decode cL_isOpen 19 = .ok (.astore_n 3, 1) := by decide +kernel
theorem dL_isOpen_20 : decode cL_isOpen 20 = .ok (.iconst 1, 1) := by decide +kernel
theorem dL_isOpen_21 : decode cL_isOpen 21 = .ok (.ireturn, 1) := by decide +kernel
theorem dL_isOpen_22 : decode cL_isOpen 22 = .ok (.iconst 0, 1) := by decide +kernel
theorem dL_isOpen_23 : decode cL_isOpen 23 = .ok (.ireturn, 1) := by decide +kernel
theorem dL_walk_0 : decode cL_walk 0 = .ok (.aload_n 3, 1) := by decide +kernel
theorem dL_walk_1 : decode cL_walk 1 = .ok (.iconst 0, 1) := by decide +kernel
theorem dL_walk_2 : decode cL_walk 2 = .ok (.aload_n 0, 1) := by decide +kernel
theorem dL_walk_3 : decode cL_walk 3 = .ok (.iload_n 1, 1) := by decide +kernel
theorem dL_walk_4 : decode cL_walk 4 = .ok (.iload_n 2, 1) := by decide +kernel
theorem dL_walk_5 : decode cL_walk 5 = .ok (.invokevirtual 62, 3) := by decide +kernel
theorem dL_walk_8 : decode cL_walk 8 = .ok (.i2l, 1) := by decide +kernel
theorem dL_walk_9 : decode cL_walk 9 = .ok (.lastore, 1) := by decide +kernel
theorem dL_walk_10 : decode cL_walk 10 = .ok (.goto 11, 3) := by decide +kernel
theorem dL_walk_13 : decode cL_walk 13 = .ok (.astore 4, 2) := by decide +kernel
theorem dL_walk_15 : decode cL_walk 15 = .ok (.iconst 1, 1) := by decide +kernel
theorem dL_walk_16 : decode cL_walk 16 = .ok (.ireturn, 1) := by decide +kernel
theorem dL_walk_17 : decode cL_walk 17 = .ok (.astore 4, 2) := by decide +kernel
theorem dL_walk_19 : decode cL_walk 19 = .ok (.iconst 2, 1) := by decide +kernel
theorem dL_walk_20 : decode cL_walk 20 = .ok (.ireturn, 1) := by decide +kernel
theorem dL_walk_21 : decode cL_walk 21 = .ok (.iconst 0, 1) := by decide +kernel
theorem dL_walk_22 : decode cL_walk 22 = .ok (.ireturn, 1) := by decide +kernel
theorem dL_fewestTurns_0 : decode cL_fewestTurns 0 = .ok (.aload_n 1, 1) := by decide +kernel
theorem dL_fewestTurns_1 : decode cL_fewestTurns 1 = .ok (.iconst 0, 1) := by decide +kernel
theorem dL_fewestTurns_2 : decode cL_fewestTurns 2 = .ok (.aload_n 0, 1) := by decide +kernel
theorem dL_fewestTurns_3 : decode cL_fewestTurns 3 = .ok (.invokevirtual 65, 3) := by decide +kernel
theorem dL_fewestTurns_6 : decode cL_fewestTurns 6 = .ok (.i2l, 1) := by decide +kernel
theorem dL_fewestTurns_7 : decode cL_fewestTurns 7 = .ok (.lastore, 1) := by decide +kernel
theorem dL_fewestTurns_8 : decode cL_fewestTurns 8 = .ok (.goto 6, 3) := by decide +kernel
theorem dL_fewestTurns_11 : decode cL_fewestTurns 11 = .ok (.astore_n 2, 1) := by decide +kernel
theorem dL_fewestTurns_12 : decode cL_fewestTurns 12 = .ok (.iconst 1, 1) := by decide +kernel
theorem dL_fewestTurns_13 : decode cL_fewestTurns 13 = .ok (.ireturn, 1) := by decide +kernel
theorem dL_fewestTurns_14 : decode cL_fewestTurns 14 = .ok (.iconst 0, 1) := by decide +kernel
theorem dL_fewestTurns_15 : decode cL_fewestTurns 15 = .ok (.ireturn, 1) := by decide +kernel
theorem dL_fewestTurnsBySets_0 : decode cL_fewestTurnsBySets 0 = .ok (.aload_n 1, 1) := by decide +kernel
theorem dL_fewestTurnsBySets_1 : decode cL_fewestTurnsBySets 1 = .ok (.iconst 0, 1) := by decide +kernel
theorem dL_fewestTurnsBySets_2 : decode cL_fewestTurnsBySets 2 = .ok (.aload_n 0, 1) := by decide +kernel
theorem dL_fewestTurnsBySets_3 : decode cL_fewestTurnsBySets 3 = .ok (.invokevirtual 68, 3) := by decide +kernel
theorem dL_fewestTurnsBySets_6 : decode cL_fewestTurnsBySets 6 = .ok (.i2l, 1) := by decide +kernel
theorem dL_fewestTurnsBySets_7 : decode cL_fewestTurnsBySets 7 = .ok (.lastore, 1) := by decide +kernel
theorem dL_fewestTurnsBySets_8 : decode cL_fewestTurnsBySets 8 = .ok (.goto 6, 3) := by decide +kernel
theorem dL_fewestTurnsBySets_11 : decode cL_fewestTurnsBySets 11 = .ok (.astore_n 2, 1) := by decide +kernel
theorem dL_fewestTurnsBySets_12 : decode cL_fewestTurnsBySets 12 = .ok (.iconst 1, 1) := by decide +kernel
theorem dL_fewestTurnsBySets_13 : decode cL_fewestTurnsBySets 13 = .ok (.ireturn, 1) := by decide +kernel
theorem dL_fewestTurnsBySets_14 : decode cL_fewestTurnsBySets 14 = .ok (.iconst 0, 1) := by decide +kernel
theorem dL_fewestTurnsBySets_15 : decode cL_fewestTurnsBySets 15 = .ok (.ireturn, 1) := by decide +kernel
theorem dL_force_0 : decode cL_force 0 = .ok (.aload_n 2, 1) := by decide +kernel
theorem dL_force_1 : decode cL_force 1 = .ok (.iconst 0, 1) := by decide +kernel
theorem dL_force_2 : decode cL_force 2 = .ok (.aload_n 0, 1) := by decide +kernel
theorem dL_force_3 : decode cL_force 3 = .ok (.iload_n 1, 1) := by decide +kernel
theorem dL_force_4 : decode cL_force 4 = .ok (.invokevirtual 71, 3) := by decide +kernel
theorem dL_force_7 : decode cL_force 7 = .ok (.f2d, 1) := by decide +kernel
theorem dL_force_8 : decode cL_force 8 = .ok (.dastore, 1) := by decide +kernel
theorem dL_force_9 : decode cL_force 9 = .ok (.goto 6, 3) := by decide +kernel
theorem dL_force_12 : decode cL_force 12 = .ok (.astore_n 3, 1) := by decide +kernel
theorem dL_force_13 : decode cL_force 13 = .ok (.iconst 1, 1) := by decide +kernel
theorem dL_force_14 : decode cL_force 14 = .ok (.ireturn, 1) := by decide +kernel
theorem dL_force_15 : decode cL_force 15 = .ok (.iconst 0, 1) := by decide +kernel
theorem dL_force_16 : decode cL_force 16 = .ok (.ireturn, 1) := by decide +kernel
theorem dL_wholeForce_0 : decode cL_wholeForce 0 = .ok (.aload_n 2, 1) := by decide +kernel
theorem dL_wholeForce_1 : decode cL_wholeForce 1 = .ok (.iconst 0, 1) := by decide +kernel
theorem dL_wholeForce_2 : decode cL_wholeForce 2 = .ok (.aload_n 0, 1) := by decide +kernel
theorem dL_wholeForce_3 : decode cL_wholeForce 3 = .ok (.iload_n 1, 1) := by decide +kernel
theorem dL_wholeForce_4 : decode cL_wholeForce 4 = .ok (.invokevirtual 75, 3) := by decide +kernel
theorem dL_wholeForce_7 : decode cL_wholeForce 7 = .ok (.i2l, 1) := by decide +kernel
theorem dL_wholeForce_8 : decode cL_wholeForce 8 = .ok (.lastore, 1) := by decide +kernel
theorem dL_wholeForce_9 : decode cL_wholeForce 9 = .ok (.goto 6, 3) := by decide +kernel
theorem dL_wholeForce_12 : decode cL_wholeForce 12 = .ok (.astore_n 3, 1) := by decide +kernel
theorem dL_wholeForce_13 : decode cL_wholeForce 13 = .ok (.iconst 1, 1) := by decide +kernel
theorem dL_wholeForce_14 : decode cL_wholeForce 14 = .ok (.ireturn, 1) := by decide +kernel
theorem dL_wholeForce_15 : decode cL_wholeForce 15 = .ok (.iconst 0, 1) := by decide +kernel
theorem dL_wholeForce_16 : decode cL_wholeForce 16 = .ok (.ireturn, 1) := by decide +kernel
theorem dL_field_0 : decode cL_field 0 = .ok (.aload_n 2, 1) := by decide +kernel
theorem dL_field_1 : decode cL_field 1 = .ok (.iconst 0, 1) := by decide +kernel
theorem dL_field_2 : decode cL_field 2 = .ok (.aload_n 0, 1) := by decide +kernel
theorem dL_field_3 : decode cL_field 3 = .ok (.iload_n 1, 1) := by decide +kernel
theorem dL_field_4 : decode cL_field 4 = .ok (.invokevirtual 78, 3) := by decide +kernel
theorem dL_field_7 : decode cL_field 7 = .ok (.dastore, 1) := by decide +kernel
theorem dL_field_8 : decode cL_field 8 = .ok (.goto 6, 3) := by decide +kernel
theorem dL_field_11 : decode cL_field 11 = .ok (.astore_n 3, 1) := by decide +kernel
theorem dL_field_12 : decode cL_field 12 = .ok (.iconst 1, 1) := by decide +kernel
theorem dL_field_13 : decode cL_field 13 = .ok (.ireturn, 1) := by decide +kernel
theorem dL_field_14 : decode cL_field 14 = .ok (.iconst 0, 1) := by decide +kernel
theorem dL_field_15 : decode cL_field 15 = .ok (.ireturn, 1) := by decide +kernel
theorem dL_strongestPosition_0 : decode cL_strongestPosition 0 = .ok (.aload_n 1, 1) := by decide +kernel
theorem dL_strongestPosition_1 : decode cL_strongestPosition 1 = .ok (.iconst 0, 1) := by decide +kernel
theorem dL_strongestPosition_2 : decode cL_strongestPosition 2 = .ok (.aload_n 0, 1) := by decide +kernel
theorem dL_strongestPosition_3 : decode cL_strongestPosition 3 = .ok (.invokevirtual 82, 3) := by decide +kernel
theorem dL_strongestPosition_6 : decode cL_strongestPosition 6 = .ok (.i2l, 1) := by decide +kernel
theorem dL_strongestPosition_7 : decode cL_strongestPosition 7 = .ok (.lastore, 1) := by decide +kernel
theorem dL_strongestPosition_8 : decode cL_strongestPosition 8 = .ok (.goto 6, 3) := by decide +kernel
theorem dL_strongestPosition_11 : decode cL_strongestPosition 11 = .ok (.astore_n 2, 1) := by decide +kernel
theorem dL_strongestPosition_12 : decode cL_strongestPosition 12 = .ok (.iconst 1, 1) := by decide +kernel
theorem dL_strongestPosition_13 : decode cL_strongestPosition 13 = .ok (.ireturn, 1) := by decide +kernel
theorem dL_strongestPosition_14 : decode cL_strongestPosition 14 = .ok (.iconst 0, 1) := by decide +kernel
theorem dL_strongestPosition_15 : decode cL_strongestPosition 15 = .ok (.ireturn, 1) := by decide +kernel
theorem dL_queen_0 : decode cL_queen 0 = .ok (.aload_n 1, 1) := by decide +kernel
theorem dL_queen_1 : decode cL_queen 1 = .ok (.iconst 0, 1) := by decide +kernel
theorem dL_queen_2 : decode cL_queen 2 = .ok (.aload_n 0, 1) := by decide +kernel
theorem dL_queen_3 : decode cL_queen 3 = .ok (.invokevirtual 85, 3) := by decide +kernel
theorem dL_queen_6 : decode cL_queen 6 = .ok (.i2l, 1) := by decide +kernel
theorem dL_queen_7 : decode cL_queen 7 = .ok (.lastore, 1) := by decide +kernel
theorem dL_queen_8 : decode cL_queen 8 = .ok (.goto 6, 3) := by decide +kernel
theorem dL_queen_11 : decode cL_queen 11 = .ok (.astore_n 2, 1) := by decide +kernel
theorem dL_queen_12 : decode cL_queen 12 = .ok (.iconst 1, 1) := by decide +kernel
theorem dL_queen_13 : decode cL_queen 13 = .ok (.ireturn, 1) := by decide +kernel
theorem dL_queen_14 : decode cL_queen 14 = .ok (.iconst 0, 1) := by decide +kernel
theorem dL_queen_15 : decode cL_queen 15 = .ok (.ireturn, 1) := by decide +kernel
theorem dL_meanStrength_0 : decode cL_meanStrength 0 = .ok (.aload_n 1, 1) := by decide +kernel
theorem dL_meanStrength_1 : decode cL_meanStrength 1 = .ok (.iconst 0, 1) := by decide +kernel
theorem dL_meanStrength_2 : decode cL_meanStrength 2 = .ok (.aload_n 0, 1) := by decide +kernel
theorem dL_meanStrength_3 : decode cL_meanStrength 3 = .ok (.invokevirtual 88, 3) := by decide +kernel
theorem dL_meanStrength_6 : decode cL_meanStrength 6 = .ok (.dastore, 1) := by decide +kernel
theorem dL_meanStrength_7 : decode cL_meanStrength 7 = .ok (.goto 6, 3) := by decide +kernel
theorem dL_meanStrength_10 : decode cL_meanStrength 10 = .ok (.astore_n 2, 1) := by decide +kernel
theorem dL_meanStrength_11 : decode cL_meanStrength 11 = .ok (.iconst 1, 1) := by decide +kernel
theorem dL_meanStrength_12 : decode cL_meanStrength 12 = .ok (.ireturn, 1) := by decide +kernel
theorem dL_meanStrength_13 : decode cL_meanStrength 13 = .ok (.iconst 0, 1) := by decide +kernel
theorem dL_meanStrength_14 : decode cL_meanStrength 14 = .ok (.ireturn, 1) := by decide +kernel
theorem dL_openShare_0 : decode cL_openShare 0 = .ok (.aload_n 1, 1) := by decide +kernel
theorem dL_openShare_1 : decode cL_openShare 1 = .ok (.iconst 0, 1) := by decide +kernel
theorem dL_openShare_2 : decode cL_openShare 2 = .ok (.aload_n 0, 1) := by decide +kernel
theorem dL_openShare_3 : decode cL_openShare 3 = .ok (.invokevirtual 94, 3) := by decide +kernel
theorem dL_openShare_6 : decode cL_openShare 6 = .ok (.f2d, 1) := by decide +kernel
theorem dL_openShare_7 : decode cL_openShare 7 = .ok (.dastore, 1) := by decide +kernel
theorem dL_openShare_8 : decode cL_openShare 8 = .ok (.goto 6, 3) := by decide +kernel
theorem dL_openShare_11 : decode cL_openShare 11 = .ok (.astore_n 2, 1) := by decide +kernel
theorem dL_openShare_12 : decode cL_openShare 12 = .ok (.iconst 1, 1) := by decide +kernel
theorem dL_openShare_13 : decode cL_openShare 13 = .ok (.ireturn, 1) := by decide +kernel
theorem dL_openShare_14 : decode cL_openShare 14 = .ok (.iconst 0, 1) := by decide +kernel
theorem dL_openShare_15 : decode cL_openShare 15 = .ok (.ireturn, 1) := by decide +kernel
theorem dL_turnsOf_0 : decode cL_turnsOf 0 = .ok (.aload_n 2, 1) := by decide +kernel
theorem dL_turnsOf_1 : decode cL_turnsOf 1 = .ok (.iconst 0, 1) := by decide +kernel
theorem dL_turnsOf_2 : decode cL_turnsOf 2 = .ok (.aload_n 0, 1) := by decide +kernel
theorem dL_turnsOf_3 : decode cL_turnsOf 3 = .ok (.iload_n 1, 1) := by decide +kernel
theorem dL_turnsOf_4 : decode cL_turnsOf 4 = .ok (.invokevirtual 98, 3) := by decide +kernel
theorem dL_turnsOf_7 : decode cL_turnsOf 7 = .ok (.i2l, 1) := by decide +kernel
theorem dL_turnsOf_8 : decode cL_turnsOf 8 = .ok (.lastore, 1) := by decide +kernel
theorem dL_turnsOf_9 : decode cL_turnsOf 9 = .ok (.goto 6, 3) := by decide +kernel
theorem dL_turnsOf_12 : decode cL_turnsOf 12 = .ok (.astore_n 3, 1) := by decide +kernel
theorem dL_turnsOf_13 : decode cL_turnsOf 13 = .ok (.iconst 1, 1) := by decide +kernel
theorem dL_turnsOf_14 : decode cL_turnsOf 14 = .ok (.ireturn, 1) := by decide +kernel
theorem dL_turnsOf_15 : decode cL_turnsOf 15 = .ok (.iconst 0, 1) := by decide +kernel
theorem dL_turnsOf_16 : decode cL_turnsOf 16 = .ok (.ireturn, 1) := by decide +kernel
theorem dL_feed_0 : decode cL_feed 0 = .ok (.aload_n 2, 1) := by decide +kernel
theorem dL_feed_1 : decode cL_feed 1 = .ok (.iconst 0, 1) := by decide +kernel
theorem dL_feed_2 : decode cL_feed 2 = .ok (.aload_n 0, 1) := by decide +kernel
theorem dL_feed_3 : decode cL_feed 3 = .ok (.iload_n 1, 1) := by decide +kernel
theorem dL_feed_4 : decode cL_feed 4 = .ok (.invokevirtual 101, 3) := by decide +kernel
theorem dL_feed_7 : decode cL_feed 7 = .ok (.i2l, 1) := by decide +kernel
theorem dL_feed_8 : decode cL_feed 8 = .ok (.lastore, 1) := by decide +kernel
theorem dL_feed_9 : decode cL_feed 9 = .ok (.goto 6, 3) := by decide +kernel
theorem dL_feed_12 : decode cL_feed 12 = .ok (.astore_n 3, 1) := by decide +kernel
theorem dL_feed_13 : decode cL_feed 13 = .ok (.iconst 1, 1) := by decide +kernel
theorem dL_feed_14 : decode cL_feed 14 = .ok (.ireturn, 1) := by decide +kernel
theorem dL_feed_15 : decode cL_feed 15 = .ok (.iconst 0, 1) := by decide +kernel
theorem dL_feed_16 : decode cL_feed 16 = .ok (.ireturn, 1) := by decide +kernel
theorem dL_execute_0 : decode cL_execute 0 = .ok (.aload_n 1, 1) := by decide +kernel
theorem dL_execute_1 : decode cL_execute 1 = .ok (.iconst 0, 1) := by decide +kernel
theorem dL_execute_2 : decode cL_execute 2 = .ok (.aload_n 0, 1) := by decide +kernel
theorem dL_execute_3 : decode cL_execute 3 = .ok (.invokevirtual 107, 3) := by decide +kernel
theorem dL_execute_6 : decode cL_execute 6 = .ok (.i2l, 1) := by decide +kernel
theorem dL_execute_7 : decode cL_execute 7 = .ok (.lastore, 1) := by decide +kernel
theorem dL_execute_8 : decode cL_execute 8 = .ok (.goto 9, 3) := by decide +kernel
theorem dL_execute_11 : decode cL_execute 11 = .ok (.astore_n 2, 1) := by decide +kernel
theorem dL_execute_12 : decode cL_execute 12 = .ok (.iconst 1, 1) := by decide +kernel
theorem dL_execute_13 : decode cL_execute 13 = .ok (.ireturn, 1) := by decide +kernel
theorem dL_execute_14 : decode cL_execute 14 = .ok (.astore_n 2, 1) := by decide +kernel
theorem dL_execute_15 : decode cL_execute 15 = .ok (.iconst 2, 1) := by decide +kernel
theorem dL_execute_16 : decode cL_execute 16 = .ok (.ireturn, 1) := by decide +kernel
theorem dL_execute_17 : decode cL_execute 17 = .ok (.iconst 0, 1) := by decide +kernel
theorem dL_execute_18 : decode cL_execute 18 = .ok (.ireturn, 1) := by decide +kernel
theorem dL_faultPosition_0 : decode cL_faultPosition 0 = .ok (.aload_n 1, 1) := by decide +kernel
theorem dL_faultPosition_1 : decode cL_faultPosition 1 = .ok (.iconst 0, 1) := by decide +kernel
theorem dL_faultPosition_2 : decode cL_faultPosition 2 = .ok (.aload_n 0, 1) := by decide +kernel
theorem dL_faultPosition_3 : decode cL_faultPosition 3 = .ok (.invokevirtual 110, 3) := by decide +kernel
theorem dL_faultPosition_6 : decode cL_faultPosition 6 = .ok (.i2l, 1) := by decide +kernel
theorem dL_faultPosition_7 : decode cL_faultPosition 7 = .ok (.lastore, 1) := by decide +kernel
theorem dL_faultPosition_8 : decode cL_faultPosition 8 = .ok (.goto 6, 3) := by decide +kernel
theorem dL_faultPosition_11 : decode cL_faultPosition 11 = .ok (.astore_n 2, 1) := by decide +kernel
theorem dL_faultPosition_12 : decode cL_faultPosition 12 = .ok (.iconst 1, 1) := by decide +kernel
theorem dL_faultPosition_13 : decode cL_faultPosition 13 = .ok (.ireturn, 1) := by decide +kernel
theorem dL_faultPosition_14 : decode cL_faultPosition 14 = .ok (.iconst 0, 1) := by decide +kernel
theorem dL_faultPosition_15 : decode cL_faultPosition 15 = .ok (.ireturn, 1) := by decide +kernel
theorem dL_writeMagnet_0 : decode cL_writeMagnet 0 = .ok (.aload_n 2, 1) := by decide +kernel
theorem dL_writeMagnet_1 : decode cL_writeMagnet 1 = .ok (.iconst 0, 1) := by decide +kernel
theorem dL_writeMagnet_2 : decode cL_writeMagnet 2 = .ok (.aload_n 0, 1) := by decide +kernel
theorem dL_writeMagnet_3 : decode cL_writeMagnet 3 = .ok (.iload_n 1, 1) := by decide +kernel
theorem dL_writeMagnet_4 : decode cL_writeMagnet 4 = .ok (.invokevirtual 113, 3) := by decide +kernel
theorem dL_writeMagnet_7 : decode cL_writeMagnet 7 = .ok (.i2l, 1) := by decide +kernel
theorem dL_writeMagnet_8 : decode cL_writeMagnet 8 = .ok (.lastore, 1) := by decide +kernel
theorem dL_writeMagnet_9 : decode cL_writeMagnet 9 = .ok (.goto 6, 3) := by decide +kernel
theorem dL_writeMagnet_12 : decode cL_writeMagnet 12 = .ok (.astore_n 3, 1) := by decide +kernel
theorem dL_writeMagnet_13 : decode cL_writeMagnet 13 = .ok (.iconst 1, 1) := by decide +kernel
theorem dL_writeMagnet_14 : decode cL_writeMagnet 14 = .ok (.ireturn, 1) := by decide +kernel
theorem dL_writeMagnet_15 : decode cL_writeMagnet 15 = .ok (.iconst 0, 1) := by decide +kernel
theorem dL_writeMagnet_16 : decode cL_writeMagnet 16 = .ok (.ireturn, 1) := by decide +kernel
theorem dL_lineCharacter_0 : decode cL_lineCharacter 0 = .ok (.aload_n 2, 1) := by decide +kernel
theorem dL_lineCharacter_1 : decode cL_lineCharacter 1 = .ok (.iconst 0, 1) := by decide +kernel
theorem dL_lineCharacter_2 : decode cL_lineCharacter 2 = .ok (.aload_n 0, 1) := by decide +kernel
theorem dL_lineCharacter_3 : decode cL_lineCharacter 3 = .ok (.iload_n 1, 1) := by decide +kernel
theorem dL_lineCharacter_4 : decode cL_lineCharacter 4 = .ok (.invokevirtual 116, 3) := by decide +kernel
theorem dL_lineCharacter_7 : decode cL_lineCharacter 7 = .ok (.i2l, 1) := by decide +kernel
theorem dL_lineCharacter_8 : decode cL_lineCharacter 8 = .ok (.lastore, 1) := by decide +kernel
theorem dL_lineCharacter_9 : decode cL_lineCharacter 9 = .ok (.goto 6, 3) := by decide +kernel
theorem dL_lineCharacter_12 : decode cL_lineCharacter 12 = .ok (.astore_n 3, 1) := by decide +kernel
theorem dL_lineCharacter_13 : decode cL_lineCharacter 13 = .ok (.iconst 1, 1) := by decide +kernel
theorem dL_lineCharacter_14 : decode cL_lineCharacter 14 = .ok (.ireturn, 1) := by decide +kernel
theorem dL_lineCharacter_15 : decode cL_lineCharacter 15 = .ok (.iconst 0, 1) := by decide +kernel
theorem dL_lineCharacter_16 : decode cL_lineCharacter 16 = .ok (.ireturn, 1) := by decide +kernel
theorem dL_denial_0 : decode cL_denial 0 = .ok (.aload_n 1, 1) := by decide +kernel
theorem dL_denial_1 : decode cL_denial 1 = .ok (.iconst 0, 1) := by decide +kernel
theorem dL_denial_2 : decode cL_denial 2 = .ok (.aload_n 0, 1) := by decide +kernel
theorem dL_denial_3 : decode cL_denial 3 = .ok (.invokevirtual 119, 3) := by decide +kernel
theorem dL_denial_6 : decode cL_denial 6 = .ok (.i2l, 1) := by decide +kernel
theorem dL_denial_7 : decode cL_denial 7 = .ok (.lastore, 1) := by decide +kernel
theorem dL_denial_8 : decode cL_denial 8 = .ok (.goto 6, 3) := by decide +kernel
theorem dL_denial_11 : decode cL_denial 11 = .ok (.astore_n 2, 1) := by decide +kernel
theorem dL_denial_12 : decode cL_denial 12 = .ok (.iconst 1, 1) := by decide +kernel
theorem dL_denial_13 : decode cL_denial 13 = .ok (.ireturn, 1) := by decide +kernel
theorem dL_denial_14 : decode cL_denial 14 = .ok (.iconst 0, 1) := by decide +kernel
theorem dL_denial_15 : decode cL_denial 15 = .ok (.ireturn, 1) := by decide +kernel
theorem dL_denialDetail_0 : decode cL_denialDetail 0 = .ok (.aload_n 1, 1) := by decide +kernel
theorem dL_denialDetail_1 : decode cL_denialDetail 1 = .ok (.iconst 0, 1) := by decide +kernel
theorem dL_denialDetail_2 : decode cL_denialDetail 2 = .ok (.aload_n 0, 1) := by decide +kernel
theorem dL_denialDetail_3 : decode cL_denialDetail 3 = .ok (.invokevirtual 122, 3) := by decide +kernel
theorem dL_denialDetail_6 : decode cL_denialDetail 6 = .ok (.i2l, 1) := by decide +kernel
theorem dL_denialDetail_7 : decode cL_denialDetail 7 = .ok (.lastore, 1) := by decide +kernel
theorem dL_denialDetail_8 : decode cL_denialDetail 8 = .ok (.goto 6, 3) := by decide +kernel
theorem dL_denialDetail_11 : decode cL_denialDetail 11 = .ok (.astore_n 2, 1) := by decide +kernel
theorem dL_denialDetail_12 : decode cL_denialDetail 12 = .ok (.iconst 1, 1) := by decide +kernel
theorem dL_denialDetail_13 : decode cL_denialDetail 13 = .ok (.ireturn, 1) := by decide +kernel
theorem dL_denialDetail_14 : decode cL_denialDetail 14 = .ok (.iconst 0, 1) := by decide +kernel
theorem dL_denialDetail_15 : decode cL_denialDetail 15 = .ok (.ireturn, 1) := by decide +kernel
theorem dL_denialCause_0 : decode cL_denialCause 0 = .ok (.aload_n 1, 1) := by decide +kernel
theorem dL_denialCause_1 : decode cL_denialCause 1 = .ok (.iconst 0, 1) := by decide +kernel
theorem dL_denialCause_2 : decode cL_denialCause 2 = .ok (.aload_n 0, 1) := by decide +kernel
theorem dL_denialCause_3 : decode cL_denialCause 3 = .ok (.invokevirtual 125, 3) := by decide +kernel
theorem dL_denialCause_6 : decode cL_denialCause 6 = .ok (.i2l, 1) := by decide +kernel
theorem dL_denialCause_7 : decode cL_denialCause 7 = .ok (.lastore, 1) := by decide +kernel
theorem dL_denialCause_8 : decode cL_denialCause 8 = .ok (.goto 6, 3) := by decide +kernel
theorem dL_denialCause_11 : decode cL_denialCause 11 = .ok (.astore_n 2, 1) := by decide +kernel
theorem dL_denialCause_12 : decode cL_denialCause 12 = .ok (.iconst 1, 1) := by decide +kernel
theorem dL_denialCause_13 : decode cL_denialCause 13 = .ok (.ireturn, 1) := by decide +kernel
theorem dL_denialCause_14 : decode cL_denialCause 14 = .ok (.iconst 0, 1) := by decide +kernel
theorem dL_denialCause_15 : decode cL_denialCause 15 = .ok (.ireturn, 1) := by decide +kernel
theorem dL_undo_0 : decode cL_undo 0 = .ok (.aload_n 1, 1) := by decide +kernel
theorem dL_undo_1 : decode cL_undo 1 = .ok (.iconst 0, 1) := by decide +kernel
theorem dL_undo_2 : decode cL_undo 2 = .ok (.aload_n 0, 1) := by decide +kernel
theorem dL_undo_3 : decode cL_undo 3 = .ok (.invokevirtual 128, 3) := by decide +kernel
theorem dL_undo_6 : decode cL_undo 6 = .ok (.i2l, 1) := by decide +kernel
theorem dL_undo_7 : decode cL_undo 7 = .ok (.lastore, 1) := by decide +kernel
theorem dL_undo_8 : decode cL_undo 8 = .ok (.goto 6, 3) := by decide +kernel
theorem dL_undo_11 : decode cL_undo 11 = .ok (.astore_n 2, 1) := by decide +kernel
theorem dL_undo_12 : decode cL_undo 12 = .ok (.iconst 1, 1) := by decide +kernel
theorem dL_undo_13 : decode cL_undo 13 = .ok (.ireturn, 1) := by decide +kernel
theorem dL_undo_14 : decode cL_undo 14 = .ok (.iconst 0, 1) := by decide +kernel
theorem dL_undo_15 : decode cL_undo 15 = .ok (.ireturn, 1) := by decide +kernel
theorem dL_restoreSnapshot_0 : decode cL_restoreSnapshot 0 = .ok (.aload_n 1, 1) := by decide +kernel
theorem dL_restoreSnapshot_1 : decode cL_restoreSnapshot 1 = .ok (.iconst 0, 1) := by decide +kernel
theorem dL_restoreSnapshot_2 : decode cL_restoreSnapshot 2 = .ok (.aload_n 0, 1) := by decide +kernel
theorem dL_restoreSnapshot_3 : decode cL_restoreSnapshot 3 = .ok (.invokevirtual 131, 3) := by decide +kernel
theorem dL_restoreSnapshot_6 : decode cL_restoreSnapshot 6 = .ok (.i2l, 1) := by decide +kernel
theorem dL_restoreSnapshot_7 : decode cL_restoreSnapshot 7 = .ok (.lastore, 1) := by decide +kernel
theorem dL_restoreSnapshot_8 : decode cL_restoreSnapshot 8 = .ok (.goto 6, 3) := by decide +kernel
theorem dL_restoreSnapshot_11 : decode cL_restoreSnapshot 11 = .ok (.astore_n 2, 1) := by decide +kernel
theorem dL_restoreSnapshot_12 : decode cL_restoreSnapshot 12 = .ok (.iconst 1, 1) := by decide +kernel
theorem dL_restoreSnapshot_13 : decode cL_restoreSnapshot 13 = .ok (.ireturn, 1) := by decide +kernel
theorem dL_restoreSnapshot_14 : decode cL_restoreSnapshot 14 = .ok (.iconst 0, 1) := by decide +kernel
theorem dL_restoreSnapshot_15 : decode cL_restoreSnapshot 15 = .ok (.ireturn, 1) := by decide +kernel
theorem dL_law_0 : decode cL_law 0 = .ok (.new 8, 3) := by decide +kernel
theorem dL_law_3 : decode cL_law 3 = .ok (.dup, 1) := by decide +kernel
theorem dL_law_4 : decode cL_law 4 = .ok (.invokespecial 134, 3) := by decide +kernel
theorem dL_law_7 : decode cL_law 7 = .ok (.astore_n 1, 1) := by decide +kernel
theorem dL_law_8 : decode cL_law 8 = .ok (.new 135, 3) := by decide +kernel
theorem dL_law_11 : decode cL_law 11 = .ok (.dup, 1) := by decide +kernel
theorem dL_law_12 : decode cL_law 12 = .ok (.invokespecial 137, 3) := by decide +kernel
theorem dL_law_15 : decode cL_law 15 = .ok (.astore_n 2, 1) := by decide +kernel
theorem dL_law_16 : decode cL_law 16 = .ok (.iconst 1, 1) := by decide +kernel
theorem dL_law_17 : decode cL_law 17 = .ok (.newarray .long, 2) := by decide +kernel
theorem dL_law_19 : decode cL_law 19 = .ok (.astore_n 3, 1) := by decide +kernel
theorem dL_law_20 : decode cL_law 20 = .ok (.iconst 1, 1) := by decide +kernel
theorem dL_law_21 : decode cL_law 21 = .ok (.newarray .double, 2) := by decide +kernel
theorem dL_law_23 : decode cL_law 23 = .ok (.astore 4, 2) := by decide +kernel
theorem dL_law_25 : decode cL_law 25 = .ok (.iconst 0, 1) := by decide +kernel
theorem dL_law_26 : decode cL_law 26 = .ok (.istore 5, 2) := by decide +kernel
theorem dL_law_28 : decode cL_law 28 = .ok (.iload 5, 2) := by decide +kernel
theorem dL_law_30 : decode cL_law 30 = .ok (.aload_n 0, 1) := by decide +kernel
theorem dL_law_31 : decode cL_law 31 = .ok (.arraylength, 1) := by decide +kernel
theorem dL_law_32 : decode cL_law 32 = .ok (.iconst 4, 1) := by decide +kernel
theorem dL_law_33 : decode cL_law 33 = .ok (.isub, 1) := by decide +kernel
theorem dL_law_34 : decode cL_law 34 = .ok (.if_icmp .gt 2330, 3) := by decide +kernel
theorem dL_law_37 : decode cL_law 37 = .ok (.aload_n 0, 1) := by decide +kernel
theorem dL_law_38 : decode cL_law 38 = .ok (.iload 5, 2) := by decide +kernel
theorem dL_law_40 : decode cL_law 40 = .ok (.iaload, 1) := by decide +kernel
theorem dL_law_41 : decode cL_law 41 = .ok (.bipush 63, 2) := by decide +kernel
theorem dL_law_43 : decode cL_law 43 = .ok (.iand, 1) := by decide +kernel
theorem dL_law_44 : decode cL_law 44 = .ok (.tableswitch 2314 0 48 #[212, 308, 376, 432, 488, 501, 514, 570, 626, 682, 738, 794, 862, 918, 962, 975, 1038, 1051, 1064, 1132, 1145, 1158, 1171, 1184, 1228, 1272, 1285, 1298, 1376, 1432, 1509, 1553, 1597, 1662, 1728, 1741, 1797, 1810, 1868, 1912, 1956, 2012, 2068, 2112, 2156, 2200, 2244, 2257, 2270], 212) := by decide +kernel
theorem dL_law_256 : decode cL_law 256 = .ok (.aload_n 1, 1) := by decide +kernel
theorem dL_law_257 : decode cL_law 257 = .ok (.aload_n 0, 1) := by decide +kernel
theorem dL_law_258 : decode cL_law 258 = .ok (.iload 5, 2) := by decide +kernel
theorem dL_law_260 : decode cL_law 260 = .ok (.iconst 1, 1) := by decide +kernel
theorem dL_law_261 : decode cL_law 261 = .ok (.iadd, 1) := by decide +kernel
theorem dL_law_262 : decode cL_law 262 = .ok (.iaload, 1) := by decide +kernel
theorem dL_law_263 : decode cL_law 263 = .ok (.aload_n 0, 1) := by decide +kernel
theorem dL_law_264 : decode cL_law 264 = .ok (.iload 5, 2) := by decide +kernel
theorem dL_law_266 : decode cL_law 266 = .ok (.iconst 2, 1) := by decide +kernel
theorem dL_law_267 : decode cL_law 267 = .ok (.iadd, 1) := by decide +kernel
theorem dL_law_268 : decode cL_law 268 = .ok (.iaload, 1) := by decide +kernel
theorem dL_law_269 : decode cL_law 269 = .ok (.aload_n 0, 1) := by decide +kernel
theorem dL_law_270 : decode cL_law 270 = .ok (.iload 5, 2) := by decide +kernel
theorem dL_law_272 : decode cL_law 272 = .ok (.iconst 3, 1) := by decide +kernel
theorem dL_law_273 : decode cL_law 273 = .ok (.iadd, 1) := by decide +kernel
theorem dL_law_274 : decode cL_law 274 = .ok (.iaload, 1) := by decide +kernel
theorem dL_law_275 : decode cL_law 275 = .ok (.ifCond .eq 7, 3) := by decide +kernel
theorem dL_law_278 : decode cL_law 278 = .ok (.iconst 1, 1) := by decide +kernel
theorem dL_law_279 : decode cL_law 279 = .ok (.goto 4, 3) := by decide +kernel
theorem dL_law_282 : decode cL_law 282 = .ok (.iconst 0, 1) := by decide +kernel
theorem dL_law_283 : decode cL_law 283 = .ok (.aload_n 3, 1) := by decide +kernel
theorem dL_law_284 : decode cL_law 284 = .ok (.invokestatic 138, 3) := by decide +kernel
theorem dL_law_287 : decode cL_law 287 = .ok (.istore 6, 2) := by decide +kernel
theorem dL_law_289 : decode cL_law 289 = .ok (.aload_n 2, 1) := by decide +kernel
theorem dL_law_290 : decode cL_law 290 = .ok (.aload_n 0, 1) := by decide +kernel
theorem dL_law_291 : decode cL_law 291 = .ok (.iload 5, 2) := by decide +kernel
theorem dL_law_293 : decode cL_law 293 = .ok (.iconst 1, 1) := by decide +kernel
theorem dL_law_294 : decode cL_law 294 = .ok (.iadd, 1) := by decide +kernel
theorem dL_law_295 : decode cL_law 295 = .ok (.iaload, 1) := by decide +kernel
theorem dL_law_296 : decode cL_law 296 = .ok (.aload_n 0, 1) := by decide +kernel
theorem dL_law_297 : decode cL_law 297 = .ok (.iload 5, 2) := by decide +kernel
theorem dL_law_299 : decode cL_law 299 = .ok (.iconst 2, 1) := by decide +kernel
theorem dL_law_300 : decode cL_law 300 = .ok (.iadd, 1) := by decide +kernel
theorem dL_law_301 : decode cL_law 301 = .ok (.iaload, 1) := by decide +kernel
theorem dL_law_302 : decode cL_law 302 = .ok (.aload_n 0, 1) := by decide +kernel
theorem dL_law_303 : decode cL_law 303 = .ok (.iload 5, 2) := by decide +kernel
theorem dL_law_305 : decode cL_law 305 = .ok (.iconst 3, 1) := by decide +kernel
theorem dL_law_306 : decode cL_law 306 = .ok (.iadd, 1) := by decide +kernel
theorem dL_law_307 : decode cL_law 307 = .ok (.iaload, 1) := by decide +kernel
theorem dL_law_308 : decode cL_law 308 = .ok (.ifCond .eq 7, 3) := by decide +kernel
theorem dL_law_311 : decode cL_law 311 = .ok (.iconst 1, 1) := by decide +kernel
theorem dL_law_312 : decode cL_law 312 = .ok (.goto 4, 3) := by decide +kernel
theorem dL_law_315 : decode cL_law 315 = .ok (.iconst 0, 1) := by decide +kernel
theorem dL_law_316 : decode cL_law 316 = .ok (.invokevirtual 143, 3) := by decide +kernel
theorem dL_law_319 : decode cL_law 319 = .ok (.istore 7, 2) := by decide +kernel
theorem dL_law_321 : decode cL_law 321 = .ok (.aload_n 2, 1) := by decide +kernel
theorem dL_law_322 : decode cL_law 322 = .ok (.invokevirtual 144, 3) := by decide +kernel
theorem dL_law_325 : decode cL_law 325 = .ok (.iload 6, 2) := by decide +kernel
theorem dL_law_327 : decode cL_law 327 = .ok (.if_icmp .eq 5, 3) := by decide +kernel
theorem dL_law_330 : decode cL_law 330 = .ok (.iconst 0, 1) := by decide +kernel
theorem dL_law_331 : decode cL_law 331 = .ok (.ireturn, 1) := by decide +kernel
theorem dL_law_332 : decode cL_law 332 = .ok (.iload 6, 2) := by decide +kernel
theorem dL_law_334 : decode cL_law 334 = .ok (.ifCond .ne 15, 3) := by decide +kernel
theorem dL_law_337 : decode cL_law 337 = .ok (.aload_n 3, 1) := by decide +kernel
theorem dL_law_338 : decode cL_law 338 = .ok (.iconst 0, 1) := by decide +kernel
theorem dL_law_339 : decode cL_law 339 = .ok (.laload, 1) := by decide +kernel
theorem dL_law_340 : decode cL_law 340 = .ok (.iload 7, 2) := by decide +kernel
theorem dL_law_342 : decode cL_law 342 = .ok (.i2l, 1) := by decide +kernel
theorem dL_law_343 : decode cL_law 343 = .ok (.lcmp, 1) := by decide +kernel
theorem dL_law_344 : decode cL_law 344 = .ok (.ifCond .eq 5, 3) := by decide +kernel
theorem dL_law_347 : decode cL_law 347 = .ok (.iconst 0, 1) := by decide +kernel
theorem dL_law_348 : decode cL_law 348 = .ok (.ireturn, 1) := by decide +kernel
theorem dL_law_349 : decode cL_law 349 = .ok (.goto 2009, 3) := by decide +kernel
theorem dL_law_352 : decode cL_law 352 = .ok (.aload_n 1, 1) := by decide +kernel
theorem dL_law_353 : decode cL_law 353 = .ok (.aload_n 0, 1) := by decide +kernel
theorem dL_law_354 : decode cL_law 354 = .ok (.iload 5, 2) := by decide +kernel
theorem dL_law_356 : decode cL_law 356 = .ok (.iconst 1, 1) := by decide +kernel
theorem dL_law_357 : decode cL_law 357 = .ok (.iadd, 1) := by decide +kernel
theorem dL_law_358 : decode cL_law 358 = .ok (.iaload, 1) := by decide +kernel
theorem dL_law_359 : decode cL_law 359 = .ok (.aload_n 0, 1) := by decide +kernel
theorem dL_law_360 : decode cL_law 360 = .ok (.iload 5, 2) := by decide +kernel
theorem dL_law_362 : decode cL_law 362 = .ok (.iconst 2, 1) := by decide +kernel
theorem dL_law_363 : decode cL_law 363 = .ok (.iadd, 1) := by decide +kernel
theorem dL_law_364 : decode cL_law 364 = .ok (.iaload, 1) := by decide +kernel
theorem dL_law_365 : decode cL_law 365 = .ok (.aload_n 3, 1) := by decide +kernel
theorem dL_law_366 : decode cL_law 366 = .ok (.invokestatic 147, 3) := by decide +kernel
theorem dL_law_369 : decode cL_law 369 = .ok (.istore 6, 2) := by decide +kernel
theorem dL_law_371 : decode cL_law 371 = .ok (.aload_n 2, 1) := by decide +kernel
theorem dL_law_372 : decode cL_law 372 = .ok (.aload_n 0, 1) := by decide +kernel
theorem dL_law_373 : decode cL_law 373 = .ok (.iload 5, 2) := by decide +kernel
theorem dL_law_375 : decode cL_law 375 = .ok (.iconst 1, 1) := by decide +kernel
theorem dL_law_376 : decode cL_law 376 = .ok (.iadd, 1) := by decide +kernel
theorem dL_law_377 : decode cL_law 377 = .ok (.iaload, 1) := by decide +kernel
theorem dL_law_378 : decode cL_law 378 = .ok (.aload_n 0, 1) := by decide +kernel
theorem dL_law_379 : decode cL_law 379 = .ok (.iload 5, 2) := by decide +kernel
theorem dL_law_381 : decode cL_law 381 = .ok (.iconst 2, 1) := by decide +kernel
theorem dL_law_382 : decode cL_law 382 = .ok (.iadd, 1) := by decide +kernel
theorem dL_law_383 : decode cL_law 383 = .ok (.iaload, 1) := by decide +kernel
theorem dL_law_384 : decode cL_law 384 = .ok (.invokevirtual 150, 3) := by decide +kernel
theorem dL_law_387 : decode cL_law 387 = .ok (.istore 7, 2) := by decide +kernel
theorem dL_law_389 : decode cL_law 389 = .ok (.aload_n 2, 1) := by decide +kernel
theorem dL_law_390 : decode cL_law 390 = .ok (.invokevirtual 144, 3) := by decide +kernel
theorem dL_law_393 : decode cL_law 393 = .ok (.iload 6, 2) := by decide +kernel
theorem dL_law_395 : decode cL_law 395 = .ok (.if_icmp .eq 5, 3) := by decide +kernel
theorem dL_law_398 : decode cL_law 398 = .ok (.iconst 0, 1) := by decide +kernel
theorem dL_law_399 : decode cL_law 399 = .ok (.ireturn, 1) := by decide +kernel
theorem dL_law_400 : decode cL_law 400 = .ok (.iload 6, 2) := by decide +kernel
theorem dL_law_402 : decode cL_law 402 = .ok (.ifCond .ne 15, 3) := by decide +kernel
theorem dL_law_405 : decode cL_law 405 = .ok (.aload_n 3, 1) := by decide +kernel
theorem dL_law_406 : decode cL_law 406 = .ok (.iconst 0, 1) := by decide +kernel
theorem dL_law_407 : decode cL_law 407 = .ok (.laload, 1) := by decide +kernel
theorem dL_law_408 : decode cL_law 408 = .ok (.iload 7, 2) := by decide +kernel
theorem dL_law_410 : decode cL_law 410 = .ok (.i2l, 1) := by decide +kernel
theorem dL_law_411 : decode cL_law 411 = .ok (.lcmp, 1) := by decide +kernel
theorem dL_law_412 : decode cL_law 412 = .ok (.ifCond .eq 5, 3) := by decide +kernel
theorem dL_law_415 : decode cL_law 415 = .ok (.iconst 0, 1) := by decide +kernel
theorem dL_law_416 : decode cL_law 416 = .ok (.ireturn, 1) := by decide +kernel
theorem dL_law_417 : decode cL_law 417 = .ok (.goto 1941, 3) := by decide +kernel
theorem dL_law_420 : decode cL_law 420 = .ok (.aload_n 1, 1) := by decide +kernel
theorem dL_law_421 : decode cL_law 421 = .ok (.aload_n 0, 1) := by decide +kernel
theorem dL_law_422 : decode cL_law 422 = .ok (.iload 5, 2) := by decide +kernel
theorem dL_law_424 : decode cL_law 424 = .ok (.iconst 1, 1) := by decide +kernel
theorem dL_law_425 : decode cL_law 425 = .ok (.iadd, 1) := by decide +kernel
theorem dL_law_426 : decode cL_law 426 = .ok (.iaload, 1) := by decide +kernel
theorem dL_law_427 : decode cL_law 427 = .ok (.aload_n 3, 1) := by decide +kernel
theorem dL_law_428 : decode cL_law 428 = .ok (.invokestatic 151, 3) := by decide +kernel
theorem dL_law_431 : decode cL_law 431 = .ok (.istore 6, 2) := by decide +kernel
theorem dL_law_433 : decode cL_law 433 = .ok (.aload_n 2, 1) := by decide +kernel
theorem dL_law_434 : decode cL_law 434 = .ok (.aload_n 0, 1) := by decide +kernel
theorem dL_law_435 : decode cL_law 435 = .ok (.iload 5, 2) := by decide +kernel
theorem dL_law_437 : decode cL_law 437 = .ok (.iconst 1, 1) := by decide +kernel
theorem dL_law_438 : decode cL_law 438 = .ok (.iadd, 1) := by decide +kernel
theorem dL_law_439 : decode cL_law 439 = .ok (.iaload, 1) := by decide +kernel
theorem dL_law_440 : decode cL_law 440 = .ok (.invokevirtual 154, 3) := by decide +kernel
theorem dL_law_443 : decode cL_law 443 = .ok (.istore 7, 2) := by decide +kernel
theorem dL_law_445 : decode cL_law 445 = .ok (.aload_n 2, 1) := by decide +kernel
theorem dL_law_446 : decode cL_law 446 = .ok (.invokevirtual 144, 3) := by decide +kernel
theorem dL_law_449 : decode cL_law 449 = .ok (.iload 6, 2) := by decide +kernel
theorem dL_law_451 : decode cL_law 451 = .ok (.if_icmp .eq 5, 3) := by decide +kernel
theorem dL_law_454 : decode cL_law 454 = .ok (.iconst 0, 1) := by decide +kernel
theorem dL_law_455 : decode cL_law 455 = .ok (.ireturn, 1) := by decide +kernel
theorem dL_law_456 : decode cL_law 456 = .ok (.iload 6, 2) := by decide +kernel
theorem dL_law_458 : decode cL_law 458 = .ok (.ifCond .ne 15, 3) := by decide +kernel
theorem dL_law_461 : decode cL_law 461 = .ok (.aload_n 3, 1) := by decide +kernel
theorem dL_law_462 : decode cL_law 462 = .ok (.iconst 0, 1) := by decide +kernel
theorem dL_law_463 : decode cL_law 463 = .ok (.laload, 1) := by decide +kernel
theorem dL_law_464 : decode cL_law 464 = .ok (.iload 7, 2) := by decide +kernel
theorem dL_law_466 : decode cL_law 466 = .ok (.i2l, 1) := by decide +kernel
theorem dL_law_467 : decode cL_law 467 = .ok (.lcmp, 1) := by decide +kernel
theorem dL_law_468 : decode cL_law 468 = .ok (.ifCond .eq 5, 3) := by decide +kernel
theorem dL_law_471 : decode cL_law 471 = .ok (.iconst 0, 1) := by decide +kernel
theorem dL_law_472 : decode cL_law 472 = .ok (.ireturn, 1) := by decide +kernel
theorem dL_law_473 : decode cL_law 473 = .ok (.goto 1885, 3) := by decide +kernel
theorem dL_law_476 : decode cL_law 476 = .ok (.aload_n 1, 1) := by decide +kernel
theorem dL_law_477 : decode cL_law 477 = .ok (.aload_n 0, 1) := by decide +kernel
theorem dL_law_478 : decode cL_law 478 = .ok (.iload 5, 2) := by decide +kernel
theorem dL_law_480 : decode cL_law 480 = .ok (.iconst 1, 1) := by decide +kernel
theorem dL_law_481 : decode cL_law 481 = .ok (.iadd, 1) := by decide +kernel
theorem dL_law_482 : decode cL_law 482 = .ok (.iaload, 1) := by decide +kernel
theorem dL_law_483 : decode cL_law 483 = .ok (.aload_n 3, 1) := by decide +kernel
theorem dL_law_484 : decode cL_law 484 = .ok (.invokestatic 155, 3) := by decide +kernel
theorem dL_law_487 : decode cL_law 487 = .ok (.istore 6, 2) := by decide +kernel
theorem dL_law_489 : decode cL_law 489 = .ok (.aload_n 2, 1) := by decide +kernel
theorem dL_law_490 : decode cL_law 490 = .ok (.aload_n 0, 1) := by decide +kernel
theorem dL_law_491 : decode cL_law 491 = .ok (.iload 5, 2) := by decide +kernel
theorem dL_law_493 : decode cL_law 493 = .ok (.iconst 1, 1) := by decide +kernel
theorem dL_law_494 : decode cL_law 494 = .ok (.iadd, 1) := by decide +kernel
theorem dL_law_495 : decode cL_law 495 = .ok (.iaload, 1) := by decide +kernel
theorem dL_law_496 : decode cL_law 496 = .ok (.invokevirtual 157, 3) := by decide +kernel
theorem dL_law_499 : decode cL_law 499 = .ok (.istore 7, 2) := by decide +kernel
theorem dL_law_501 : decode cL_law 501 = .ok (.aload_n 2, 1) := by decide +kernel
theorem dL_law_502 : decode cL_law 502 = .ok (.invokevirtual 144, 3) := by decide +kernel
theorem dL_law_505 : decode cL_law 505 = .ok (.iload 6, 2) := by decide +kernel
theorem dL_law_507 : decode cL_law 507 = .ok (.if_icmp .eq 5, 3) := by decide +kernel
theorem dL_law_510 : decode cL_law 510 = .ok (.iconst 0, 1) := by decide +kernel
theorem dL_law_511 : decode cL_law 511 = .ok (.ireturn, 1) := by decide +kernel
theorem dL_law_512 : decode cL_law 512 = .ok (.iload 6, 2) := by decide +kernel
theorem dL_law_514 : decode cL_law 514 = .ok (.ifCond .ne 15, 3) := by decide +kernel
theorem dL_law_517 : decode cL_law 517 = .ok (.aload_n 3, 1) := by decide +kernel
theorem dL_law_518 : decode cL_law 518 = .ok (.iconst 0, 1) := by decide +kernel
theorem dL_law_519 : decode cL_law 519 = .ok (.laload, 1) := by decide +kernel
theorem dL_law_520 : decode cL_law 520 = .ok (.iload 7, 2) := by decide +kernel
theorem dL_law_522 : decode cL_law 522 = .ok (.i2l, 1) := by decide +kernel
theorem dL_law_523 : decode cL_law 523 = .ok (.lcmp, 1) := by decide +kernel
theorem dL_law_524 : decode cL_law 524 = .ok (.ifCond .eq 5, 3) := by decide +kernel
theorem dL_law_527 : decode cL_law 527 = .ok (.iconst 0, 1) := by decide +kernel
theorem dL_law_528 : decode cL_law 528 = .ok (.ireturn, 1) := by decide +kernel
theorem dL_law_529 : decode cL_law 529 = .ok (.goto 1829, 3) := by decide +kernel
theorem dL_law_532 : decode cL_law 532 = .ok (.aload_n 1, 1) := by decide +kernel
theorem dL_law_533 : decode cL_law 533 = .ok (.invokevirtual 158, 3) := by decide +kernel
theorem dL_law_536 : decode cL_law 536 = .ok (.aload_n 2, 1) := by decide +kernel
theorem dL_law_537 : decode cL_law 537 = .ok (.invokevirtual 161, 3) := by decide +kernel
theorem dL_law_540 : decode cL_law 540 = .ok (.if_icmp .eq 1818, 3) := by decide +kernel
theorem dL_law_543 : decode cL_law 543 = .ok (.iconst 0, 1) := by decide +kernel
theorem dL_law_544 : decode cL_law 544 = .ok (.ireturn, 1) := by decide +kernel
theorem dL_law_545 : decode cL_law 545 = .ok (.aload_n 1, 1) := by decide +kernel
theorem dL_law_546 : decode cL_law 546 = .ok (.invokevirtual 162, 3) := by decide +kernel
theorem dL_law_549 : decode cL_law 549 = .ok (.aload_n 2, 1) := by decide +kernel
theorem dL_law_550 : decode cL_law 550 = .ok (.invokevirtual 165, 3) := by decide +kernel
theorem dL_law_553 : decode cL_law 553 = .ok (.if_icmp .eq 1805, 3) := by decide +kernel
theorem dL_law_556 : decode cL_law 556 = .ok (.iconst 0, 1) := by decide +kernel
theorem dL_law_557 : decode cL_law 557 = .ok (.ireturn, 1) := by decide +kernel
theorem dL_law_558 : decode cL_law 558 = .ok (.aload_n 1, 1) := by decide +kernel
theorem dL_law_559 : decode cL_law 559 = .ok (.aload_n 0, 1) := by decide +kernel
theorem dL_law_560 : decode cL_law 560 = .ok (.iload 5, 2) := by decide +kernel
theorem dL_law_562 : decode cL_law 562 = .ok (.iconst 1, 1) := by decide +kernel
theorem dL_law_563 : decode cL_law 563 = .ok (.iadd, 1) := by decide +kernel
theorem dL_law_564 : decode cL_law 564 = .ok (.iaload, 1) := by decide +kernel
theorem dL_law_565 : decode cL_law 565 = .ok (.aload_n 3, 1) := by decide +kernel
theorem dL_law_566 : decode cL_law 566 = .ok (.invokestatic 166, 3) := by decide +kernel
theorem dL_law_569 : decode cL_law 569 = .ok (.istore 6, 2) := by decide +kernel
theorem dL_law_571 : decode cL_law 571 = .ok (.aload_n 2, 1) := by decide +kernel
theorem dL_law_572 : decode cL_law 572 = .ok (.aload_n 0, 1) := by decide +kernel
theorem dL_law_573 : decode cL_law 573 = .ok (.iload 5, 2) := by decide +kernel
theorem dL_law_575 : decode cL_law 575 = .ok (.iconst 1, 1) := by decide +kernel
theorem dL_law_576 : decode cL_law 576 = .ok (.iadd, 1) := by decide +kernel
theorem dL_law_577 : decode cL_law 577 = .ok (.iaload, 1) := by decide +kernel
theorem dL_law_578 : decode cL_law 578 = .ok (.invokevirtual 168, 3) := by decide +kernel
theorem dL_law_581 : decode cL_law 581 = .ok (.istore 7, 2) := by decide +kernel
theorem dL_law_583 : decode cL_law 583 = .ok (.aload_n 2, 1) := by decide +kernel
theorem dL_law_584 : decode cL_law 584 = .ok (.invokevirtual 144, 3) := by decide +kernel
theorem dL_law_587 : decode cL_law 587 = .ok (.iload 6, 2) := by decide +kernel
theorem dL_law_589 : decode cL_law 589 = .ok (.if_icmp .eq 5, 3) := by decide +kernel
theorem dL_law_592 : decode cL_law 592 = .ok (.iconst 0, 1) := by decide +kernel
theorem dL_law_593 : decode cL_law 593 = .ok (.ireturn, 1) := by decide +kernel
theorem dL_law_594 : decode cL_law 594 = .ok (.iload 6, 2) := by decide +kernel
theorem dL_law_596 : decode cL_law 596 = .ok (.ifCond .ne 15, 3) := by decide +kernel
theorem dL_law_599 : decode cL_law 599 = .ok (.aload_n 3, 1) := by decide +kernel
theorem dL_law_600 : decode cL_law 600 = .ok (.iconst 0, 1) := by decide +kernel
theorem dL_law_601 : decode cL_law 601 = .ok (.laload, 1) := by decide +kernel
theorem dL_law_602 : decode cL_law 602 = .ok (.iload 7, 2) := by decide +kernel
theorem dL_law_604 : decode cL_law 604 = .ok (.i2l, 1) := by decide +kernel
theorem dL_law_605 : decode cL_law 605 = .ok (.lcmp, 1) := by decide +kernel
theorem dL_law_606 : decode cL_law 606 = .ok (.ifCond .eq 5, 3) := by decide +kernel
theorem dL_law_609 : decode cL_law 609 = .ok (.iconst 0, 1) := by decide +kernel
theorem dL_law_610 : decode cL_law 610 = .ok (.ireturn, 1) := by decide +kernel
theorem dL_law_611 : decode cL_law 611 = .ok (.goto 1747, 3) := by decide +kernel
theorem dL_law_614 : decode cL_law 614 = .ok (.aload_n 1, 1) := by decide +kernel
theorem dL_law_615 : decode cL_law 615 = .ok (.aload_n 0, 1) := by decide +kernel
theorem dL_law_616 : decode cL_law 616 = .ok (.iload 5, 2) := by decide +kernel
theorem dL_law_618 : decode cL_law 618 = .ok (.iconst 1, 1) := by decide +kernel
theorem dL_law_619 : decode cL_law 619 = .ok (.iadd, 1) := by decide +kernel
theorem dL_law_620 : decode cL_law 620 = .ok (.iaload, 1) := by decide +kernel
theorem dL_law_621 : decode cL_law 621 = .ok (.aload_n 3, 1) := by decide +kernel
theorem dL_law_622 : decode cL_law 622 = .ok (.invokestatic 169, 3) := by decide +kernel
theorem dL_law_625 : decode cL_law 625 = .ok (.istore 6, 2) := by decide +kernel
theorem dL_law_627 : decode cL_law 627 = .ok (.aload_n 2, 1) := by decide +kernel
theorem dL_law_628 : decode cL_law 628 = .ok (.aload_n 0, 1) := by decide +kernel
theorem dL_law_629 : decode cL_law 629 = .ok (.iload 5, 2) := by decide +kernel
theorem dL_law_631 : decode cL_law 631 = .ok (.iconst 1, 1) := by decide +kernel
theorem dL_law_632 : decode cL_law 632 = .ok (.iadd, 1) := by decide +kernel
theorem dL_law_633 : decode cL_law 633 = .ok (.iaload, 1) := by decide +kernel
theorem dL_law_634 : decode cL_law 634 = .ok (.invokevirtual 171, 3) := by decide +kernel
theorem dL_law_637 : decode cL_law 637 = .ok (.istore 7, 2) := by decide +kernel
theorem dL_law_639 : decode cL_law 639 = .ok (.aload_n 2, 1) := by decide +kernel
theorem dL_law_640 : decode cL_law 640 = .ok (.invokevirtual 144, 3) := by decide +kernel
theorem dL_law_643 : decode cL_law 643 = .ok (.iload 6, 2) := by decide +kernel
theorem dL_law_645 : decode cL_law 645 = .ok (.if_icmp .eq 5, 3) := by decide +kernel
theorem dL_law_648 : decode cL_law 648 = .ok (.iconst 0, 1) := by decide +kernel
theorem dL_law_649 : decode cL_law 649 = .ok (.ireturn, 1) := by decide +kernel
theorem dL_law_650 : decode cL_law 650 = .ok (.iload 6, 2) := by decide +kernel
theorem dL_law_652 : decode cL_law 652 = .ok (.ifCond .ne 15, 3) := by decide +kernel
theorem dL_law_655 : decode cL_law 655 = .ok (.aload_n 3, 1) := by decide +kernel
theorem dL_law_656 : decode cL_law 656 = .ok (.iconst 0, 1) := by decide +kernel
theorem dL_law_657 : decode cL_law 657 = .ok (.laload, 1) := by decide +kernel
theorem dL_law_658 : decode cL_law 658 = .ok (.iload 7, 2) := by decide +kernel
theorem dL_law_660 : decode cL_law 660 = .ok (.i2l, 1) := by decide +kernel
theorem dL_law_661 : decode cL_law 661 = .ok (.lcmp, 1) := by decide +kernel
theorem dL_law_662 : decode cL_law 662 = .ok (.ifCond .eq 5, 3) := by decide +kernel
theorem dL_law_665 : decode cL_law 665 = .ok (.iconst 0, 1) := by decide +kernel
theorem dL_law_666 : decode cL_law 666 = .ok (.ireturn, 1) := by decide +kernel
theorem dL_law_667 : decode cL_law 667 = .ok (.goto 1691, 3) := by decide +kernel
theorem dL_law_670 : decode cL_law 670 = .ok (.aload_n 1, 1) := by decide +kernel
theorem dL_law_671 : decode cL_law 671 = .ok (.aload_n 0, 1) := by decide +kernel
theorem dL_law_672 : decode cL_law 672 = .ok (.iload 5, 2) := by decide +kernel
theorem dL_law_674 : decode cL_law 674 = .ok (.iconst 1, 1) := by decide +kernel
theorem dL_law_675 : decode cL_law 675 = .ok (.iadd, 1) := by decide +kernel
theorem dL_law_676 : decode cL_law 676 = .ok (.iaload, 1) := by decide +kernel
theorem dL_law_677 : decode cL_law 677 = .ok (.aload_n 3, 1) := by decide +kernel
theorem dL_law_678 : decode cL_law 678 = .ok (.invokestatic 172, 3) := by decide +kernel
theorem dL_law_681 : decode cL_law 681 = .ok (.istore 6, 2) := by decide +kernel
theorem dL_law_683 : decode cL_law 683 = .ok (.aload_n 2, 1) := by decide +kernel
theorem dL_law_684 : decode cL_law 684 = .ok (.aload_n 0, 1) := by decide +kernel
theorem dL_law_685 : decode cL_law 685 = .ok (.iload 5, 2) := by decide +kernel
theorem dL_law_687 : decode cL_law 687 = .ok (.iconst 1, 1) := by decide +kernel
theorem dL_law_688 : decode cL_law 688 = .ok (.iadd, 1) := by decide +kernel
theorem dL_law_689 : decode cL_law 689 = .ok (.iaload, 1) := by decide +kernel
theorem dL_law_690 : decode cL_law 690 = .ok (.invokevirtual 174, 3) := by decide +kernel
theorem dL_law_693 : decode cL_law 693 = .ok (.istore 7, 2) := by decide +kernel
theorem dL_law_695 : decode cL_law 695 = .ok (.aload_n 2, 1) := by decide +kernel
theorem dL_law_696 : decode cL_law 696 = .ok (.invokevirtual 144, 3) := by decide +kernel
theorem dL_law_699 : decode cL_law 699 = .ok (.iload 6, 2) := by decide +kernel
theorem dL_law_701 : decode cL_law 701 = .ok (.if_icmp .eq 5, 3) := by decide +kernel
theorem dL_law_704 : decode cL_law 704 = .ok (.iconst 0, 1) := by decide +kernel
theorem dL_law_705 : decode cL_law 705 = .ok (.ireturn, 1) := by decide +kernel
theorem dL_law_706 : decode cL_law 706 = .ok (.iload 6, 2) := by decide +kernel
theorem dL_law_708 : decode cL_law 708 = .ok (.ifCond .ne 15, 3) := by decide +kernel
theorem dL_law_711 : decode cL_law 711 = .ok (.aload_n 3, 1) := by decide +kernel
theorem dL_law_712 : decode cL_law 712 = .ok (.iconst 0, 1) := by decide +kernel
theorem dL_law_713 : decode cL_law 713 = .ok (.laload, 1) := by decide +kernel
theorem dL_law_714 : decode cL_law 714 = .ok (.iload 7, 2) := by decide +kernel
theorem dL_law_716 : decode cL_law 716 = .ok (.i2l, 1) := by decide +kernel
theorem dL_law_717 : decode cL_law 717 = .ok (.lcmp, 1) := by decide +kernel
theorem dL_law_718 : decode cL_law 718 = .ok (.ifCond .eq 5, 3) := by decide +kernel
theorem dL_law_721 : decode cL_law 721 = .ok (.iconst 0, 1) := by decide +kernel
theorem dL_law_722 : decode cL_law 722 = .ok (.ireturn, 1) := by decide +kernel
theorem dL_law_723 : decode cL_law 723 = .ok (.goto 1635, 3) := by decide +kernel
theorem dL_law_726 : decode cL_law 726 = .ok (.aload_n 1, 1) := by decide +kernel
theorem dL_law_727 : decode cL_law 727 = .ok (.aload_n 0, 1) := by decide +kernel
theorem dL_law_728 : decode cL_law 728 = .ok (.iload 5, 2) := by decide +kernel
theorem dL_law_730 : decode cL_law 730 = .ok (.iconst 1, 1) := by decide +kernel
theorem dL_law_731 : decode cL_law 731 = .ok (.iadd, 1) := by decide +kernel
theorem dL_law_732 : decode cL_law 732 = .ok (.iaload, 1) := by decide +kernel
theorem dL_law_733 : decode cL_law 733 = .ok (.aload_n 3, 1) := by decide +kernel
theorem dL_law_734 : decode cL_law 734 = .ok (.invokestatic 175, 3) := by decide +kernel
theorem dL_law_737 : decode cL_law 737 = .ok (.istore 6, 2) := by decide +kernel
theorem dL_law_739 : decode cL_law 739 = .ok (.aload_n 2, 1) := by decide +kernel
theorem dL_law_740 : decode cL_law 740 = .ok (.aload_n 0, 1) := by decide +kernel
theorem dL_law_741 : decode cL_law 741 = .ok (.iload 5, 2) := by decide +kernel
theorem dL_law_743 : decode cL_law 743 = .ok (.iconst 1, 1) := by decide +kernel
theorem dL_law_744 : decode cL_law 744 = .ok (.iadd, 1) := by decide +kernel
theorem dL_law_745 : decode cL_law 745 = .ok (.iaload, 1) := by decide +kernel
theorem dL_law_746 : decode cL_law 746 = .ok (.invokevirtual 177, 3) := by decide +kernel
theorem dL_law_749 : decode cL_law 749 = .ok (.istore 7, 2) := by decide +kernel
theorem dL_law_751 : decode cL_law 751 = .ok (.aload_n 2, 1) := by decide +kernel
theorem dL_law_752 : decode cL_law 752 = .ok (.invokevirtual 144, 3) := by decide +kernel
theorem dL_law_755 : decode cL_law 755 = .ok (.iload 6, 2) := by decide +kernel
theorem dL_law_757 : decode cL_law 757 = .ok (.if_icmp .eq 5, 3) := by decide +kernel
theorem dL_law_760 : decode cL_law 760 = .ok (.iconst 0, 1) := by decide +kernel
theorem dL_law_761 : decode cL_law 761 = .ok (.ireturn, 1) := by decide +kernel
theorem dL_law_762 : decode cL_law 762 = .ok (.iload 6, 2) := by decide +kernel
theorem dL_law_764 : decode cL_law 764 = .ok (.ifCond .ne 15, 3) := by decide +kernel
theorem dL_law_767 : decode cL_law 767 = .ok (.aload_n 3, 1) := by decide +kernel
theorem dL_law_768 : decode cL_law 768 = .ok (.iconst 0, 1) := by decide +kernel
theorem dL_law_769 : decode cL_law 769 = .ok (.laload, 1) := by decide +kernel
theorem dL_law_770 : decode cL_law 770 = .ok (.iload 7, 2) := by decide +kernel
theorem dL_law_772 : decode cL_law 772 = .ok (.i2l, 1) := by decide +kernel
theorem dL_law_773 : decode cL_law 773 = .ok (.lcmp, 1) := by decide +kernel
theorem dL_law_774 : decode cL_law 774 = .ok (.ifCond .eq 5, 3) := by decide +kernel
theorem dL_law_777 : decode cL_law 777 = .ok (.iconst 0, 1) := by decide +kernel
theorem dL_law_778 : decode cL_law 778 = .ok (.ireturn, 1) := by decide +kernel
theorem dL_law_779 : decode cL_law 779 = .ok (.goto 1579, 3) := by decide +kernel
theorem dL_law_782 : decode cL_law 782 = .ok (.aload_n 1, 1) := by decide +kernel
theorem dL_law_783 : decode cL_law 783 = .ok (.aload_n 0, 1) := by decide +kernel
theorem dL_law_784 : decode cL_law 784 = .ok (.iload 5, 2) := by decide +kernel
theorem dL_law_786 : decode cL_law 786 = .ok (.iconst 1, 1) := by decide +kernel
theorem dL_law_787 : decode cL_law 787 = .ok (.iadd, 1) := by decide +kernel
theorem dL_law_788 : decode cL_law 788 = .ok (.iaload, 1) := by decide +kernel
theorem dL_law_789 : decode cL_law 789 = .ok (.aload_n 3, 1) := by decide +kernel
theorem dL_law_790 : decode cL_law 790 = .ok (.invokestatic 178, 3) := by decide +kernel
theorem dL_law_793 : decode cL_law 793 = .ok (.istore 6, 2) := by decide +kernel
theorem dL_law_795 : decode cL_law 795 = .ok (.aload_n 2, 1) := by decide +kernel
theorem dL_law_796 : decode cL_law 796 = .ok (.aload_n 0, 1) := by decide +kernel
theorem dL_law_797 : decode cL_law 797 = .ok (.iload 5, 2) := by decide +kernel
theorem dL_law_799 : decode cL_law 799 = .ok (.iconst 1, 1) := by decide +kernel
theorem dL_law_800 : decode cL_law 800 = .ok (.iadd, 1) := by decide +kernel
theorem dL_law_801 : decode cL_law 801 = .ok (.iaload, 1) := by decide +kernel
theorem dL_law_802 : decode cL_law 802 = .ok (.invokevirtual 180, 3) := by decide +kernel
theorem dL_law_805 : decode cL_law 805 = .ok (.istore 7, 2) := by decide +kernel
theorem dL_law_807 : decode cL_law 807 = .ok (.aload_n 2, 1) := by decide +kernel
theorem dL_law_808 : decode cL_law 808 = .ok (.invokevirtual 144, 3) := by decide +kernel
theorem dL_law_811 : decode cL_law 811 = .ok (.iload 6, 2) := by decide +kernel
theorem dL_law_813 : decode cL_law 813 = .ok (.if_icmp .eq 5, 3) := by decide +kernel
theorem dL_law_816 : decode cL_law 816 = .ok (.iconst 0, 1) := by decide +kernel
theorem dL_law_817 : decode cL_law 817 = .ok (.ireturn, 1) := by decide +kernel
theorem dL_law_818 : decode cL_law 818 = .ok (.iload 6, 2) := by decide +kernel
theorem dL_law_820 : decode cL_law 820 = .ok (.ifCond .ne 15, 3) := by decide +kernel
theorem dL_law_823 : decode cL_law 823 = .ok (.aload_n 3, 1) := by decide +kernel
theorem dL_law_824 : decode cL_law 824 = .ok (.iconst 0, 1) := by decide +kernel
theorem dL_law_825 : decode cL_law 825 = .ok (.laload, 1) := by decide +kernel
theorem dL_law_826 : decode cL_law 826 = .ok (.iload 7, 2) := by decide +kernel
theorem dL_law_828 : decode cL_law 828 = .ok (.i2l, 1) := by decide +kernel
theorem dL_law_829 : decode cL_law 829 = .ok (.lcmp, 1) := by decide +kernel
theorem dL_law_830 : decode cL_law 830 = .ok (.ifCond .eq 5, 3) := by decide +kernel
theorem dL_law_833 : decode cL_law 833 = .ok (.iconst 0, 1) := by decide +kernel
theorem dL_law_834 : decode cL_law 834 = .ok (.ireturn, 1) := by decide +kernel
theorem dL_law_835 : decode cL_law 835 = .ok (.goto 1523, 3) := by decide +kernel
theorem dL_law_838 : decode cL_law 838 = .ok (.aload_n 1, 1) := by decide +kernel
theorem dL_law_839 : decode cL_law 839 = .ok (.aload_n 0, 1) := by decide +kernel
theorem dL_law_840 : decode cL_law 840 = .ok (.iload 5, 2) := by decide +kernel
theorem dL_law_842 : decode cL_law 842 = .ok (.iconst 1, 1) := by decide +kernel
theorem dL_law_843 : decode cL_law 843 = .ok (.iadd, 1) := by decide +kernel
theorem dL_law_844 : decode cL_law 844 = .ok (.iaload, 1) := by decide +kernel
theorem dL_law_845 : decode cL_law 845 = .ok (.aload_n 0, 1) := by decide +kernel
theorem dL_law_846 : decode cL_law 846 = .ok (.iload 5, 2) := by decide +kernel
theorem dL_law_848 : decode cL_law 848 = .ok (.iconst 2, 1) := by decide +kernel
theorem dL_law_849 : decode cL_law 849 = .ok (.iadd, 1) := by decide +kernel
theorem dL_law_850 : decode cL_law 850 = .ok (.iaload, 1) := by decide +kernel
theorem dL_law_851 : decode cL_law 851 = .ok (.aload_n 3, 1) := by decide +kernel
theorem dL_law_852 : decode cL_law 852 = .ok (.invokestatic 181, 3) := by decide +kernel
theorem dL_law_855 : decode cL_law 855 = .ok (.istore 6, 2) := by decide +kernel
theorem dL_law_857 : decode cL_law 857 = .ok (.aload_n 2, 1) := by decide +kernel
theorem dL_law_858 : decode cL_law 858 = .ok (.aload_n 0, 1) := by decide +kernel
theorem dL_law_859 : decode cL_law 859 = .ok (.iload 5, 2) := by decide +kernel
theorem dL_law_861 : decode cL_law 861 = .ok (.iconst 1, 1) := by decide +kernel
theorem dL_law_862 : decode cL_law 862 = .ok (.iadd, 1) := by decide +kernel
theorem dL_law_863 : decode cL_law 863 = .ok (.iaload, 1) := by decide +kernel
theorem dL_law_864 : decode cL_law 864 = .ok (.aload_n 0, 1) := by decide +kernel
theorem dL_law_865 : decode cL_law 865 = .ok (.iload 5, 2) := by decide +kernel
theorem dL_law_867 : decode cL_law 867 = .ok (.iconst 2, 1) := by decide +kernel
theorem dL_law_868 : decode cL_law 868 = .ok (.iadd, 1) := by decide +kernel
theorem dL_law_869 : decode cL_law 869 = .ok (.iaload, 1) := by decide +kernel
theorem dL_law_870 : decode cL_law 870 = .ok (.invokevirtual 183, 3) := by decide +kernel
theorem dL_law_873 : decode cL_law 873 = .ok (.istore 7, 2) := by decide +kernel
theorem dL_law_875 : decode cL_law 875 = .ok (.aload_n 2, 1) := by decide +kernel
theorem dL_law_876 : decode cL_law 876 = .ok (.invokevirtual 144, 3) := by decide +kernel
theorem dL_law_879 : decode cL_law 879 = .ok (.iload 6, 2) := by decide +kernel
theorem dL_law_881 : decode cL_law 881 = .ok (.if_icmp .eq 5, 3) := by decide +kernel
theorem dL_law_884 : decode cL_law 884 = .ok (.iconst 0, 1) := by decide +kernel
theorem dL_law_885 : decode cL_law 885 = .ok (.ireturn, 1) := by decide +kernel
theorem dL_law_886 : decode cL_law 886 = .ok (.iload 6, 2) := by decide +kernel
theorem dL_law_888 : decode cL_law 888 = .ok (.ifCond .ne 15, 3) := by decide +kernel
theorem dL_law_891 : decode cL_law 891 = .ok (.aload_n 3, 1) := by decide +kernel
theorem dL_law_892 : decode cL_law 892 = .ok (.iconst 0, 1) := by decide +kernel
theorem dL_law_893 : decode cL_law 893 = .ok (.laload, 1) := by decide +kernel
theorem dL_law_894 : decode cL_law 894 = .ok (.iload 7, 2) := by decide +kernel
theorem dL_law_896 : decode cL_law 896 = .ok (.i2l, 1) := by decide +kernel
theorem dL_law_897 : decode cL_law 897 = .ok (.lcmp, 1) := by decide +kernel
theorem dL_law_898 : decode cL_law 898 = .ok (.ifCond .eq 5, 3) := by decide +kernel
theorem dL_law_901 : decode cL_law 901 = .ok (.iconst 0, 1) := by decide +kernel
theorem dL_law_902 : decode cL_law 902 = .ok (.ireturn, 1) := by decide +kernel
theorem dL_law_903 : decode cL_law 903 = .ok (.goto 1455, 3) := by decide +kernel
theorem dL_law_906 : decode cL_law 906 = .ok (.aload_n 1, 1) := by decide +kernel
theorem dL_law_907 : decode cL_law 907 = .ok (.aload_n 0, 1) := by decide +kernel
theorem dL_law_908 : decode cL_law 908 = .ok (.iload 5, 2) := by decide +kernel
theorem dL_law_910 : decode cL_law 910 = .ok (.iconst 1, 1) := by decide +kernel
theorem dL_law_911 : decode cL_law 911 = .ok (.iadd, 1) := by decide +kernel

theorem dX8_init_0 : decode cX8_init 0 = .ok (.aload_n 0, 1) := by decide +kernel
theorem dX8_init_1 : decode cX8_init 1 = .ok (.invokespecial 3, 3) := by decide +kernel
theorem dX8_init_4 : decode cX8_init 4 = .ok (.aload_n 0, 1) := by decide +kernel
theorem dX8_init_5 : decode cX8_init 5 = .ok (.new 9, 3) := by decide +kernel
theorem dX8_init_8 : decode cX8_init 8 = .ok (.dup, 1) := by decide +kernel
theorem dX8_init_9 : decode cX8_init 9 = .ok (.invokespecial 11, 3) := by decide +kernel
theorem dX8_init_12 : decode cX8_init 12 = .ok (.putfield 12, 3) := by decide +kernel
theorem dX8_init_15 : decode cX8_init 15 = .ok (.aload_n 0, 1) := by decide +kernel
theorem dX8_init_16 : decode cX8_init 16 = .ok (.new 16, 3) := by decide +kernel
theorem dX8_init_19 : decode cX8_init 19 = .ok (.dup, 1) := by decide +kernel
theorem dX8_init_20 : decode cX8_init 20 = .ok (.aload_n 0, 1) := by decide +kernel
theorem dX8_init_21 : decode cX8_init 21 = .ok (.getfield 12, 3) := by decide +kernel
theorem dX8_init_24 : decode cX8_init 24 = .ok (.invokespecial 18, 3) := by decide +kernel
theorem dX8_init_27 : decode cX8_init 27 = .ok (.putfield 21, 3) := by decide +kernel
theorem dX8_init_30 : decode cX8_init 30 = .ok (.aload_n 0, 1) := by decide +kernel
theorem dX8_init_31 : decode cX8_init 31 = .ok (.new 25, 3) := by decide +kernel
theorem dX8_init_34 : decode cX8_init 34 = .ok (.dup, 1) := by decide +kernel
theorem dX8_init_35 : decode cX8_init 35 = .ok (.aload_n 0, 1) := by decide +kernel
theorem dX8_init_36 : decode cX8_init 36 = .ok (.getfield 12, 3) := by decide +kernel
theorem dX8_init_39 : decode cX8_init 39 = .ok (.invokespecial 27, 3) := by decide +kernel
theorem dX8_init_42 : decode cX8_init 42 = .ok (.putfield 28, 3) := by decide +kernel
theorem dX8_init_45 : decode cX8_init 45 = .ok (.aload_n 0, 1) := by decide +kernel
theorem dX8_init_46 : decode cX8_init 46 = .ok (.new 32, 3) := by decide +kernel
theorem dX8_init_49 : decode cX8_init 49 = .ok (.dup, 1) := by decide +kernel
theorem dX8_init_50 : decode cX8_init 50 = .ok (.aload_n 0, 1) := by decide +kernel
theorem dX8_init_51 : decode cX8_init 51 = .ok (.getfield 12, 3) := by decide +kernel
theorem dX8_init_54 : decode cX8_init 54 = .ok (.aload_n 0, 1) := by decide +kernel
theorem dX8_init_55 : decode cX8_init 55 = .ok (.getfield 21, 3) := by decide +kernel
theorem dX8_init_58 : decode cX8_init 58 = .ok (.aload_n 0, 1) := by decide +kernel
theorem dX8_init_59 : decode cX8_init 59 = .ok (.getfield 28, 3) := by decide +kernel
theorem dX8_init_62 : decode cX8_init 62 = .ok (.invokespecial 34, 3) := by decide +kernel
theorem dX8_init_65 : decode cX8_init 65 = .ok (.putfield 37, 3) := by decide +kernel
theorem dX8_init_68 : decode cX8_init 68 = .ok (.aload_n 0, 1) := by decide +kernel
theorem dX8_init_69 : decode cX8_init 69 = .ok (.new 41, 3) := by decide +kernel
theorem dX8_init_72 : decode cX8_init 72 = .ok (.dup, 1) := by decide +kernel
theorem dX8_init_73 : decode cX8_init 73 = .ok (.invokespecial 43, 3) := by decide +kernel
theorem dX8_init_76 : decode cX8_init 76 = .ok (.putfield 44, 3) := by decide +kernel
theorem dX8_init_79 : decode cX8_init 79 = .ok (.aload_n 0, 1) := by decide +kernel
theorem dX8_init_80 : decode cX8_init 80 = .ok (.new 9, 3) := by decide +kernel
theorem dX8_init_83 : decode cX8_init 83 = .ok (.dup, 1) := by decide +kernel
theorem dX8_init_84 : decode cX8_init 84 = .ok (.invokespecial 11, 3) := by decide +kernel
theorem dX8_init_87 : decode cX8_init 87 = .ok (.putfield 48, 3) := by decide +kernel
theorem dX8_init_90 : decode cX8_init 90 = .ok (.aload_n 0, 1) := by decide +kernel
theorem dX8_init_91 : decode cX8_init 91 = .ok (.new 9, 3) := by decide +kernel
theorem dX8_init_94 : decode cX8_init 94 = .ok (.dup, 1) := by decide +kernel
theorem dX8_init_95 : decode cX8_init 95 = .ok (.invokespecial 11, 3) := by decide +kernel
theorem dX8_init_98 : decode cX8_init 98 = .ok (.putfield 51, 3) := by decide +kernel
theorem dX8_init_101 : decode cX8_init 101 = .ok (.aload_n 0, 1) := by decide +kernel
theorem dX8_init_102 : decode cX8_init 102 = .ok (.new 54, 3) := by decide +kernel
theorem dX8_init_105 : decode cX8_init 105 = .ok (.dup, 1) := by decide +kernel
theorem dX8_init_106 : decode cX8_init 106 = .ok (.invokespecial 56, 3) := by decide +kernel
theorem dX8_init_109 : decode cX8_init 109 = .ok (.putfield 57, 3) := by decide +kernel
theorem dX8_init_112 : decode cX8_init 112 = .ok (.aload_n 0, 1) := by decide +kernel
theorem dX8_init_113 : decode cX8_init 113 = .ok (.new 61, 3) := by decide +kernel
theorem dX8_init_116 : decode cX8_init 116 = .ok (.dup, 1) := by decide +kernel
theorem dX8_init_117 : decode cX8_init 117 = .ok (.invokespecial 63, 3) := by decide +kernel
theorem dX8_init_120 : decode cX8_init 120 = .ok (.putfield 64, 3) := by decide +kernel
theorem dX8_init_123 : decode cX8_init 123 = .ok (.aload_n 0, 1) := by decide +kernel
theorem dX8_init_124 : decode cX8_init 124 = .ok (.iconst (-1), 1) := by decide +kernel
theorem dX8_init_125 : decode cX8_init 125 = .ok (.putfield 68, 3) := by decide +kernel
theorem dX8_init_128 : decode cX8_init 128 = .ok (.return_, 1) := by decide +kernel
theorem dX8_addMagnet_0 : decode cX8_addMagnet 0 = .ok (.aload_n 0, 1) := by decide +kernel
theorem dX8_addMagnet_1 : decode cX8_addMagnet 1 = .ok (.iconst 0, 1) := by decide +kernel
theorem dX8_addMagnet_2 : decode cX8_addMagnet 2 = .ok (.iload_n 1, 1) := by decide +kernel
theorem dX8_addMagnet_3 : decode cX8_addMagnet 3 = .ok (.iload_n 2, 1) := by decide +kernel
theorem dX8_addMagnet_4 : decode cX8_addMagnet 4 = .ok (.iload_n 3, 1) := by decide +kernel
theorem dX8_addMagnet_5 : decode cX8_addMagnet 5 = .ok (.ifCond .eq 7, 3) := by decide +kernel
theorem dX8_addMagnet_8 : decode cX8_addMagnet 8 = .ok (.iconst 1, 1) := by decide +kernel
theorem dX8_addMagnet_9 : decode cX8_addMagnet 9 = .ok (.goto 4, 3) := by decide +kernel
theorem dX8_addMagnet_12 : decode cX8_addMagnet 12 = .ok (.iconst 0, 1) := by decide +kernel
theorem dX8_addMagnet_13 : decode cX8_addMagnet 13 = .ok (.invokevirtual 72, 3) := by decide +kernel
theorem dX8_addMagnet_16 : decode cX8_addMagnet 16 = .ok (.ireturn, 1) := by decide +kernel
theorem dX8_setStrength_0 : decode cX8_setStrength 0 = .ok (.aload_n 0, 1) := by decide +kernel
theorem dX8_setStrength_1 : decode cX8_setStrength 1 = .ok (.iconst 1, 1) := by decide +kernel
theorem dX8_setStrength_2 : decode cX8_setStrength 2 = .ok (.iload_n 1, 1) := by decide +kernel
theorem dX8_setStrength_3 : decode cX8_setStrength 3 = .ok (.iload_n 2, 1) := by decide +kernel
theorem dX8_setStrength_4 : decode cX8_setStrength 4 = .ok (.iconst 0, 1) := by decide +kernel
theorem dX8_setStrength_5 : decode cX8_setStrength 5 = .ok (.invokevirtual 72, 3) := by decide +kernel
theorem dX8_setStrength_8 : decode cX8_setStrength 8 = .ok (.ireturn, 1) := by decide +kernel
theorem dX8_turn_0 : decode cX8_turn 0 = .ok (.aload_n 0, 1) := by decide +kernel
theorem dX8_turn_1 : decode cX8_turn 1 = .ok (.iconst 2, 1) := by decide +kernel
theorem dX8_turn_2 : decode cX8_turn 2 = .ok (.iload_n 1, 1) := by decide +kernel
theorem dX8_turn_3 : decode cX8_turn 3 = .ok (.iconst 0, 1) := by decide +kernel
theorem dX8_turn_4 : decode cX8_turn 4 = .ok (.iconst 0, 1) := by decide +kernel
theorem dX8_turn_5 : decode cX8_turn 5 = .ok (.invokevirtual 72, 3) := by decide +kernel
theorem dX8_turn_8 : decode cX8_turn 8 = .ok (.ireturn, 1) := by decide +kernel
theorem dX8_shift_0 : decode cX8_shift 0 = .ok (.aload_n 0, 1) := by decide +kernel
theorem dX8_shift_1 : decode cX8_shift 1 = .ok (.iconst 3, 1) := by decide +kernel
theorem dX8_shift_2 : decode cX8_shift 2 = .ok (.iload_n 1, 1) := by decide +kernel
theorem dX8_shift_3 : decode cX8_shift 3 = .ok (.iconst 0, 1) := by decide +kernel
theorem dX8_shift_4 : decode cX8_shift 4 = .ok (.iconst 0, 1) := by decide +kernel
theorem dX8_shift_5 : decode cX8_shift 5 = .ok (.invokevirtual 72, 3) := by decide +kernel
theorem dX8_shift_8 : decode cX8_shift 8 = .ok (.ireturn, 1) := by decide +kernel
theorem dX8_move_0 : decode cX8_move 0 = .ok (.aload_n 0, 1) := by decide +kernel
theorem dX8_move_1 : decode cX8_move 1 = .ok (.iconst 4, 1) := by decide +kernel
theorem dX8_move_2 : decode cX8_move 2 = .ok (.iconst 0, 1) := by decide +kernel
theorem dX8_move_3 : decode cX8_move 3 = .ok (.iconst 0, 1) := by decide +kernel
theorem dX8_move_4 : decode cX8_move 4 = .ok (.iconst 0, 1) := by decide +kernel
theorem dX8_move_5 : decode cX8_move 5 = .ok (.invokevirtual 72, 3) := by decide +kernel
theorem dX8_move_8 : decode cX8_move 8 = .ok (.ireturn, 1) := by decide +kernel
theorem dX8_magnetCount_0 : decode cX8_magnetCount 0 = .ok (.aload_n 0, 1) := by decide +kernel
theorem dX8_magnetCount_1 : decode cX8_magnetCount 1 = .ok (.getfield 12, 3) := by decide +kernel
theorem dX8_magnetCount_4 : decode cX8_magnetCount 4 = .ok (.getfield 76, 3) := by decide +kernel
theorem dX8_magnetCount_7 : decode cX8_magnetCount 7 = .ok (.ireturn, 1) := by decide +kernel
theorem dX8_position_0 : decode cX8_position 0 = .ok (.aload_n 0, 1) := by decide +kernel
theorem dX8_position_1 : decode cX8_position 1 = .ok (.iload_n 1, 1) := by decide +kernel
theorem dX8_position_2 : decode cX8_position 2 = .ok (.invokevirtual 79, 3) := by decide +kernel
theorem dX8_position_5 : decode cX8_position 5 = .ok (.aload_n 0, 1) := by decide +kernel
theorem dX8_position_6 : decode cX8_position 6 = .ok (.getfield 12, 3) := by decide +kernel
theorem dX8_position_9 : decode cX8_position 9 = .ok (.getfield 83, 3) := by decide +kernel
theorem dX8_position_12 : decode cX8_position 12 = .ok (.iload_n 1, 1) := by decide +kernel
theorem dX8_position_13 : decode cX8_position 13 = .ok (.iaload, 1) := by decide +kernel
theorem dX8_position_14 : decode cX8_position 14 = .ok (.ireturn, 1) := by decide +kernel
theorem dX8_strength_0 : decode cX8_strength 0 = .ok (.aload_n 0, 1) := by decide +kernel
theorem dX8_strength_1 : decode cX8_strength 1 = .ok (.iload_n 1, 1) := by decide +kernel
theorem dX8_strength_2 : decode cX8_strength 2 = .ok (.invokevirtual 79, 3) := by decide +kernel
theorem dX8_strength_5 : decode cX8_strength 5 = .ok (.aload_n 0, 1) := by decide +kernel
theorem dX8_strength_6 : decode cX8_strength 6 = .ok (.getfield 12, 3) := by decide +kernel
theorem dX8_strength_9 : decode cX8_strength 9 = .ok (.getfield 87, 3) := by decide +kernel
theorem dX8_strength_12 : decode cX8_strength 12 = .ok (.iload_n 1, 1) := by decide +kernel
theorem dX8_strength_13 : decode cX8_strength 13 = .ok (.iaload, 1) := by decide +kernel
theorem dX8_strength_14 : decode cX8_strength 14 = .ok (.ireturn, 1) := by decide +kernel
theorem dX8_pole_0 : decode cX8_pole 0 = .ok (.aload_n 0, 1) := by decide +kernel
theorem dX8_pole_1 : decode cX8_pole 1 = .ok (.iload_n 1, 1) := by decide +kernel
theorem dX8_pole_2 : decode cX8_pole 2 = .ok (.invokevirtual 79, 3) := by decide +kernel
theorem dX8_pole_5 : decode cX8_pole 5 = .ok (.aload_n 0, 1) := by decide +kernel
theorem dX8_pole_6 : decode cX8_pole 6 = .ok (.getfield 12, 3) := by decide +kernel
theorem dX8_pole_9 : decode cX8_pole 9 = .ok (.iload_n 1, 1) := by decide +kernel
theorem dX8_pole_10 : decode cX8_pole 10 = .ok (.invokevirtual 90, 3) := by decide +kernel
theorem dX8_pole_13 : decode cX8_pole 13 = .ok (.ireturn, 1) := by decide +kernel
theorem dX8_magnetAt_0 : decode cX8_magnetAt 0 = .ok (.iload_n 1, 1) := by decide +kernel
theorem dX8_magnetAt_1 : decode cX8_magnetAt 1 = .ok (.invokestatic 94, 3) := by decide +kernel
theorem dX8_magnetAt_4 : decode cX8_magnetAt 4 = .ok (.aload_n 0, 1) := by decide +kernel
theorem dX8_magnetAt_5 : decode cX8_magnetAt 5 = .ok (.getfield 12, 3) := by decide +kernel
theorem dX8_magnetAt_8 : decode cX8_magnetAt 8 = .ok (.iload_n 1, 1) := by decide +kernel
theorem dX8_magnetAt_9 : decode cX8_magnetAt 9 = .ok (.invokevirtual 97, 3) := by decide +kernel
theorem dX8_magnetAt_12 : decode cX8_magnetAt 12 = .ok (.invokestatic 101, 3) := by decide +kernel
theorem dX8_magnetAt_15 : decode cX8_magnetAt 15 = .ok (.ireturn, 1) := by decide +kernel
theorem dX8_magnetByStrength_0 : decode cX8_magnetByStrength 0 = .ok (.aload_n 0, 1) := by decide +kernel
theorem dX8_magnetByStrength_1 : decode cX8_magnetByStrength 1 = .ok (.getfield 12, 3) := by decide +kernel
theorem dX8_magnetByStrength_4 : decode cX8_magnetByStrength 4 = .ok (.iload_n 1, 1) := by decide +kernel
theorem dX8_magnetByStrength_5 : decode cX8_magnetByStrength 5 = .ok (.invokevirtual 104, 3) := by decide +kernel
theorem dX8_magnetByStrength_8 : decode cX8_magnetByStrength 8 = .ok (.invokestatic 101, 3) := by decide +kernel
theorem dX8_magnetByStrength_11 : decode cX8_magnetByStrength 11 = .ok (.ireturn, 1) := by decide +kernel
theorem dX8_dig_0 : decode cX8_dig 0 = .ok (.aload_n 0, 1) := by decide +kernel
theorem dX8_dig_1 : decode cX8_dig 1 = .ok (.iconst 5, 1) := by decide +kernel
theorem dX8_dig_2 : decode cX8_dig 2 = .ok (.iload_n 1, 1) := by decide +kernel
theorem dX8_dig_3 : decode cX8_dig 3 = .ok (.iload_n 2, 1) := by decide +kernel
theorem dX8_dig_4 : decode cX8_dig 4 = .ok (.iconst 0, 1) := by decide +kernel
theorem dX8_dig_5 : decode cX8_dig 5 = .ok (.invokevirtual 72, 3) := by decide +kernel
theorem dX8_dig_8 : decode cX8_dig 8 = .ok (.ireturn, 1) := by decide +kernel
theorem dX8_fill_0 : decode cX8_fill 0 = .ok (.aload_n 0, 1) := by decide +kernel
theorem dX8_fill_1 : decode cX8_fill 1 = .ok (.bipush 6, 2) := by decide +kernel
theorem dX8_fill_3 : decode cX8_fill 3 = .ok (.iload_n 1, 1) := by decide +kernel
theorem dX8_fill_4 : decode cX8_fill 4 = .ok (.iconst 0, 1) := by decide +kernel
theorem dX8_fill_5 : decode cX8_fill 5 = .ok (.iconst 0, 1) := by decide +kernel
theorem dX8_fill_6 : decode cX8_fill 6 = .ok (.invokevirtual 72, 3) := by decide +kernel
theorem dX8_fill_9 : decode cX8_fill 9 = .ok (.ireturn, 1) := by decide +kernel
theorem dX8_settle_0 : decode cX8_settle 0 = .ok (.aload_n 0, 1) := by decide +kernel
theorem dX8_settle_1 : decode cX8_settle 1 = .ok (.bipush 7, 2) := by decide +kernel
theorem dX8_settle_3 : decode cX8_settle 3 = .ok (.iconst 0, 1) := by decide +kernel
theorem dX8_settle_4 : decode cX8_settle 4 = .ok (.iconst 0, 1) := by decide +kernel
theorem dX8_settle_5 : decode cX8_settle 5 = .ok (.iconst 0, 1) := by decide +kernel
theorem dX8_settle_6 : decode cX8_settle 6 = .ok (.invokevirtual 72, 3) := by decide +kernel
theorem dX8_settle_9 : decode cX8_settle 9 = .ok (.ireturn, 1) := by decide +kernel
theorem dX8_tunnelCount_0 : decode cX8_tunnelCount 0 = .ok (.aload_n 0, 1) := by decide +kernel
theorem dX8_tunnelCount_1 : decode cX8_tunnelCount 1 = .ok (.getfield 12, 3) := by decide +kernel
theorem dX8_tunnelCount_4 : decode cX8_tunnelCount 4 = .ok (.getfield 107, 3) := by decide +kernel
theorem dX8_tunnelCount_7 : decode cX8_tunnelCount 7 = .ok (.ireturn, 1) := by decide +kernel
theorem dX8_isOpen_0 : decode cX8_isOpen 0 = .ok (.aload_n 0, 1) := by decide +kernel
theorem dX8_isOpen_1 : decode cX8_isOpen 1 = .ok (.iload_n 1, 1) := by decide +kernel
theorem dX8_isOpen_2 : decode cX8_isOpen 2 = .ok (.invokevirtual 110, 3) := by decide +kernel
theorem dX8_isOpen_5 : decode cX8_isOpen 5 = .ok (.aload_n 0, 1) := by decide +kernel
theorem dX8_isOpen_6 : decode cX8_isOpen 6 = .ok (.getfield 12, 3) := by decide +kernel
theorem dX8_isOpen_9 : decode cX8_isOpen 9 = .ok (.iload_n 1, 1) := by decide +kernel
theorem dX8_isOpen_10 : decode cX8_isOpen 10 = .ok (.invokevirtual 113, 3) := by decide +kernel
theorem dX8_isOpen_13 : decode cX8_isOpen 13 = .ok (.ireturn, 1) := by decide +kernel
theorem dX8_blocked_0 : decode cX8_blocked 0 = .ok (.aload_n 0, 1) := by decide +kernel
theorem dX8_blocked_1 : decode cX8_blocked 1 = .ok (.getfield 12, 3) := by decide +kernel
theorem dX8_blocked_4 : decode cX8_blocked 4 = .ok (.invokevirtual 117, 3) := by decide +kernel
theorem dX8_blocked_7 : decode cX8_blocked 7 = .ok (.ireturn, 1) := by decide +kernel
theorem dX8_parts_0 : decode cX8_parts 0 = .ok (.aload_n 0, 1) := by decide +kernel
theorem dX8_parts_1 : decode cX8_parts 1 = .ok (.getfield 21, 3) := by decide +kernel
theorem dX8_parts_4 : decode cX8_parts 4 = .ok (.iconst (-1), 1) := by decide +kernel
theorem dX8_parts_5 : decode cX8_parts 5 = .ok (.invokevirtual 121, 3) := by decide +kernel
theorem dX8_parts_8 : decode cX8_parts 8 = .ok (.ireturn, 1) := by decide +kernel
theorem dX8_walk_0 : decode cX8_walk 0 = .ok (.aload_n 0, 1) := by decide +kernel
theorem dX8_walk_1 : decode cX8_walk 1 = .ok (.iload_n 1, 1) := by decide +kernel
theorem dX8_walk_2 : decode cX8_walk 2 = .ok (.invokevirtual 79, 3) := by decide +kernel
theorem dX8_walk_5 : decode cX8_walk 5 = .ok (.aload_n 0, 1) := by decide +kernel
theorem dX8_walk_6 : decode cX8_walk 6 = .ok (.iload_n 2, 1) := by decide +kernel
theorem dX8_walk_7 : decode cX8_walk 7 = .ok (.invokevirtual 79, 3) := by decide +kernel
theorem dX8_walk_10 : decode cX8_walk 10 = .ok (.aload_n 0, 1) := by decide +kernel
theorem dX8_walk_11 : decode cX8_walk 11 = .ok (.getfield 21, 3) := by decide +kernel
theorem dX8_walk_14 : decode cX8_walk 14 = .ok (.iload_n 1, 1) := by decide +kernel
theorem dX8_walk_15 : decode cX8_walk 15 = .ok (.iload_n 2, 1) := by decide +kernel
theorem dX8_walk_16 : decode cX8_walk 16 = .ok (.invokevirtual 124, 3) := by decide +kernel
theorem dX8_walk_19 : decode cX8_walk 19 = .ok (.invokestatic 101, 3) := by decide +kernel
theorem dX8_walk_22 : decode cX8_walk 22 = .ok (.ireturn, 1) := by decide +kernel
theorem dX8_bridges_0 : decode cX8_bridges 0 = .ok (.aload_n 0, 1) := by decide +kernel
theorem dX8_bridges_1 : decode cX8_bridges 1 = .ok (.getfield 21, 3) := by decide +kernel
theorem dX8_bridges_4 : decode cX8_bridges 4 = .ok (.invokevirtual 128, 3) := by decide +kernel
theorem dX8_bridges_7 : decode cX8_bridges 7 = .ok (.ireturn, 1) := by decide +kernel
theorem dX8_bridgesByFilling_0 : decode cX8_bridgesByFilling 0 = .ok (.aload_n 0, 1) := by decide +kernel
theorem dX8_bridgesByFilling_1 : decode cX8_bridgesByFilling 1 = .ok (.getfield 21, 3) := by decide +kernel
theorem dX8_bridgesByFilling_4 : decode cX8_bridgesByFilling 4 = .ok (.invokevirtual 131, 3) := by decide +kernel
theorem dX8_bridgesByFilling_7 : decode cX8_bridgesByFilling 7 = .ok (.ireturn, 1) := by decide +kernel
theorem dX8_canSettle_0 : decode cX8_canSettle 0 = .ok (.aload_n 0, 1) := by decide +kernel
theorem dX8_canSettle_1 : decode cX8_canSettle 1 = .ok (.getfield 21, 3) := by decide +kernel
theorem dX8_canSettle_4 : decode cX8_canSettle 4 = .ok (.invokevirtual 134, 3) := by decide +kernel
theorem dX8_canSettle_7 : decode cX8_canSettle 7 = .ok (.iconst (-1), 1) := by decide +kernel
theorem dX8_canSettle_8 : decode cX8_canSettle 8 = .ok (.if_icmp .eq 7, 3) := by decide +kernel
theorem dX8_canSettle_11 : decode cX8_canSettle 11 = .ok (.iconst 1, 1) := by decide +kernel
theorem dX8_canSettle_12 : decode cX8_canSettle 12 = .ok (.goto 4, 3) := by decide +kernel
theorem dX8_canSettle_15 : decode cX8_canSettle 15 = .ok (.iconst 0, 1) := by decide +kernel
theorem dX8_canSettle_16 : decode cX8_canSettle 16 = .ok (.ireturn, 1) := by decide +kernel
theorem dX8_canSettleByUnions_0 : decode cX8_canSettleByUnions 0 = .ok (.aload_n 0, 1) := by decide +kernel
theorem dX8_canSettleByUnions_1 : decode cX8_canSettleByUnions 1 = .ok (.getfield 21, 3) := by decide +kernel
theorem dX8_canSettleByUnions_4 : decode cX8_canSettleByUnions 4 = .ok (.invokevirtual 137, 3) := by decide +kernel
theorem dX8_canSettleByUnions_7 : decode cX8_canSettleByUnions 7 = .ok (.ireturn, 1) := by decide +kernel
theorem dX8_fewestTurns_0 : decode cX8_fewestTurns 0 = .ok (.aload_n 0, 1) := by decide +kernel
theorem dX8_fewestTurns_1 : decode cX8_fewestTurns 1 = .ok (.getfield 21, 3) := by decide +kernel
theorem dX8_fewestTurns_4 : decode cX8_fewestTurns 4 = .ok (.invokevirtual 141, 3) := by decide +kernel
theorem dX8_fewestTurns_7 : decode cX8_fewestTurns 7 = .ok (.invokestatic 101, 3) := by decide +kernel
theorem dX8_fewestTurns_10 : decode cX8_fewestTurns 10 = .ok (.ireturn, 1) := by decide +kernel
theorem dX8_fewestTurnsBySets_0 : decode cX8_fewestTurnsBySets 0 = .ok (.aload_n 0, 1) := by decide +kernel
theorem dX8_fewestTurnsBySets_1 : decode cX8_fewestTurnsBySets 1 = .ok (.getfield 21, 3) := by decide +kernel
theorem dX8_fewestTurnsBySets_4 : decode cX8_fewestTurnsBySets 4 = .ok (.invokevirtual 144, 3) := by decide +kernel
theorem dX8_fewestTurnsBySets_7 : decode cX8_fewestTurnsBySets 7 = .ok (.invokestatic 101, 3) := by decide +kernel
theorem dX8_fewestTurnsBySets_10 : decode cX8_fewestTurnsBySets 10 = .ok (.ireturn, 1) := by decide +kernel
theorem dX8_leastBlocked_0 : decode cX8_leastBlocked 0 = .ok (.aload_n 0, 1) := by decide +kernel
theorem dX8_leastBlocked_1 : decode cX8_leastBlocked 1 = .ok (.getfield 21, 3) := by decide +kernel
theorem dX8_leastBlocked_4 : decode cX8_leastBlocked 4 = .ok (.invokevirtual 147, 3) := by decide +kernel
theorem dX8_leastBlocked_7 : decode cX8_leastBlocked 7 = .ok (.ireturn, 1) := by decide +kernel
theorem dX8_leastBlockedByBounds_0 : decode cX8_leastBlockedByBounds 0 = .ok (.aload_n 0, 1) := by decide +kernel
theorem dX8_leastBlockedByBounds_1 : decode cX8_leastBlockedByBounds 1 = .ok (.getfield 21, 3) := by decide +kernel
theorem dX8_leastBlockedByBounds_4 : decode cX8_leastBlockedByBounds 4 = .ok (.invokevirtual 150, 3) := by decide +kernel
theorem dX8_leastBlockedByBounds_7 : decode cX8_leastBlockedByBounds 7 = .ok (.ireturn, 1) := by decide +kernel
theorem dX8_force_0 : decode cX8_force 0 = .ok (.aload_n 0, 1) := by decide +kernel
theorem dX8_force_1 : decode cX8_force 1 = .ok (.iload_n 1, 1) := by decide +kernel
theorem dX8_force_2 : decode cX8_force 2 = .ok (.invokevirtual 79, 3) := by decide +kernel
theorem dX8_force_5 : decode cX8_force 5 = .ok (.aload_n 0, 1) := by decide +kernel
theorem dX8_force_6 : decode cX8_force 6 = .ok (.getfield 28, 3) := by decide +kernel
theorem dX8_force_9 : decode cX8_force 9 = .ok (.iload_n 1, 1) := by decide +kernel
theorem dX8_force_10 : decode cX8_force 10 = .ok (.invokevirtual 153, 3) := by decide +kernel
theorem dX8_force_13 : decode cX8_force 13 = .ok (.freturn, 1) := by decide +kernel
theorem dX8_wholeForce_0 : decode cX8_wholeForce 0 = .ok (.aload_n 0, 1) := by decide +kernel
theorem dX8_wholeForce_1 : decode cX8_wholeForce 1 = .ok (.iload_n 1, 1) := by decide +kernel
theorem dX8_wholeForce_2 : decode cX8_wholeForce 2 = .ok (.invokevirtual 79, 3) := by decide +kernel
theorem dX8_wholeForce_5 : decode cX8_wholeForce 5 = .ok (.aload_n 0, 1) := by decide +kernel
theorem dX8_wholeForce_6 : decode cX8_wholeForce 6 = .ok (.getfield 28, 3) := by decide +kernel
theorem dX8_wholeForce_9 : decode cX8_wholeForce 9 = .ok (.iload_n 1, 1) := by decide +kernel
theorem dX8_wholeForce_10 : decode cX8_wholeForce 10 = .ok (.invokevirtual 153, 3) := by decide +kernel
theorem dX8_wholeForce_13 : decode cX8_wholeForce 13 = .ok (.f2i, 1) := by decide +kernel
theorem dX8_wholeForce_14 : decode cX8_wholeForce 14 = .ok (.ireturn, 1) := by decide +kernel
theorem dX8_field_0 : decode cX8_field 0 = .ok (.iload_n 1, 1) := by decide +kernel
theorem dX8_field_1 : decode cX8_field 1 = .ok (.invokestatic 94, 3) := by decide +kernel
theorem dX8_field_4 : decode cX8_field 4 = .ok (.aload_n 0, 1) := by decide +kernel
theorem dX8_field_5 : decode cX8_field 5 = .ok (.getfield 28, 3) := by decide +kernel
theorem dX8_field_8 : decode cX8_field 8 = .ok (.iload_n 1, 1) := by decide +kernel
theorem dX8_field_9 : decode cX8_field 9 = .ok (.invokevirtual 157, 3) := by decide +kernel
theorem dX8_field_12 : decode cX8_field 12 = .ok (.dreturn, 1) := by decide +kernel
theorem dX8_strongestPosition_0 : decode cX8_strongestPosition 0 = .ok (.aload_n 0, 1) := by decide +kernel
theorem dX8_strongestPosition_1 : decode cX8_strongestPosition 1 = .ok (.getfield 28, 3) := by decide +kernel
theorem dX8_strongestPosition_4 : decode cX8_strongestPosition 4 = .ok (.invokevirtual 161, 3) := by decide +kernel
theorem dX8_strongestPosition_7 : decode cX8_strongestPosition 7 = .ok (.invokestatic 101, 3) := by decide +kernel
theorem dX8_strongestPosition_10 : decode cX8_strongestPosition 10 = .ok (.ireturn, 1) := by decide +kernel
theorem dX8_queen_0 : decode cX8_queen 0 = .ok (.aload_n 0, 1) := by decide +kernel
theorem dX8_queen_1 : decode cX8_queen 1 = .ok (.getfield 28, 3) := by decide +kernel
theorem dX8_queen_4 : decode cX8_queen 4 = .ok (.invokevirtual 164, 3) := by decide +kernel
theorem dX8_queen_7 : decode cX8_queen 7 = .ok (.invokestatic 101, 3) := by decide +kernel
theorem dX8_queen_10 : decode cX8_queen 10 = .ok (.ireturn, 1) := by decide +kernel
theorem dX8_meanStrength_0 : decode cX8_meanStrength 0 = .ok (.aload_n 0, 1) := by decide +kernel
theorem dX8_meanStrength_1 : decode cX8_meanStrength 1 = .ok (.getfield 12, 3) := by decide +kernel
theorem dX8_meanStrength_4 : decode cX8_meanStrength 4 = .ok (.getfield 76, 3) := by decide +kernel
theorem dX8_meanStrength_7 : decode cX8_meanStrength 7 = .ok (.ifCond .ne 13, 3) := by decide +kernel
theorem dX8_meanStrength_10 : decode cX8_meanStrength 10 = .ok (.new 167, 3) := by decide +kernel
theorem dX8_meanStrength_13 : decode cX8_meanStrength 13 = .ok (.dup, 1) := by decide +kernel
theorem dX8_meanStrength_14 : decode cX8_meanStrength 14 = .ok (.ldc 169, 2) := by decide +kernel
theorem dX8_meanStrength_16 : decode cX8_meanStrength 16 = .ok (.invokespecial 171, 3) := by decide +kernel
theorem dX8_meanStrength_19 : decode cX8_meanStrength 19 = .ok (.athrow, 1) := by decide +kernel
theorem dX8_meanStrength_20 : decode cX8_meanStrength 20 = .ok (.aload_n 0, 1) := by decide +kernel
theorem dX8_meanStrength_21 : decode cX8_meanStrength 21 = .ok (.getfield 12, 3) := by decide +kernel
theorem dX8_meanStrength_24 : decode cX8_meanStrength 24 = .ok (.invokevirtual 174, 3) := by decide +kernel
theorem dX8_meanStrength_27 : decode cX8_meanStrength 27 = .ok (.i2d, 1) := by decide +kernel
theorem dX8_meanStrength_28 : decode cX8_meanStrength 28 = .ok (.aload_n 0, 1) := by decide +kernel
theorem dX8_meanStrength_29 : decode cX8_meanStrength 29 = .ok (.getfield 12, 3) := by decide +kernel
theorem dX8_meanStrength_32 : decode cX8_meanStrength 32 = .ok (.getfield 76, 3) := by decide +kernel
theorem dX8_meanStrength_35 : decode cX8_meanStrength 35 = .ok (.i2d, 1) := by decide +kernel
theorem dX8_meanStrength_36 : decode cX8_meanStrength 36 = .ok (.ddiv, 1) := by decide +kernel
theorem dX8_meanStrength_37 : decode cX8_meanStrength 37 = .ok (.dreturn, 1) := by decide +kernel
theorem dX8_openShare_0 : decode cX8_openShare 0 = .ok (.aload_n 0, 1) := by decide +kernel
theorem dX8_openShare_1 : decode cX8_openShare 1 = .ok (.getfield 12, 3) := by decide +kernel
theorem dX8_openShare_4 : decode cX8_openShare 4 = .ok (.getfield 107, 3) := by decide +kernel
theorem dX8_openShare_7 : decode cX8_openShare 7 = .ok (.ifCond .ne 13, 3) := by decide +kernel
theorem dX8_openShare_10 : decode cX8_openShare 10 = .ok (.new 167, 3) := by decide +kernel
theorem dX8_openShare_13 : decode cX8_openShare 13 = .ok (.dup, 1) := by decide +kernel
theorem dX8_openShare_14 : decode cX8_openShare 14 = .ok (.ldc 177, 2) := by decide +kernel
theorem dX8_openShare_16 : decode cX8_openShare 16 = .ok (.invokespecial 171, 3) := by decide +kernel
theorem dX8_openShare_19 : decode cX8_openShare 19 = .ok (.athrow, 1) := by decide +kernel
theorem dX8_openShare_20 : decode cX8_openShare 20 = .ok (.aload_n 0, 1) := by decide +kernel
theorem dX8_openShare_21 : decode cX8_openShare 21 = .ok (.getfield 12, 3) := by decide +kernel
theorem dX8_openShare_24 : decode cX8_openShare 24 = .ok (.getfield 107, 3) := by decide +kernel
theorem dX8_openShare_27 : decode cX8_openShare 27 = .ok (.aload_n 0, 1) := by decide +kernel
theorem dX8_openShare_28 : decode cX8_openShare 28 = .ok (.getfield 12, 3) := by decide +kernel
theorem dX8_openShare_31 : decode cX8_openShare 31 = .ok (.invokevirtual 117, 3) := by decide +kernel
theorem dX8_openShare_34 : decode cX8_openShare 34 = .ok (.isub, 1) := by decide +kernel
theorem dX8_openShare_35 : decode cX8_openShare 35 = .ok (.i2f, 1) := by decide +kernel
theorem dX8_openShare_36 : decode cX8_openShare 36 = .ok (.aload_n 0, 1) := by decide +kernel
theorem dX8_openShare_37 : decode cX8_openShare 37 = .ok (.getfield 12, 3) := by decide +kernel
theorem dX8_openShare_40 : decode cX8_openShare 40 = .ok (.getfield 107, 3) := by decide +kernel
theorem dX8_openShare_43 : decode cX8_openShare 43 = .ok (.i2f, 1) := by decide +kernel
theorem dX8_openShare_44 : decode cX8_openShare 44 = .ok (.fdiv, 1) := by decide +kernel
theorem dX8_openShare_45 : decode cX8_openShare 45 = .ok (.freturn, 1) := by decide +kernel
theorem dX8_turnTotal_0 : decode cX8_turnTotal 0 = .ok (.aload_n 0, 1) := by decide +kernel
theorem dX8_turnTotal_1 : decode cX8_turnTotal 1 = .ok (.getfield 12, 3) := by decide +kernel
theorem dX8_turnTotal_4 : decode cX8_turnTotal 4 = .ok (.getfield 179, 3) := by decide +kernel
theorem dX8_turnTotal_7 : decode cX8_turnTotal 7 = .ok (.ireturn, 1) := by decide +kernel
theorem dX8_turnsOf_0 : decode cX8_turnsOf 0 = .ok (.aload_n 0, 1) := by decide +kernel
theorem dX8_turnsOf_1 : decode cX8_turnsOf 1 = .ok (.iload_n 1, 1) := by decide +kernel
theorem dX8_turnsOf_2 : decode cX8_turnsOf 2 = .ok (.invokevirtual 79, 3) := by decide +kernel
theorem dX8_turnsOf_5 : decode cX8_turnsOf 5 = .ok (.aload_n 0, 1) := by decide +kernel
theorem dX8_turnsOf_6 : decode cX8_turnsOf 6 = .ok (.getfield 12, 3) := by decide +kernel
theorem dX8_turnsOf_9 : decode cX8_turnsOf 9 = .ok (.getfield 182, 3) := by decide +kernel
theorem dX8_turnsOf_12 : decode cX8_turnsOf 12 = .ok (.iload_n 1, 1) := by decide +kernel
theorem dX8_turnsOf_13 : decode cX8_turnsOf 13 = .ok (.iaload, 1) := by decide +kernel
theorem dX8_turnsOf_14 : decode cX8_turnsOf 14 = .ok (.ireturn, 1) := by decide +kernel
theorem dX8_moved_0 : decode cX8_moved 0 = .ok (.aload_n 0, 1) := by decide +kernel
theorem dX8_moved_1 : decode cX8_moved 1 = .ok (.getfield 12, 3) := by decide +kernel
theorem dX8_moved_4 : decode cX8_moved 4 = .ok (.getfield 185, 3) := by decide +kernel
theorem dX8_moved_7 : decode cX8_moved 7 = .ok (.ireturn, 1) := by decide +kernel
theorem dX8_feed_0 : decode cX8_feed 0 = .ok (.aload_n 0, 1) := by decide +kernel
theorem dX8_feed_1 : decode cX8_feed 1 = .ok (.getfield 57, 3) := by decide +kernel
theorem dX8_feed_4 : decode cX8_feed 4 = .ok (.invokevirtual 188, 3) := by decide +kernel
theorem dX8_feed_7 : decode cX8_feed 7 = .ok (.ifCond .ne 13, 3) := by decide +kernel
theorem dX8_feed_10 : decode cX8_feed 10 = .ok (.new 191, 3) := by decide +kernel
theorem dX8_feed_13 : decode cX8_feed 13 = .ok (.dup, 1) := by decide +kernel
theorem dX8_feed_14 : decode cX8_feed 14 = .ok (.ldc 193, 2) := by decide +kernel
theorem dX8_feed_16 : decode cX8_feed 16 = .ok (.invokespecial 195, 3) := by decide +kernel
theorem dX8_feed_19 : decode cX8_feed 19 = .ok (.athrow, 1) := by decide +kernel
theorem dX8_feed_20 : decode cX8_feed 20 = .ok (.aload_n 0, 1) := by decide +kernel
theorem dX8_feed_21 : decode cX8_feed 21 = .ok (.getfield 57, 3) := by decide +kernel
theorem dX8_feed_24 : decode cX8_feed 24 = .ok (.iload_n 1, 1) := by decide +kernel
theorem dX8_feed_25 : decode cX8_feed 25 = .ok (.invokevirtual 196, 3) := by decide +kernel
theorem dX8_feed_28 : decode cX8_feed 28 = .ok (.aload_n 0, 1) := by decide +kernel
theorem dX8_feed_29 : decode cX8_feed 29 = .ok (.getfield 57, 3) := by decide +kernel
theorem dX8_feed_32 : decode cX8_feed 32 = .ok (.getfield 200, 3) := by decide +kernel
theorem dX8_feed_35 : decode cX8_feed 35 = .ok (.ireturn, 1) := by decide +kernel
theorem dX8_execute_0 : decode cX8_execute 0 = .ok (.aload_n 0, 1) := by decide +kernel
theorem dX8_execute_1 : decode cX8_execute 1 = .ok (.getfield 57, 3) := by decide +kernel
theorem dX8_execute_4 : decode cX8_execute 4 = .ok (.invokevirtual 203, 3) := by decide +kernel
theorem dX8_execute_7 : decode cX8_execute 7 = .ok (.istore_n 1, 1) := by decide +kernel
theorem dX8_execute_8 : decode cX8_execute 8 = .ok (.aload_n 0, 1) := by decide +kernel
theorem dX8_execute_9 : decode cX8_execute 9 = .ok (.getfield 57, 3) := by decide +kernel
theorem dX8_execute_12 : decode cX8_execute 12 = .ok (.invokevirtual 206, 3) := by decide +kernel
theorem dX8_execute_15 : decode cX8_execute 15 = .ok (.iload_n 1, 1) := by decide +kernel
theorem dX8_execute_16 : decode cX8_execute 16 = .ok (.ifCond .ne 24, 3) := by decide +kernel
theorem dX8_execute_19 : decode cX8_execute 19 = .ok (.aload_n 0, 1) := by decide +kernel
theorem dX8_execute_20 : decode cX8_execute 20 = .ok (.aload_n 0, 1) := by decide +kernel
theorem dX8_execute_21 : decode cX8_execute 21 = .ok (.getfield 57, 3) := by decide +kernel
theorem dX8_execute_24 : decode cX8_execute 24 = .ok (.getfield 209, 3) := by decide +kernel
theorem dX8_execute_27 : decode cX8_execute 27 = .ok (.putfield 68, 3) := by decide +kernel
theorem dX8_execute_30 : decode cX8_execute 30 = .ok (.new 212, 3) := by decide +kernel
theorem dX8_execute_33 : decode cX8_execute 33 = .ok (.dup, 1) := by decide +kernel
theorem dX8_execute_34 : decode cX8_execute 34 = .ok (.ldc 214, 2) := by decide +kernel
theorem dX8_execute_36 : decode cX8_execute 36 = .ok (.invokespecial 216, 3) := by decide +kernel
theorem dX8_execute_39 : decode cX8_execute 39 = .ok (.athrow, 1) := by decide +kernel
theorem dX8_execute_40 : decode cX8_execute 40 = .ok (.aload_n 0, 1) := by decide +kernel
theorem dX8_execute_41 : decode cX8_execute 41 = .ok (.getfield 48, 3) := by decide +kernel
theorem dX8_execute_44 : decode cX8_execute 44 = .ok (.aload_n 0, 1) := by decide +kernel
theorem dX8_execute_45 : decode cX8_execute 45 = .ok (.getfield 12, 3) := by decide +kernel
theorem dX8_execute_48 : decode cX8_execute 48 = .ok (.invokevirtual 217, 3) := by decide +kernel
theorem dX8_execute_51 : decode cX8_execute 51 = .ok (.iconst 0, 1) := by decide +kernel
theorem dX8_execute_52 : decode cX8_execute 52 = .ok (.istore_n 2, 1) := by decide +kernel
theorem dX8_execute_53 : decode cX8_execute 53 = .ok (.iload_n 2, 1) := by decide +kernel
theorem dX8_execute_54 : decode cX8_execute 54 = .ok (.aload_n 0, 1) := by decide +kernel
theorem dX8_execute_55 : decode cX8_execute 55 = .ok (.getfield 57, 3) := by decide +kernel
theorem dX8_execute_58 : decode cX8_execute 58 = .ok (.getfield 220, 3) := by decide +kernel
theorem dX8_execute_61 : decode cX8_execute 61 = .ok (.if_icmp .ge 102, 3) := by decide +kernel
theorem dX8_execute_64 : decode cX8_execute 64 = .ok (.aload_n 0, 1) := by decide +kernel
theorem dX8_execute_65 : decode cX8_execute 65 = .ok (.getfield 57, 3) := by decide +kernel
theorem dX8_execute_68 : decode cX8_execute 68 = .ok (.getfield 223, 3) := by decide +kernel
theorem dX8_execute_71 : decode cX8_execute 71 = .ok (.iload_n 2, 1) := by decide +kernel
theorem dX8_execute_72 : decode cX8_execute 72 = .ok (.aaload, 1) := by decide +kernel
theorem dX8_execute_73 : decode cX8_execute 73 = .ok (.astore_n 3, 1) := by decide +kernel
theorem dX8_execute_74 : decode cX8_execute 74 = .ok (.aload_n 0, 1) := by decide +kernel
theorem dX8_execute_75 : decode cX8_execute 75 = .ok (.getfield 37, 3) := by decide +kernel
theorem dX8_execute_78 : decode cX8_execute 78 = .ok (.aload_n 3, 1) := by decide +kernel
theorem dX8_execute_79 : decode cX8_execute 79 = .ok (.getfield 227, 3) := by decide +kernel
theorem dX8_execute_82 : decode cX8_execute 82 = .ok (.aload_n 3, 1) := by decide +kernel
theorem dX8_execute_83 : decode cX8_execute 83 = .ok (.getfield 232, 3) := by decide +kernel
theorem dX8_execute_86 : decode cX8_execute 86 = .ok (.aload_n 3, 1) := by decide +kernel
theorem dX8_execute_87 : decode cX8_execute 87 = .ok (.getfield 235, 3) := by decide +kernel
theorem dX8_execute_90 : decode cX8_execute 90 = .ok (.invokevirtual 238, 3) := by decide +kernel
theorem dX8_execute_93 : decode cX8_execute 93 = .ok (.istore 4, 2) := by decide +kernel
theorem dX8_execute_95 : decode cX8_execute 95 = .ok (.iload 4, 2) := by decide +kernel
theorem dX8_execute_97 : decode cX8_execute 97 = .ok (.ifCond .eq 36, 3) := by decide +kernel
theorem dX8_execute_100 : decode cX8_execute 100 = .ok (.aload_n 0, 1) := by decide +kernel
theorem dX8_execute_101 : decode cX8_execute 101 = .ok (.getfield 12, 3) := by decide +kernel
theorem dX8_execute_104 : decode cX8_execute 104 = .ok (.aload_n 0, 1) := by decide +kernel
theorem dX8_execute_105 : decode cX8_execute 105 = .ok (.getfield 48, 3) := by decide +kernel
theorem dX8_execute_108 : decode cX8_execute 108 = .ok (.invokevirtual 217, 3) := by decide +kernel
theorem dX8_execute_111 : decode cX8_execute 111 = .ok (.aload_n 0, 1) := by decide +kernel
theorem dX8_execute_112 : decode cX8_execute 112 = .ok (.bipush 6, 2) := by decide +kernel
theorem dX8_execute_114 : decode cX8_execute 114 = .ok (.iload_n 2, 1) := by decide +kernel
theorem dX8_execute_115 : decode cX8_execute 115 = .ok (.iload 4, 2) := by decide +kernel
theorem dX8_execute_117 : decode cX8_execute 117 = .ok (.invokestatic 242, 3) := by decide +kernel
theorem dX8_execute_120 : decode cX8_execute 120 = .ok (.invokevirtual 245, 3) := by decide +kernel
theorem dX8_execute_123 : decode cX8_execute 123 = .ok (.new 249, 3) := by decide +kernel
theorem dX8_execute_126 : decode cX8_execute 126 = .ok (.dup, 1) := by decide +kernel
theorem dX8_execute_127 : decode cX8_execute 127 = .ok (.ldc 251, 2) := by decide +kernel
theorem dX8_execute_129 : decode cX8_execute 129 = .ok (.invokespecial 253, 3) := by decide +kernel
theorem dX8_execute_132 : decode cX8_execute 132 = .ok (.athrow, 1) := by decide +kernel
theorem dX8_execute_133 : decode cX8_execute 133 = .ok (.aload_n 0, 1) := by decide +kernel
theorem dX8_execute_134 : decode cX8_execute 134 = .ok (.getfield 37, 3) := by decide +kernel
theorem dX8_execute_137 : decode cX8_execute 137 = .ok (.aload_n 3, 1) := by decide +kernel
theorem dX8_execute_138 : decode cX8_execute 138 = .ok (.getfield 227, 3) := by decide +kernel
theorem dX8_execute_141 : decode cX8_execute 141 = .ok (.aload_n 3, 1) := by decide +kernel
theorem dX8_execute_142 : decode cX8_execute 142 = .ok (.getfield 232, 3) := by decide +kernel
theorem dX8_execute_145 : decode cX8_execute 145 = .ok (.aload_n 3, 1) := by decide +kernel
theorem dX8_execute_146 : decode cX8_execute 146 = .ok (.getfield 235, 3) := by decide +kernel
theorem dX8_execute_149 : decode cX8_execute 149 = .ok (.aload_n 3, 1) := by decide +kernel
theorem dX8_execute_150 : decode cX8_execute 150 = .ok (.getfield 254, 3) := by decide +kernel
theorem dX8_execute_153 : decode cX8_execute 153 = .ok (.invokevirtual 257, 3) := by decide +kernel
theorem dX8_execute_156 : decode cX8_execute 156 = .ok (.pop, 1) := by decide +kernel
theorem dX8_execute_157 : decode cX8_execute 157 = .ok (.iinc 2 1, 3) := by decide +kernel
theorem dX8_execute_160 : decode cX8_execute 160 = .ok (.goto (-107), 3) := by decide +kernel
theorem dX8_execute_163 : decode cX8_execute 163 = .ok (.aload_n 0, 1) := by decide +kernel
theorem dX8_execute_164 : decode cX8_execute 164 = .ok (.getfield 44, 3) := by decide +kernel
theorem dX8_execute_167 : decode cX8_execute 167 = .ok (.aload_n 0, 1) := by decide +kernel
theorem dX8_execute_168 : decode cX8_execute 168 = .ok (.getfield 48, 3) := by decide +kernel
theorem dX8_execute_171 : decode cX8_execute 171 = .ok (.invokevirtual 260, 3) := by decide +kernel
theorem dX8_execute_174 : decode cX8_execute 174 = .ok (.aload_n 0, 1) := by decide +kernel
theorem dX8_execute_175 : decode cX8_execute 175 = .ok (.getfield 57, 3) := by decide +kernel
theorem dX8_execute_178 : decode cX8_execute 178 = .ok (.getfield 220, 3) := by decide +kernel
theorem dX8_execute_181 : decode cX8_execute 181 = .ok (.ireturn, 1) := by decide +kernel
theorem dX8_faultPosition_0 : decode cX8_faultPosition 0 = .ok (.aload_n 0, 1) := by decide +kernel
theorem dX8_faultPosition_1 : decode cX8_faultPosition 1 = .ok (.getfield 68, 3) := by decide +kernel
theorem dX8_faultPosition_4 : decode cX8_faultPosition 4 = .ok (.invokestatic 101, 3) := by decide +kernel
theorem dX8_faultPosition_7 : decode cX8_faultPosition 7 = .ok (.ireturn, 1) := by decide +kernel
theorem dX8_writeMagnet_0 : decode cX8_writeMagnet 0 = .ok (.aload_n 0, 1) := by decide +kernel
theorem dX8_writeMagnet_1 : decode cX8_writeMagnet 1 = .ok (.iload_n 1, 1) := by decide +kernel
theorem dX8_writeMagnet_2 : decode cX8_writeMagnet 2 = .ok (.invokevirtual 79, 3) := by decide +kernel
theorem dX8_writeMagnet_5 : decode cX8_writeMagnet 5 = .ok (.aload_n 0, 1) := by decide +kernel
theorem dX8_writeMagnet_6 : decode cX8_writeMagnet 6 = .ok (.getfield 64, 3) := by decide +kernel
theorem dX8_writeMagnet_9 : decode cX8_writeMagnet 9 = .ok (.aload_n 0, 1) := by decide +kernel
theorem dX8_writeMagnet_10 : decode cX8_writeMagnet 10 = .ok (.getfield 12, 3) := by decide +kernel
theorem dX8_writeMagnet_13 : decode cX8_writeMagnet 13 = .ok (.iload_n 1, 1) := by decide +kernel
theorem dX8_writeMagnet_14 : decode cX8_writeMagnet 14 = .ok (.invokevirtual 263, 3) := by decide +kernel
theorem dX8_writeMagnet_17 : decode cX8_writeMagnet 17 = .ok (.aload_n 0, 1) := by decide +kernel
theorem dX8_writeMagnet_18 : decode cX8_writeMagnet 18 = .ok (.getfield 64, 3) := by decide +kernel
theorem dX8_writeMagnet_21 : decode cX8_writeMagnet 21 = .ok (.getfield 267, 3) := by decide +kernel
theorem dX8_writeMagnet_24 : decode cX8_writeMagnet 24 = .ok (.ireturn, 1) := by decide +kernel
theorem dX8_lineCharacter_0 : decode cX8_lineCharacter 0 = .ok (.iload_n 1, 1) := by decide +kernel
theorem dX8_lineCharacter_1 : decode cX8_lineCharacter 1 = .ok (.ifCond .lt 14, 3) := by decide +kernel
theorem dX8_lineCharacter_4 : decode cX8_lineCharacter 4 = .ok (.iload_n 1, 1) := by decide +kernel
theorem dX8_lineCharacter_5 : decode cX8_lineCharacter 5 = .ok (.aload_n 0, 1) := by decide +kernel
theorem dX8_lineCharacter_6 : decode cX8_lineCharacter 6 = .ok (.getfield 64, 3) := by decide +kernel
theorem dX8_lineCharacter_9 : decode cX8_lineCharacter 9 = .ok (.getfield 267, 3) := by decide +kernel
theorem dX8_lineCharacter_12 : decode cX8_lineCharacter 12 = .ok (.if_icmp .lt 14, 3) := by decide +kernel
theorem dX8_lineCharacter_15 : decode cX8_lineCharacter 15 = .ok (.new 268, 3) := by decide +kernel
theorem dX8_lineCharacter_18 : decode cX8_lineCharacter 18 = .ok (.dup, 1) := by decide +kernel
theorem dX8_lineCharacter_19 : decode cX8_lineCharacter 19 = .ok (.ldc_w 270, 3) := by decide +kernel
theorem dX8_lineCharacter_22 : decode cX8_lineCharacter 22 = .ok (.invokespecial 272, 3) := by decide +kernel
theorem dX8_lineCharacter_25 : decode cX8_lineCharacter 25 = .ok (.athrow, 1) := by decide +kernel
theorem dX8_lineCharacter_26 : decode cX8_lineCharacter 26 = .ok (.aload_n 0, 1) := by decide +kernel
theorem dX8_lineCharacter_27 : decode cX8_lineCharacter 27 = .ok (.getfield 64, 3) := by decide +kernel
theorem dX8_lineCharacter_30 : decode cX8_lineCharacter 30 = .ok (.getfield 273, 3) := by decide +kernel
theorem dX8_lineCharacter_33 : decode cX8_lineCharacter 33 = .ok (.iload_n 1, 1) := by decide +kernel
theorem dX8_lineCharacter_34 : decode cX8_lineCharacter 34 = .ok (.caload, 1) := by decide +kernel
theorem dX8_lineCharacter_35 : decode cX8_lineCharacter 35 = .ok (.ireturn, 1) := by decide +kernel
theorem dX8_denial_0 : decode cX8_denial 0 = .ok (.aload_n 0, 1) := by decide +kernel
theorem dX8_denial_1 : decode cX8_denial 1 = .ok (.invokevirtual 277, 3) := by decide +kernel
theorem dX8_denial_4 : decode cX8_denial 4 = .ok (.aload_n 0, 1) := by decide +kernel
theorem dX8_denial_5 : decode cX8_denial 5 = .ok (.getfield 280, 3) := by decide +kernel
theorem dX8_denial_8 : decode cX8_denial 8 = .ok (.ireturn, 1) := by decide +kernel
theorem dX8_denialDetail_0 : decode cX8_denialDetail 0 = .ok (.aload_n 0, 1) := by decide +kernel
theorem dX8_denialDetail_1 : decode cX8_denialDetail 1 = .ok (.invokevirtual 277, 3) := by decide +kernel
theorem dX8_denialDetail_4 : decode cX8_denialDetail 4 = .ok (.aload_n 0, 1) := by decide +kernel
theorem dX8_denialDetail_5 : decode cX8_denialDetail 5 = .ok (.getfield 283, 3) := by decide +kernel
theorem dX8_denialDetail_8 : decode cX8_denialDetail 8 = .ok (.ireturn, 1) := by decide +kernel
theorem dX8_denialCause_0 : decode cX8_denialCause 0 = .ok (.aload_n 0, 1) := by decide +kernel
theorem dX8_denialCause_1 : decode cX8_denialCause 1 = .ok (.getfield 286, 3) := by decide +kernel
theorem dX8_denialCause_4 : decode cX8_denialCause 4 = .ok (.ifCond .ne 14, 3) := by decide +kernel
theorem dX8_denialCause_7 : decode cX8_denialCause 7 = .ok (.new 289, 3) := by decide +kernel
theorem dX8_denialCause_10 : decode cX8_denialCause 10 = .ok (.dup, 1) := by decide +kernel
theorem dX8_denialCause_11 : decode cX8_denialCause 11 = .ok (.ldc_w 291, 3) := by decide +kernel
theorem dX8_denialCause_14 : decode cX8_denialCause 14 = .ok (.invokespecial 293, 3) := by decide +kernel
theorem dX8_denialCause_17 : decode cX8_denialCause 17 = .ok (.athrow, 1) := by decide +kernel
theorem dX8_denialCause_18 : decode cX8_denialCause 18 = .ok (.aload_n 0, 1) := by decide +kernel
theorem dX8_denialCause_19 : decode cX8_denialCause 19 = .ok (.getfield 286, 3) := by decide +kernel
theorem dX8_denialCause_22 : decode cX8_denialCause 22 = .ok (.ireturn, 1) := by decide +kernel
theorem dX8_undo_0 : decode cX8_undo 0 = .ok (.aload_n 0, 1) := by decide +kernel
theorem dX8_undo_1 : decode cX8_undo 1 = .ok (.getfield 44, 3) := by decide +kernel
theorem dX8_undo_4 : decode cX8_undo 4 = .ok (.getfield 294, 3) := by decide +kernel
theorem dX8_undo_7 : decode cX8_undo 7 = .ok (.ifCond .ne 14, 3) := by decide +kernel
theorem dX8_undo_10 : decode cX8_undo 10 = .ok (.new 191, 3) := by decide +kernel
theorem dX8_undo_13 : decode cX8_undo 13 = .ok (.dup, 1) := by decide +kernel
theorem dX8_undo_14 : decode cX8_undo 14 = .ok (.ldc_w 297, 3) := by decide +kernel
theorem dX8_undo_17 : decode cX8_undo 17 = .ok (.invokespecial 195, 3) := by decide +kernel
theorem dX8_undo_20 : decode cX8_undo 20 = .ok (.athrow, 1) := by decide +kernel
theorem dX8_undo_21 : decode cX8_undo 21 = .ok (.aload_n 0, 1) := by decide +kernel
theorem dX8_undo_22 : decode cX8_undo 22 = .ok (.getfield 44, 3) := by decide +kernel
theorem dX8_undo_25 : decode cX8_undo 25 = .ok (.aload_n 0, 1) := by decide +kernel
theorem dX8_undo_26 : decode cX8_undo 26 = .ok (.getfield 12, 3) := by decide +kernel
theorem dX8_undo_29 : decode cX8_undo 29 = .ok (.invokevirtual 299, 3) := by decide +kernel
theorem dX8_undo_32 : decode cX8_undo 32 = .ok (.aload_n 0, 1) := by decide +kernel
theorem dX8_undo_33 : decode cX8_undo 33 = .ok (.getfield 44, 3) := by decide +kernel
theorem dX8_undo_36 : decode cX8_undo 36 = .ok (.getfield 294, 3) := by decide +kernel
theorem dX8_undo_39 : decode cX8_undo 39 = .ok (.ireturn, 1) := by decide +kernel
theorem dX8_undoCount_0 : decode cX8_undoCount 0 = .ok (.aload_n 0, 1) := by decide +kernel
theorem dX8_undoCount_1 : decode cX8_undoCount 1 = .ok (.getfield 44, 3) := by decide +kernel
theorem dX8_undoCount_4 : decode cX8_undoCount 4 = .ok (.getfield 294, 3) := by decide +kernel
theorem dX8_undoCount_7 : decode cX8_undoCount 7 = .ok (.ireturn, 1) := by decide +kernel
theorem dX8_saveSnapshot_0 : decode cX8_saveSnapshot 0 = .ok (.aload_n 0, 1) := by decide +kernel
theorem dX8_saveSnapshot_1 : decode cX8_saveSnapshot 1 = .ok (.getfield 51, 3) := by decide +kernel
theorem dX8_saveSnapshot_4 : decode cX8_saveSnapshot 4 = .ok (.aload_n 0, 1) := by decide +kernel
theorem dX8_saveSnapshot_5 : decode cX8_saveSnapshot 5 = .ok (.getfield 12, 3) := by decide +kernel
theorem dX8_saveSnapshot_8 : decode cX8_saveSnapshot 8 = .ok (.invokevirtual 217, 3) := by decide +kernel
theorem dX8_saveSnapshot_11 : decode cX8_saveSnapshot 11 = .ok (.aload_n 0, 1) := by decide +kernel
theorem dX8_saveSnapshot_12 : decode cX8_saveSnapshot 12 = .ok (.iconst 1, 1) := by decide +kernel
theorem dX8_saveSnapshot_13 : decode cX8_saveSnapshot 13 = .ok (.putfield 302, 3) := by decide +kernel
theorem dX8_saveSnapshot_16 : decode cX8_saveSnapshot 16 = .ok (.aload_n 0, 1) := by decide +kernel
theorem dX8_saveSnapshot_17 : decode cX8_saveSnapshot 17 = .ok (.getfield 12, 3) := by decide +kernel
theorem dX8_saveSnapshot_20 : decode cX8_saveSnapshot 20 = .ok (.getfield 76, 3) := by decide +kernel
theorem dX8_saveSnapshot_23 : decode cX8_saveSnapshot 23 = .ok (.ireturn, 1) := by decide +kernel
theorem dX8_restoreSnapshot_0 : decode cX8_restoreSnapshot 0 = .ok (.aload_n 0, 1) := by decide +kernel
theorem dX8_restoreSnapshot_1 : decode cX8_restoreSnapshot 1 = .ok (.getfield 302, 3) := by decide +kernel
theorem dX8_restoreSnapshot_4 : decode cX8_restoreSnapshot 4 = .ok (.ifCond .ne 14, 3) := by decide +kernel
theorem dX8_restoreSnapshot_7 : decode cX8_restoreSnapshot 7 = .ok (.new 191, 3) := by decide +kernel
theorem dX8_restoreSnapshot_10 : decode cX8_restoreSnapshot 10 = .ok (.dup, 1) := by decide +kernel
theorem dX8_restoreSnapshot_11 : decode cX8_restoreSnapshot 11 = .ok (.ldc_w 306, 3) := by decide +kernel
theorem dX8_restoreSnapshot_14 : decode cX8_restoreSnapshot 14 = .ok (.invokespecial 195, 3) := by decide +kernel
theorem dX8_restoreSnapshot_17 : decode cX8_restoreSnapshot 17 = .ok (.athrow, 1) := by decide +kernel
theorem dX8_restoreSnapshot_18 : decode cX8_restoreSnapshot 18 = .ok (.aload_n 0, 1) := by decide +kernel
theorem dX8_restoreSnapshot_19 : decode cX8_restoreSnapshot 19 = .ok (.getfield 12, 3) := by decide +kernel
theorem dX8_restoreSnapshot_22 : decode cX8_restoreSnapshot 22 = .ok (.aload_n 0, 1) := by decide +kernel
theorem dX8_restoreSnapshot_23 : decode cX8_restoreSnapshot 23 = .ok (.getfield 51, 3) := by decide +kernel
theorem dX8_restoreSnapshot_26 : decode cX8_restoreSnapshot 26 = .ok (.invokevirtual 217, 3) := by decide +kernel
theorem dX8_restoreSnapshot_29 : decode cX8_restoreSnapshot 29 = .ok (.aload_n 0, 1) := by decide +kernel
theorem dX8_restoreSnapshot_30 : decode cX8_restoreSnapshot 30 = .ok (.getfield 44, 3) := by decide +kernel
theorem dX8_restoreSnapshot_33 : decode cX8_restoreSnapshot 33 = .ok (.invokevirtual 308, 3) := by decide +kernel
theorem dX8_restoreSnapshot_36 : decode cX8_restoreSnapshot 36 = .ok (.aload_n 0, 1) := by decide +kernel
theorem dX8_restoreSnapshot_37 : decode cX8_restoreSnapshot 37 = .ok (.getfield 12, 3) := by decide +kernel
theorem dX8_restoreSnapshot_40 : decode cX8_restoreSnapshot 40 = .ok (.getfield 76, 3) := by decide +kernel
theorem dX8_restoreSnapshot_43 : decode cX8_restoreSnapshot 43 = .ok (.ireturn, 1) := by decide +kernel
theorem dX8_change_0 : decode cX8_change 0 = .ok (.aload_n 0, 1) := by decide +kernel
theorem dX8_change_1 : decode cX8_change 1 = .ok (.getfield 37, 3) := by decide +kernel
theorem dX8_change_4 : decode cX8_change 4 = .ok (.iload_n 1, 1) := by decide +kernel
theorem dX8_change_5 : decode cX8_change 5 = .ok (.iload_n 2, 1) := by decide +kernel
theorem dX8_change_6 : decode cX8_change 6 = .ok (.iload_n 3, 1) := by decide +kernel
theorem dX8_change_7 : decode cX8_change 7 = .ok (.invokevirtual 238, 3) := by decide +kernel
theorem dX8_change_10 : decode cX8_change 10 = .ok (.istore 5, 2) := by decide +kernel
theorem dX8_change_12 : decode cX8_change 12 = .ok (.iload 5, 2) := by decide +kernel
theorem dX8_change_14 : decode cX8_change 14 = .ok (.ifCond .eq 9, 3) := by decide +kernel
theorem dX8_change_17 : decode cX8_change 17 = .ok (.aload_n 0, 1) := by decide +kernel
theorem dX8_change_18 : decode cX8_change 18 = .ok (.iload 5, 2) := by decide +kernel
theorem dX8_change_20 : decode cX8_change 20 = .ok (.invokevirtual 311, 3) := by decide +kernel
theorem dX8_change_23 : decode cX8_change 23 = .ok (.aload_n 0, 1) := by decide +kernel
theorem dX8_change_24 : decode cX8_change 24 = .ok (.getfield 44, 3) := by decide +kernel
theorem dX8_change_27 : decode cX8_change 27 = .ok (.aload_n 0, 1) := by decide +kernel
theorem dX8_change_28 : decode cX8_change 28 = .ok (.getfield 12, 3) := by decide +kernel
theorem dX8_change_31 : decode cX8_change 31 = .ok (.invokevirtual 260, 3) := by decide +kernel
theorem dX8_change_34 : decode cX8_change 34 = .ok (.aload_n 0, 1) := by decide +kernel
theorem dX8_change_35 : decode cX8_change 35 = .ok (.getfield 37, 3) := by decide +kernel
theorem dX8_change_38 : decode cX8_change 38 = .ok (.iload_n 1, 1) := by decide +kernel
theorem dX8_change_39 : decode cX8_change 39 = .ok (.iload_n 2, 1) := by decide +kernel
theorem dX8_change_40 : decode cX8_change 40 = .ok (.iload_n 3, 1) := by decide +kernel
theorem dX8_change_41 : decode cX8_change 41 = .ok (.iload 4, 2) := by decide +kernel
theorem dX8_change_43 : decode cX8_change 43 = .ok (.invokevirtual 257, 3) := by decide +kernel
theorem dX8_change_46 : decode cX8_change 46 = .ok (.ireturn, 1) := by decide +kernel
theorem dX8_refuse_0 : decode cX8_refuse 0 = .ok (.iload_n 1, 1) := by decide +kernel
theorem dX8_refuse_1 : decode cX8_refuse 1 = .ok (.bipush 8, 2) := by decide +kernel
theorem dX8_refuse_3 : decode cX8_refuse 3 = .ok (.if_icmp .ne 14, 3) := by decide +kernel
theorem dX8_refuse_6 : decode cX8_refuse 6 = .ok (.new 268, 3) := by decide +kernel
theorem dX8_refuse_9 : decode cX8_refuse 9 = .ok (.dup, 1) := by decide +kernel
theorem dX8_refuse_10 : decode cX8_refuse 10 = .ok (.ldc_w 314, 3) := by decide +kernel
theorem dX8_refuse_13 : decode cX8_refuse 13 = .ok (.invokespecial 272, 3) := by decide +kernel
theorem dX8_refuse_16 : decode cX8_refuse 16 = .ok (.athrow, 1) := by decide +kernel
theorem dX8_refuse_17 : decode cX8_refuse 17 = .ok (.iload_n 1, 1) := by decide +kernel
theorem dX8_refuse_18 : decode cX8_refuse 18 = .ok (.bipush 9, 2) := by decide +kernel
theorem dX8_refuse_20 : decode cX8_refuse 20 = .ok (.if_icmp .ne 14, 3) := by decide +kernel
theorem dX8_refuse_23 : decode cX8_refuse 23 = .ok (.new 212, 3) := by decide +kernel
theorem dX8_refuse_26 : decode cX8_refuse 26 = .ok (.dup, 1) := by decide +kernel
theorem dX8_refuse_27 : decode cX8_refuse 27 = .ok (.ldc_w 316, 3) := by decide +kernel
theorem dX8_refuse_30 : decode cX8_refuse 30 = .ok (.invokespecial 216, 3) := by decide +kernel
theorem dX8_refuse_33 : decode cX8_refuse 33 = .ok (.athrow, 1) := by decide +kernel
theorem dX8_refuse_34 : decode cX8_refuse 34 = .ok (.aload_n 0, 1) := by decide +kernel
theorem dX8_refuse_35 : decode cX8_refuse 35 = .ok (.iload_n 1, 1) := by decide +kernel
theorem dX8_refuse_36 : decode cX8_refuse 36 = .ok (.aload_n 0, 1) := by decide +kernel
theorem dX8_refuse_37 : decode cX8_refuse 37 = .ok (.getfield 37, 3) := by decide +kernel
theorem dX8_refuse_40 : decode cX8_refuse 40 = .ok (.getfield 318, 3) := by decide +kernel
theorem dX8_refuse_43 : decode cX8_refuse 43 = .ok (.iconst 0, 1) := by decide +kernel
theorem dX8_refuse_44 : decode cX8_refuse 44 = .ok (.invokevirtual 245, 3) := by decide +kernel
theorem dX8_refuse_47 : decode cX8_refuse 47 = .ok (.new 249, 3) := by decide +kernel
theorem dX8_refuse_50 : decode cX8_refuse 50 = .ok (.dup, 1) := by decide +kernel
theorem dX8_refuse_51 : decode cX8_refuse 51 = .ok (.ldc_w 321, 3) := by decide +kernel
theorem dX8_refuse_54 : decode cX8_refuse 54 = .ok (.invokespecial 253, 3) := by decide +kernel
theorem dX8_refuse_57 : decode cX8_refuse 57 = .ok (.athrow, 1) := by decide +kernel
theorem dX8_causeOf_0 : decode cX8_causeOf 0 = .ok (.iload_n 0, 1) := by decide +kernel
theorem dX8_causeOf_1 : decode cX8_causeOf 1 = .ok (.bipush 6, 2) := by decide +kernel
theorem dX8_causeOf_3 : decode cX8_causeOf 3 = .ok (.if_icmp .ge 7, 3) := by decide +kernel
theorem dX8_causeOf_6 : decode cX8_causeOf 6 = .ok (.iload_n 0, 1) := by decide +kernel
theorem dX8_causeOf_7 : decode cX8_causeOf 7 = .ok (.goto 5, 3) := by decide +kernel
theorem dX8_causeOf_10 : decode cX8_causeOf 10 = .ok (.bipush 7, 2) := by decide +kernel
theorem dX8_causeOf_12 : decode cX8_causeOf 12 = .ok (.ireturn, 1) := by decide +kernel
theorem dX8_keepDenial_0 : decode cX8_keepDenial 0 = .ok (.aload_n 0, 1) := by decide +kernel
theorem dX8_keepDenial_1 : decode cX8_keepDenial 1 = .ok (.iload_n 1, 1) := by decide +kernel
theorem dX8_keepDenial_2 : decode cX8_keepDenial 2 = .ok (.putfield 280, 3) := by decide +kernel
theorem dX8_keepDenial_5 : decode cX8_keepDenial 5 = .ok (.aload_n 0, 1) := by decide +kernel
theorem dX8_keepDenial_6 : decode cX8_keepDenial 6 = .ok (.iload_n 2, 1) := by decide +kernel
theorem dX8_keepDenial_7 : decode cX8_keepDenial 7 = .ok (.putfield 283, 3) := by decide +kernel
theorem dX8_keepDenial_10 : decode cX8_keepDenial 10 = .ok (.aload_n 0, 1) := by decide +kernel
theorem dX8_keepDenial_11 : decode cX8_keepDenial 11 = .ok (.iload_n 3, 1) := by decide +kernel
theorem dX8_keepDenial_12 : decode cX8_keepDenial 12 = .ok (.putfield 286, 3) := by decide +kernel
theorem dX8_keepDenial_15 : decode cX8_keepDenial 15 = .ok (.return_, 1) := by decide +kernel
theorem dX8_isPosition_0 : decode cX8_isPosition 0 = .ok (.iload_n 0, 1) := by decide +kernel
theorem dX8_isPosition_1 : decode cX8_isPosition 1 = .ok (.ifCond .lt 13, 3) := by decide +kernel
theorem dX8_isPosition_4 : decode cX8_isPosition 4 = .ok (.iload_n 0, 1) := by decide +kernel
theorem dX8_isPosition_5 : decode cX8_isPosition 5 = .ok (.bipush 100, 2) := by decide +kernel
theorem dX8_isPosition_7 : decode cX8_isPosition 7 = .ok (.if_icmp .ge 7, 3) := by decide +kernel
theorem dX8_isPosition_10 : decode cX8_isPosition 10 = .ok (.iconst 1, 1) := by decide +kernel
theorem dX8_isPosition_11 : decode cX8_isPosition 11 = .ok (.goto 4, 3) := by decide +kernel
theorem dX8_isPosition_14 : decode cX8_isPosition 14 = .ok (.iconst 0, 1) := by decide +kernel
theorem dX8_isPosition_15 : decode cX8_isPosition 15 = .ok (.ireturn, 1) := by decide +kernel
theorem dX8_isStrength_0 : decode cX8_isStrength 0 = .ok (.iload_n 0, 1) := by decide +kernel
theorem dX8_isStrength_1 : decode cX8_isStrength 1 = .ok (.iconst 1, 1) := by decide +kernel
theorem dX8_isStrength_2 : decode cX8_isStrength 2 = .ok (.if_icmp .lt 13, 3) := by decide +kernel
theorem dX8_isStrength_5 : decode cX8_isStrength 5 = .ok (.iload_n 0, 1) := by decide +kernel
theorem dX8_isStrength_6 : decode cX8_isStrength 6 = .ok (.bipush 30, 2) := by decide +kernel
theorem dX8_isStrength_8 : decode cX8_isStrength 8 = .ok (.if_icmp .gt 7, 3) := by decide +kernel
theorem dX8_isStrength_11 : decode cX8_isStrength 11 = .ok (.iconst 1, 1) := by decide +kernel
theorem dX8_isStrength_12 : decode cX8_isStrength 12 = .ok (.goto 4, 3) := by decide +kernel
theorem dX8_isStrength_15 : decode cX8_isStrength 15 = .ok (.iconst 0, 1) := by decide +kernel
theorem dX8_isStrength_16 : decode cX8_isStrength 16 = .ok (.ireturn, 1) := by decide +kernel
theorem dX8_isIn_0 : decode cX8_isIn 0 = .ok (.iload_n 0, 1) := by decide +kernel
theorem dX8_isIn_1 : decode cX8_isIn 1 = .ok (.iload_n 1, 1) := by decide +kernel
theorem dX8_isIn_2 : decode cX8_isIn 2 = .ok (.ishr, 1) := by decide +kernel
theorem dX8_isIn_3 : decode cX8_isIn 3 = .ok (.iconst 1, 1) := by decide +kernel
theorem dX8_isIn_4 : decode cX8_isIn 4 = .ok (.iand, 1) := by decide +kernel
theorem dX8_isIn_5 : decode cX8_isIn 5 = .ok (.iconst 1, 1) := by decide +kernel
theorem dX8_isIn_6 : decode cX8_isIn 6 = .ok (.if_icmp .ne 7, 3) := by decide +kernel
theorem dX8_isIn_9 : decode cX8_isIn 9 = .ok (.iconst 1, 1) := by decide +kernel
theorem dX8_isIn_10 : decode cX8_isIn 10 = .ok (.goto 4, 3) := by decide +kernel
theorem dX8_isIn_13 : decode cX8_isIn 13 = .ok (.iconst 0, 1) := by decide +kernel
theorem dX8_isIn_14 : decode cX8_isIn 14 = .ok (.ireturn, 1) := by decide +kernel
theorem dX8_requirePosition_0 : decode cX8_requirePosition 0 = .ok (.iload_n 0, 1) := by decide +kernel
theorem dX8_requirePosition_1 : decode cX8_requirePosition 1 = .ok (.invokestatic 323, 3) := by decide +kernel
theorem dX8_requirePosition_4 : decode cX8_requirePosition 4 = .ok (.ifCond .ne 14, 3) := by decide +kernel
theorem dX8_requirePosition_7 : decode cX8_requirePosition 7 = .ok (.new 212, 3) := by decide +kernel
theorem dX8_requirePosition_10 : decode cX8_requirePosition 10 = .ok (.dup, 1) := by decide +kernel
theorem dX8_requirePosition_11 : decode cX8_requirePosition 11 = .ok (.ldc_w 326, 3) := by decide +kernel
theorem dX8_requirePosition_14 : decode cX8_requirePosition 14 = .ok (.invokespecial 216, 3) := by decide +kernel
theorem dX8_requirePosition_17 : decode cX8_requirePosition 17 = .ok (.athrow, 1) := by decide +kernel
theorem dX8_requirePosition_18 : decode cX8_requirePosition 18 = .ok (.return_, 1) := by decide +kernel
theorem dX8_requireFound_0 : decode cX8_requireFound 0 = .ok (.iload_n 0, 1) := by decide +kernel
theorem dX8_requireFound_1 : decode cX8_requireFound 1 = .ok (.iconst (-1), 1) := by decide +kernel
theorem dX8_requireFound_2 : decode cX8_requireFound 2 = .ok (.if_icmp .ne 14, 3) := by decide +kernel
theorem dX8_requireFound_5 : decode cX8_requireFound 5 = .ok (.new 289, 3) := by decide +kernel
theorem dX8_requireFound_8 : decode cX8_requireFound 8 = .ok (.dup, 1) := by decide +kernel
theorem dX8_requireFound_9 : decode cX8_requireFound 9 = .ok (.ldc_w 328, 3) := by decide +kernel
theorem dX8_requireFound_12 : decode cX8_requireFound 12 = .ok (.invokespecial 293, 3) := by decide +kernel
theorem dX8_requireFound_15 : decode cX8_requireFound 15 = .ok (.athrow, 1) := by decide +kernel
theorem dX8_requireFound_16 : decode cX8_requireFound 16 = .ok (.iload_n 0, 1) := by decide +kernel
theorem dX8_requireFound_17 : decode cX8_requireFound 17 = .ok (.ireturn, 1) := by decide +kernel
theorem dX8_requireMagnet_0 : decode cX8_requireMagnet 0 = .ok (.aload_n 0, 1) := by decide +kernel
theorem dX8_requireMagnet_1 : decode cX8_requireMagnet 1 = .ok (.getfield 12, 3) := by decide +kernel
theorem dX8_requireMagnet_4 : decode cX8_requireMagnet 4 = .ok (.iload_n 1, 1) := by decide +kernel
theorem dX8_requireMagnet_5 : decode cX8_requireMagnet 5 = .ok (.invokevirtual 330, 3) := by decide +kernel
theorem dX8_requireMagnet_8 : decode cX8_requireMagnet 8 = .ok (.ifCond .ne 14, 3) := by decide +kernel
theorem dX8_requireMagnet_11 : decode cX8_requireMagnet 11 = .ok (.new 268, 3) := by decide +kernel
theorem dX8_requireMagnet_14 : decode cX8_requireMagnet 14 = .ok (.dup, 1) := by decide +kernel
theorem dX8_requireMagnet_15 : decode cX8_requireMagnet 15 = .ok (.ldc_w 333, 3) := by decide +kernel
theorem dX8_requireMagnet_18 : decode cX8_requireMagnet 18 = .ok (.invokespecial 272, 3) := by decide +kernel
theorem dX8_requireMagnet_21 : decode cX8_requireMagnet 21 = .ok (.athrow, 1) := by decide +kernel
theorem dX8_requireMagnet_22 : decode cX8_requireMagnet 22 = .ok (.return_, 1) := by decide +kernel
theorem dX8_requireTunnel_0 : decode cX8_requireTunnel 0 = .ok (.aload_n 0, 1) := by decide +kernel
theorem dX8_requireTunnel_1 : decode cX8_requireTunnel 1 = .ok (.getfield 12, 3) := by decide +kernel
theorem dX8_requireTunnel_4 : decode cX8_requireTunnel 4 = .ok (.iload_n 1, 1) := by decide +kernel
theorem dX8_requireTunnel_5 : decode cX8_requireTunnel 5 = .ok (.invokevirtual 335, 3) := by decide +kernel
theorem dX8_requireTunnel_8 : decode cX8_requireTunnel 8 = .ok (.ifCond .ne 14, 3) := by decide +kernel
theorem dX8_requireTunnel_11 : decode cX8_requireTunnel 11 = .ok (.new 268, 3) := by decide +kernel
theorem dX8_requireTunnel_14 : decode cX8_requireTunnel 14 = .ok (.dup, 1) := by decide +kernel
theorem dX8_requireTunnel_15 : decode cX8_requireTunnel 15 = .ok (.ldc_w 338, 3) := by decide +kernel
theorem dX8_requireTunnel_18 : decode cX8_requireTunnel 18 = .ok (.invokespecial 272, 3) := by decide +kernel
theorem dX8_requireTunnel_21 : decode cX8_requireTunnel 21 = .ok (.athrow, 1) := by decide +kernel
theorem dX8_requireTunnel_22 : decode cX8_requireTunnel 22 = .ok (.return_, 1) := by decide +kernel
theorem dX8_requireDenial_0 : decode cX8_requireDenial 0 = .ok (.aload_n 0, 1) := by decide +kernel
theorem dX8_requireDenial_1 : decode cX8_requireDenial 1 = .ok (.getfield 280, 3) := by decide +kernel
theorem dX8_requireDenial_4 : decode cX8_requireDenial 4 = .ok (.ifCond .ne 14, 3) := by decide +kernel
theorem dX8_requireDenial_7 : decode cX8_requireDenial 7 = .ok (.new 289, 3) := by decide +kernel
theorem dX8_requireDenial_10 : decode cX8_requireDenial 10 = .ok (.dup, 1) := by decide +kernel
theorem dX8_requireDenial_11 : decode cX8_requireDenial 11 = .ok (.ldc_w 340, 3) := by decide +kernel
theorem dX8_requireDenial_14 : decode cX8_requireDenial 14 = .ok (.invokespecial 293, 3) := by decide +kernel
theorem dX8_requireDenial_17 : decode cX8_requireDenial 17 = .ok (.athrow, 1) := by decide +kernel
theorem dX8_requireDenial_18 : decode cX8_requireDenial 18 = .ok (.return_, 1) := by decide +kernel

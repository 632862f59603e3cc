theorem dX7_init_0 : decode cX7_init 0 = .ok (.aload_n 0, 1) := by decide +kernel
theorem dX7_init_1 : decode cX7_init 1 = .ok (.invokespecial 3, 3) := by decide +kernel
theorem dX7_init_4 : decode cX7_init 4 = .ok (.aload_n 0, 1) := by decide +kernel
theorem dX7_init_5 : decode cX7_init 5 = .ok (.bipush 60, 2) := by decide +kernel
theorem dX7_init_7 : decode cX7_init 7 = .ok (.newarray .char, 2) := by decide +kernel
theorem dX7_init_9 : decode cX7_init 9 = .ok (.putfield 9, 3) := by decide +kernel
theorem dX7_init_12 : decode cX7_init 12 = .ok (.aload_n 0, 1) := by decide +kernel
theorem dX7_init_13 : decode cX7_init 13 = .ok (.bipush 15, 2) := by decide +kernel
theorem dX7_init_15 : decode cX7_init 15 = .ok (.anewarray 15, 3) := by decide +kernel
theorem dX7_init_18 : decode cX7_init 18 = .ok (.putfield 17, 3) := by decide +kernel
theorem dX7_init_21 : decode cX7_init 21 = .ok (.iconst 0, 1) := by decide +kernel
theorem dX7_init_22 : decode cX7_init 22 = .ok (.istore_n 1, 1) := by decide +kernel
theorem dX7_init_23 : decode cX7_init 23 = .ok (.iload_n 1, 1) := by decide +kernel
theorem dX7_init_24 : decode cX7_init 24 = .ok (.bipush 15, 2) := by decide +kernel
theorem dX7_init_26 : decode cX7_init 26 = .ok (.if_icmp .ge 22, 3) := by decide +kernel
theorem dX7_init_29 : decode cX7_init 29 = .ok (.aload_n 0, 1) := by decide +kernel
theorem dX7_init_30 : decode cX7_init 30 = .ok (.getfield 17, 3) := by decide +kernel
theorem dX7_init_33 : decode cX7_init 33 = .ok (.iload_n 1, 1) := by decide +kernel
theorem dX7_init_34 : decode cX7_init 34 = .ok (.new 15, 3) := by decide +kernel
theorem dX7_init_37 : decode cX7_init 37 = .ok (.dup, 1) := by decide +kernel
theorem dX7_init_38 : decode cX7_init 38 = .ok (.invokespecial 21, 3) := by decide +kernel
theorem dX7_init_41 : decode cX7_init 41 = .ok (.aastore, 1) := by decide +kernel
theorem dX7_init_42 : decode cX7_init 42 = .ok (.iinc 1 1, 3) := by decide +kernel
theorem dX7_init_45 : decode cX7_init 45 = .ok (.goto (-22), 3) := by decide +kernel
theorem dX7_init_48 : decode cX7_init 48 = .ok (.return_, 1) := by decide +kernel
theorem dX7_hasRoom_0 : decode cX7_hasRoom 0 = .ok (.aload_n 0, 1) := by decide +kernel
theorem dX7_hasRoom_1 : decode cX7_hasRoom 1 = .ok (.getfield 22, 3) := by decide +kernel
theorem dX7_hasRoom_4 : decode cX7_hasRoom 4 = .ok (.bipush 60, 2) := by decide +kernel
theorem dX7_hasRoom_6 : decode cX7_hasRoom 6 = .ok (.if_icmp .ge 7, 3) := by decide +kernel
theorem dX7_hasRoom_9 : decode cX7_hasRoom 9 = .ok (.iconst 1, 1) := by decide +kernel
theorem dX7_hasRoom_10 : decode cX7_hasRoom 10 = .ok (.goto 4, 3) := by decide +kernel
theorem dX7_hasRoom_13 : decode cX7_hasRoom 13 = .ok (.iconst 0, 1) := by decide +kernel
theorem dX7_hasRoom_14 : decode cX7_hasRoom 14 = .ok (.ireturn, 1) := by decide +kernel
theorem dX7_append_0 : decode cX7_append 0 = .ok (.aload_n 0, 1) := by decide +kernel
theorem dX7_append_1 : decode cX7_append 1 = .ok (.getfield 9, 3) := by decide +kernel
theorem dX7_append_4 : decode cX7_append 4 = .ok (.aload_n 0, 1) := by decide +kernel
theorem dX7_append_5 : decode cX7_append 5 = .ok (.getfield 22, 3) := by decide +kernel
theorem dX7_append_8 : decode cX7_append 8 = .ok (.iload_n 1, 1) := by decide +kernel
theorem dX7_append_9 : decode cX7_append 9 = .ok (.castore, 1) := by decide +kernel
theorem dX7_append_10 : decode cX7_append 10 = .ok (.aload_n 0, 1) := by decide +kernel
theorem dX7_append_11 : decode cX7_append 11 = .ok (.dup, 1) := by decide +kernel
theorem dX7_append_12 : decode cX7_append 12 = .ok (.getfield 22, 3) := by decide +kernel
theorem dX7_append_15 : decode cX7_append 15 = .ok (.iconst 1, 1) := by decide +kernel
theorem dX7_append_16 : decode cX7_append 16 = .ok (.iadd, 1) := by decide +kernel
theorem dX7_append_17 : decode cX7_append 17 = .ok (.putfield 22, 3) := by decide +kernel
theorem dX7_append_20 : decode cX7_append 20 = .ok (.return_, 1) := by decide +kernel
theorem dX7_clear_0 : decode cX7_clear 0 = .ok (.aload_n 0, 1) := by decide +kernel
theorem dX7_clear_1 : decode cX7_clear 1 = .ok (.iconst 0, 1) := by decide +kernel
theorem dX7_clear_2 : decode cX7_clear 2 = .ok (.putfield 22, 3) := by decide +kernel
theorem dX7_clear_5 : decode cX7_clear 5 = .ok (.return_, 1) := by decide +kernel
theorem dX7_parse_0 : decode cX7_parse 0 = .ok (.aload_n 0, 1) := by decide +kernel
theorem dX7_parse_1 : decode cX7_parse 1 = .ok (.iconst 0, 1) := by decide +kernel
theorem dX7_parse_2 : decode cX7_parse 2 = .ok (.putfield 26, 3) := by decide +kernel
theorem dX7_parse_5 : decode cX7_parse 5 = .ok (.aload_n 0, 1) := by decide +kernel
theorem dX7_parse_6 : decode cX7_parse 6 = .ok (.iconst 0, 1) := by decide +kernel
theorem dX7_parse_7 : decode cX7_parse 7 = .ok (.putfield 29, 3) := by decide +kernel
theorem dX7_parse_10 : decode cX7_parse 10 = .ok (.iconst 0, 1) := by decide +kernel
theorem dX7_parse_11 : decode cX7_parse 11 = .ok (.istore_n 1, 1) := by decide +kernel
theorem dX7_parse_12 : decode cX7_parse 12 = .ok (.iconst 0, 1) := by decide +kernel
theorem dX7_parse_13 : decode cX7_parse 13 = .ok (.istore_n 2, 1) := by decide +kernel
theorem dX7_parse_14 : decode cX7_parse 14 = .ok (.iload_n 2, 1) := by decide +kernel
theorem dX7_parse_15 : decode cX7_parse 15 = .ok (.bipush 15, 2) := by decide +kernel
theorem dX7_parse_17 : decode cX7_parse 17 = .ok (.if_icmp .ge 69, 3) := by decide +kernel
theorem dX7_parse_20 : decode cX7_parse 20 = .ok (.aload_n 0, 1) := by decide +kernel
theorem dX7_parse_21 : decode cX7_parse 21 = .ok (.iload_n 1, 1) := by decide +kernel
theorem dX7_parse_22 : decode cX7_parse 22 = .ok (.aload_n 0, 1) := by decide +kernel
theorem dX7_parse_23 : decode cX7_parse 23 = .ok (.getfield 17, 3) := by decide +kernel
theorem dX7_parse_26 : decode cX7_parse 26 = .ok (.iload_n 2, 1) := by decide +kernel
theorem dX7_parse_27 : decode cX7_parse 27 = .ok (.aaload, 1) := by decide +kernel
theorem dX7_parse_28 : decode cX7_parse 28 = .ok (.invokevirtual 32, 3) := by decide +kernel
theorem dX7_parse_31 : decode cX7_parse 31 = .ok (.istore_n 3, 1) := by decide +kernel
theorem dX7_parse_32 : decode cX7_parse 32 = .ok (.iload_n 3, 1) := by decide +kernel
theorem dX7_parse_33 : decode cX7_parse 33 = .ok (.iconst (-1), 1) := by decide +kernel
theorem dX7_parse_34 : decode cX7_parse 34 = .ok (.if_icmp .ne 5, 3) := by decide +kernel
theorem dX7_parse_37 : decode cX7_parse 37 = .ok (.iconst 0, 1) := by decide +kernel
theorem dX7_parse_38 : decode cX7_parse 38 = .ok (.ireturn, 1) := by decide +kernel
theorem dX7_parse_39 : decode cX7_parse 39 = .ok (.aload_n 0, 1) := by decide +kernel
theorem dX7_parse_40 : decode cX7_parse 40 = .ok (.dup, 1) := by decide +kernel
theorem dX7_parse_41 : decode cX7_parse 41 = .ok (.getfield 26, 3) := by decide +kernel
theorem dX7_parse_44 : decode cX7_parse 44 = .ok (.iconst 1, 1) := by decide +kernel
theorem dX7_parse_45 : decode cX7_parse 45 = .ok (.iadd, 1) := by decide +kernel
theorem dX7_parse_46 : decode cX7_parse 46 = .ok (.putfield 26, 3) := by decide +kernel
theorem dX7_parse_49 : decode cX7_parse 49 = .ok (.iload_n 3, 1) := by decide +kernel
theorem dX7_parse_50 : decode cX7_parse 50 = .ok (.aload_n 0, 1) := by decide +kernel
theorem dX7_parse_51 : decode cX7_parse 51 = .ok (.getfield 22, 3) := by decide +kernel
theorem dX7_parse_54 : decode cX7_parse 54 = .ok (.if_icmp .ne 5, 3) := by decide +kernel
theorem dX7_parse_57 : decode cX7_parse 57 = .ok (.iconst 1, 1) := by decide +kernel
theorem dX7_parse_58 : decode cX7_parse 58 = .ok (.ireturn, 1) := by decide +kernel
theorem dX7_parse_59 : decode cX7_parse 59 = .ok (.aload_n 0, 1) := by decide +kernel
theorem dX7_parse_60 : decode cX7_parse 60 = .ok (.iload_n 3, 1) := by decide +kernel
theorem dX7_parse_61 : decode cX7_parse 61 = .ok (.bipush 59, 2) := by decide +kernel
theorem dX7_parse_63 : decode cX7_parse 63 = .ok (.invokevirtual 36, 3) := by decide +kernel
theorem dX7_parse_66 : decode cX7_parse 66 = .ok (.ifCond .ne 10, 3) := by decide +kernel
theorem dX7_parse_69 : decode cX7_parse 69 = .ok (.aload_n 0, 1) := by decide +kernel
theorem dX7_parse_70 : decode cX7_parse 70 = .ok (.iload_n 3, 1) := by decide +kernel
theorem dX7_parse_71 : decode cX7_parse 71 = .ok (.putfield 29, 3) := by decide +kernel
theorem dX7_parse_74 : decode cX7_parse 74 = .ok (.iconst 0, 1) := by decide +kernel
theorem dX7_parse_75 : decode cX7_parse 75 = .ok (.ireturn, 1) := by decide +kernel
theorem dX7_parse_76 : decode cX7_parse 76 = .ok (.iload_n 3, 1) := by decide +kernel
theorem dX7_parse_77 : decode cX7_parse 77 = .ok (.iconst 1, 1) := by decide +kernel
theorem dX7_parse_78 : decode cX7_parse 78 = .ok (.iadd, 1) := by decide +kernel
theorem dX7_parse_79 : decode cX7_parse 79 = .ok (.istore_n 1, 1) := by decide +kernel
theorem dX7_parse_80 : decode cX7_parse 80 = .ok (.iinc 2 1, 3) := by decide +kernel
theorem dX7_parse_83 : decode cX7_parse 83 = .ok (.goto (-69), 3) := by decide +kernel
theorem dX7_parse_86 : decode cX7_parse 86 = .ok (.iconst 0, 1) := by decide +kernel
theorem dX7_parse_87 : decode cX7_parse 87 = .ok (.ireturn, 1) := by decide +kernel
theorem dX7_parseCommand_0 : decode cX7_parseCommand 0 = .ok (.iconst 0, 1) := by decide +kernel
theorem dX7_parseCommand_1 : decode cX7_parseCommand 1 = .ok (.istore_n 3, 1) := by decide +kernel
theorem dX7_parseCommand_2 : decode cX7_parseCommand 2 = .ok (.iload_n 3, 1) := by decide +kernel
theorem dX7_parseCommand_3 : decode cX7_parseCommand 3 = .ok (.bipush 8, 2) := by decide +kernel
theorem dX7_parseCommand_5 : decode cX7_parseCommand 5 = .ok (.if_icmp .ge 27, 3) := by decide +kernel
theorem dX7_parseCommand_8 : decode cX7_parseCommand 8 = .ok (.aload_n 0, 1) := by decide +kernel
theorem dX7_parseCommand_9 : decode cX7_parseCommand 9 = .ok (.iload_n 3, 1) := by decide +kernel
theorem dX7_parseCommand_10 : decode cX7_parseCommand 10 = .ok (.iload_n 1, 1) := by decide +kernel
theorem dX7_parseCommand_11 : decode cX7_parseCommand 11 = .ok (.aload_n 2, 1) := by decide +kernel
theorem dX7_parseCommand_12 : decode cX7_parseCommand 12 = .ok (.invokevirtual 40, 3) := by decide +kernel
theorem dX7_parseCommand_15 : decode cX7_parseCommand 15 = .ok (.istore 4, 2) := by decide +kernel
theorem dX7_parseCommand_17 : decode cX7_parseCommand 17 = .ok (.iload 4, 2) := by decide +kernel
theorem dX7_parseCommand_19 : decode cX7_parseCommand 19 = .ok (.iconst (-1), 1) := by decide +kernel
theorem dX7_parseCommand_20 : decode cX7_parseCommand 20 = .ok (.if_icmp .eq 6, 3) := by decide +kernel
theorem dX7_parseCommand_23 : decode cX7_parseCommand 23 = .ok (.iload 4, 2) := by decide +kernel
theorem dX7_parseCommand_25 : decode cX7_parseCommand 25 = .ok (.ireturn, 1) := by decide +kernel
theorem dX7_parseCommand_26 : decode cX7_parseCommand 26 = .ok (.iinc 3 1, 3) := by decide +kernel
theorem dX7_parseCommand_29 : decode cX7_parseCommand 29 = .ok (.goto (-27), 3) := by decide +kernel
theorem dX7_parseCommand_32 : decode cX7_parseCommand 32 = .ok (.iconst (-1), 1) := by decide +kernel
theorem dX7_parseCommand_33 : decode cX7_parseCommand 33 = .ok (.ireturn, 1) := by decide +kernel
theorem dX7_shapeOf_0 : decode cX7_shapeOf 0 = .ok (.iload_n 0, 1) := by decide +kernel
theorem dX7_shapeOf_1 : decode cX7_shapeOf 1 = .ok (.tableswitch 64 0 6 #[43, 46, 49, 52, 55, 58, 61], 43) := by decide +kernel
theorem dX7_shapeOf_44 : decode cX7_shapeOf 44 = .ok (.ldc 44, 2) := by decide +kernel
theorem dX7_shapeOf_46 : decode cX7_shapeOf 46 = .ok (.areturn, 1) := by decide +kernel
theorem dX7_shapeOf_47 : decode cX7_shapeOf 47 = .ok (.ldc 46, 2) := by decide +kernel
theorem dX7_shapeOf_49 : decode cX7_shapeOf 49 = .ok (.areturn, 1) := by decide +kernel
theorem dX7_shapeOf_50 : decode cX7_shapeOf 50 = .ok (.ldc 48, 2) := by decide +kernel
theorem dX7_shapeOf_52 : decode cX7_shapeOf 52 = .ok (.areturn, 1) := by decide +kernel
theorem dX7_shapeOf_53 : decode cX7_shapeOf 53 = .ok (.ldc 50, 2) := by decide +kernel
theorem dX7_shapeOf_55 : decode cX7_shapeOf 55 = .ok (.areturn, 1) := by decide +kernel
theorem dX7_shapeOf_56 : decode cX7_shapeOf 56 = .ok (.ldc 52, 2) := by decide +kernel
theorem dX7_shapeOf_58 : decode cX7_shapeOf 58 = .ok (.areturn, 1) := by decide +kernel
theorem dX7_shapeOf_59 : decode cX7_shapeOf 59 = .ok (.ldc 54, 2) := by decide +kernel
theorem dX7_shapeOf_61 : decode cX7_shapeOf 61 = .ok (.areturn, 1) := by decide +kernel
theorem dX7_shapeOf_62 : decode cX7_shapeOf 62 = .ok (.ldc 56, 2) := by decide +kernel
theorem dX7_shapeOf_64 : decode cX7_shapeOf 64 = .ok (.areturn, 1) := by decide +kernel
theorem dX7_shapeOf_65 : decode cX7_shapeOf 65 = .ok (.ldc 58, 2) := by decide +kernel
theorem dX7_shapeOf_67 : decode cX7_shapeOf 67 = .ok (.areturn, 1) := by decide +kernel
theorem dX7_matchKind_0 : decode cX7_matchKind 0 = .ok (.iload_n 1, 1) := by decide +kernel
theorem dX7_matchKind_1 : decode cX7_matchKind 1 = .ok (.invokestatic 60, 3) := by decide +kernel
theorem dX7_matchKind_4 : decode cX7_matchKind 4 = .ok (.astore 4, 2) := by decide +kernel
theorem dX7_matchKind_6 : decode cX7_matchKind 6 = .ok (.iload_n 2, 1) := by decide +kernel
theorem dX7_matchKind_7 : decode cX7_matchKind 7 = .ok (.istore 5, 2) := by decide +kernel
theorem dX7_matchKind_9 : decode cX7_matchKind 9 = .ok (.iconst 0, 1) := by decide +kernel
theorem dX7_matchKind_10 : decode cX7_matchKind 10 = .ok (.istore 6, 2) := by decide +kernel
theorem dX7_matchKind_12 : decode cX7_matchKind 12 = .ok (.iconst 0, 1) := by decide +kernel
theorem dX7_matchKind_13 : decode cX7_matchKind 13 = .ok (.istore 7, 2) := by decide +kernel
theorem dX7_matchKind_15 : decode cX7_matchKind 15 = .ok (.iload 7, 2) := by decide +kernel
theorem dX7_matchKind_17 : decode cX7_matchKind 17 = .ok (.aload 4, 2) := by decide +kernel
theorem dX7_matchKind_19 : decode cX7_matchKind 19 = .ok (.invokevirtual 64, 3) := by decide +kernel
theorem dX7_matchKind_22 : decode cX7_matchKind 22 = .ok (.if_icmp .ge 95, 3) := by decide +kernel
theorem dX7_matchKind_25 : decode cX7_matchKind 25 = .ok (.aload 4, 2) := by decide +kernel
theorem dX7_matchKind_27 : decode cX7_matchKind 27 = .ok (.iload 7, 2) := by decide +kernel
theorem dX7_matchKind_29 : decode cX7_matchKind 29 = .ok (.invokevirtual 69, 3) := by decide +kernel
theorem dX7_matchKind_32 : decode cX7_matchKind 32 = .ok (.istore 8, 2) := by decide +kernel
theorem dX7_matchKind_34 : decode cX7_matchKind 34 = .ok (.aload_n 0, 1) := by decide +kernel
theorem dX7_matchKind_35 : decode cX7_matchKind 35 = .ok (.iload 8, 2) := by decide +kernel
theorem dX7_matchKind_37 : decode cX7_matchKind 37 = .ok (.iload 5, 2) := by decide +kernel
theorem dX7_matchKind_39 : decode cX7_matchKind 39 = .ok (.invokevirtual 73, 3) := by decide +kernel
theorem dX7_matchKind_42 : decode cX7_matchKind 42 = .ok (.istore 9, 2) := by decide +kernel
theorem dX7_matchKind_44 : decode cX7_matchKind 44 = .ok (.iload 9, 2) := by decide +kernel
theorem dX7_matchKind_46 : decode cX7_matchKind 46 = .ok (.ifCond .ne 18, 3) := by decide +kernel
theorem dX7_matchKind_49 : decode cX7_matchKind 49 = .ok (.aload_n 0, 1) := by decide +kernel
theorem dX7_matchKind_50 : decode cX7_matchKind 50 = .ok (.aload_n 0, 1) := by decide +kernel
theorem dX7_matchKind_51 : decode cX7_matchKind 51 = .ok (.getfield 29, 3) := by decide +kernel
theorem dX7_matchKind_54 : decode cX7_matchKind 54 = .ok (.iload 5, 2) := by decide +kernel
theorem dX7_matchKind_56 : decode cX7_matchKind 56 = .ok (.invokestatic 77, 3) := by decide +kernel
theorem dX7_matchKind_59 : decode cX7_matchKind 59 = .ok (.putfield 29, 3) := by decide +kernel
theorem dX7_matchKind_62 : decode cX7_matchKind 62 = .ok (.iconst (-1), 1) := by decide +kernel
theorem dX7_matchKind_63 : decode cX7_matchKind 63 = .ok (.ireturn, 1) := by decide +kernel
theorem dX7_matchKind_64 : decode cX7_matchKind 64 = .ok (.iload 8, 2) := by decide +kernel
theorem dX7_matchKind_66 : decode cX7_matchKind 66 = .ok (.bipush 78, 2) := by decide +kernel
theorem dX7_matchKind_68 : decode cX7_matchKind 68 = .ok (.if_icmp .eq 17, 3) := by decide +kernel
theorem dX7_matchKind_71 : decode cX7_matchKind 71 = .ok (.iload 8, 2) := by decide +kernel
theorem dX7_matchKind_73 : decode cX7_matchKind 73 = .ok (.bipush 68, 2) := by decide +kernel
theorem dX7_matchKind_75 : decode cX7_matchKind 75 = .ok (.if_icmp .eq 10, 3) := by decide +kernel
theorem dX7_matchKind_78 : decode cX7_matchKind 78 = .ok (.iload 8, 2) := by decide +kernel
theorem dX7_matchKind_80 : decode cX7_matchKind 80 = .ok (.bipush 80, 2) := by decide +kernel
theorem dX7_matchKind_82 : decode cX7_matchKind 82 = .ok (.if_icmp .ne 22, 3) := by decide +kernel
theorem dX7_matchKind_85 : decode cX7_matchKind 85 = .ok (.aload_n 3, 1) := by decide +kernel
theorem dX7_matchKind_86 : decode cX7_matchKind 86 = .ok (.iload 6, 2) := by decide +kernel
theorem dX7_matchKind_88 : decode cX7_matchKind 88 = .ok (.aload_n 0, 1) := by decide +kernel
theorem dX7_matchKind_89 : decode cX7_matchKind 89 = .ok (.iload 8, 2) := by decide +kernel
theorem dX7_matchKind_91 : decode cX7_matchKind 91 = .ok (.iload 5, 2) := by decide +kernel
theorem dX7_matchKind_93 : decode cX7_matchKind 93 = .ok (.iload 9, 2) := by decide +kernel
theorem dX7_matchKind_95 : decode cX7_matchKind 95 = .ok (.invokevirtual 83, 3) := by decide +kernel
theorem dX7_matchKind_98 : decode cX7_matchKind 98 = .ok (.invokevirtual 87, 3) := by decide +kernel
theorem dX7_matchKind_101 : decode cX7_matchKind 101 = .ok (.iinc 6 1, 3) := by decide +kernel
theorem dX7_matchKind_104 : decode cX7_matchKind 104 = .ok (.iload 5, 2) := by decide +kernel
theorem dX7_matchKind_106 : decode cX7_matchKind 106 = .ok (.iload 9, 2) := by decide +kernel
theorem dX7_matchKind_108 : decode cX7_matchKind 108 = .ok (.iadd, 1) := by decide +kernel
theorem dX7_matchKind_109 : decode cX7_matchKind 109 = .ok (.istore 5, 2) := by decide +kernel
theorem dX7_matchKind_111 : decode cX7_matchKind 111 = .ok (.iinc 7 1, 3) := by decide +kernel
theorem dX7_matchKind_114 : decode cX7_matchKind 114 = .ok (.goto (-99), 3) := by decide +kernel
theorem dX7_matchKind_117 : decode cX7_matchKind 117 = .ok (.aload_n 3, 1) := by decide +kernel
theorem dX7_matchKind_118 : decode cX7_matchKind 118 = .ok (.iload_n 1, 1) := by decide +kernel
theorem dX7_matchKind_119 : decode cX7_matchKind 119 = .ok (.putfield 91, 3) := by decide +kernel
theorem dX7_matchKind_122 : decode cX7_matchKind 122 = .ok (.iload 5, 2) := by decide +kernel
theorem dX7_matchKind_124 : decode cX7_matchKind 124 = .ok (.ireturn, 1) := by decide +kernel
theorem dX7_widthOf_0 : decode cX7_widthOf 0 = .ok (.iload_n 1, 1) := by decide +kernel
theorem dX7_widthOf_1 : decode cX7_widthOf 1 = .ok (.bipush 78, 2) := by decide +kernel
theorem dX7_widthOf_3 : decode cX7_widthOf 3 = .ok (.if_icmp .ne 23, 3) := by decide +kernel
theorem dX7_widthOf_6 : decode cX7_widthOf 6 = .ok (.aload_n 0, 1) := by decide +kernel
theorem dX7_widthOf_7 : decode cX7_widthOf 7 = .ok (.iload_n 2, 1) := by decide +kernel
theorem dX7_widthOf_8 : decode cX7_widthOf 8 = .ok (.invokevirtual 94, 3) := by decide +kernel
theorem dX7_widthOf_11 : decode cX7_widthOf 11 = .ok (.ifCond .eq 15, 3) := by decide +kernel
theorem dX7_widthOf_14 : decode cX7_widthOf 14 = .ok (.aload_n 0, 1) := by decide +kernel
theorem dX7_widthOf_15 : decode cX7_widthOf 15 = .ok (.iload_n 2, 1) := by decide +kernel
theorem dX7_widthOf_16 : decode cX7_widthOf 16 = .ok (.iconst 1, 1) := by decide +kernel
theorem dX7_widthOf_17 : decode cX7_widthOf 17 = .ok (.iadd, 1) := by decide +kernel
theorem dX7_widthOf_18 : decode cX7_widthOf 18 = .ok (.invokevirtual 94, 3) := by decide +kernel
theorem dX7_widthOf_21 : decode cX7_widthOf 21 = .ok (.ifCond .eq 5, 3) := by decide +kernel
theorem dX7_widthOf_24 : decode cX7_widthOf 24 = .ok (.iconst 2, 1) := by decide +kernel
theorem dX7_widthOf_25 : decode cX7_widthOf 25 = .ok (.ireturn, 1) := by decide +kernel
theorem dX7_widthOf_26 : decode cX7_widthOf 26 = .ok (.iload_n 1, 1) := by decide +kernel
theorem dX7_widthOf_27 : decode cX7_widthOf 27 = .ok (.bipush 78, 2) := by decide +kernel
theorem dX7_widthOf_29 : decode cX7_widthOf 29 = .ok (.if_icmp .eq 9, 3) := by decide +kernel
theorem dX7_widthOf_32 : decode cX7_widthOf 32 = .ok (.iload_n 1, 1) := by decide +kernel
theorem dX7_widthOf_33 : decode cX7_widthOf 33 = .ok (.bipush 68, 2) := by decide +kernel
theorem dX7_widthOf_35 : decode cX7_widthOf 35 = .ok (.if_icmp .ne 17, 3) := by decide +kernel
theorem dX7_widthOf_38 : decode cX7_widthOf 38 = .ok (.aload_n 0, 1) := by decide +kernel
theorem dX7_widthOf_39 : decode cX7_widthOf 39 = .ok (.iload_n 2, 1) := by decide +kernel
theorem dX7_widthOf_40 : decode cX7_widthOf 40 = .ok (.invokevirtual 94, 3) := by decide +kernel
theorem dX7_widthOf_43 : decode cX7_widthOf 43 = .ok (.ifCond .eq 7, 3) := by decide +kernel
theorem dX7_widthOf_46 : decode cX7_widthOf 46 = .ok (.iconst 1, 1) := by decide +kernel
theorem dX7_widthOf_47 : decode cX7_widthOf 47 = .ok (.goto 4, 3) := by decide +kernel
theorem dX7_widthOf_50 : decode cX7_widthOf 50 = .ok (.iconst 0, 1) := by decide +kernel
theorem dX7_widthOf_51 : decode cX7_widthOf 51 = .ok (.ireturn, 1) := by decide +kernel
theorem dX7_widthOf_52 : decode cX7_widthOf 52 = .ok (.iload_n 1, 1) := by decide +kernel
theorem dX7_widthOf_53 : decode cX7_widthOf 53 = .ok (.bipush 80, 2) := by decide +kernel
theorem dX7_widthOf_55 : decode cX7_widthOf 55 = .ok (.if_icmp .ne 29, 3) := by decide +kernel
theorem dX7_widthOf_58 : decode cX7_widthOf 58 = .ok (.aload_n 0, 1) := by decide +kernel
theorem dX7_widthOf_59 : decode cX7_widthOf 59 = .ok (.iload_n 2, 1) := by decide +kernel
theorem dX7_widthOf_60 : decode cX7_widthOf 60 = .ok (.bipush 110, 2) := by decide +kernel
theorem dX7_widthOf_62 : decode cX7_widthOf 62 = .ok (.invokevirtual 36, 3) := by decide +kernel
theorem dX7_widthOf_65 : decode cX7_widthOf 65 = .ok (.ifCond .ne 13, 3) := by decide +kernel
theorem dX7_widthOf_68 : decode cX7_widthOf 68 = .ok (.aload_n 0, 1) := by decide +kernel
theorem dX7_widthOf_69 : decode cX7_widthOf 69 = .ok (.iload_n 2, 1) := by decide +kernel
theorem dX7_widthOf_70 : decode cX7_widthOf 70 = .ok (.bipush 115, 2) := by decide +kernel
theorem dX7_widthOf_72 : decode cX7_widthOf 72 = .ok (.invokevirtual 36, 3) := by decide +kernel
theorem dX7_widthOf_75 : decode cX7_widthOf 75 = .ok (.ifCond .eq 7, 3) := by decide +kernel
theorem dX7_widthOf_78 : decode cX7_widthOf 78 = .ok (.iconst 1, 1) := by decide +kernel
theorem dX7_widthOf_79 : decode cX7_widthOf 79 = .ok (.goto 4, 3) := by decide +kernel
theorem dX7_widthOf_82 : decode cX7_widthOf 82 = .ok (.iconst 0, 1) := by decide +kernel
theorem dX7_widthOf_83 : decode cX7_widthOf 83 = .ok (.ireturn, 1) := by decide +kernel
theorem dX7_widthOf_84 : decode cX7_widthOf 84 = .ok (.aload_n 0, 1) := by decide +kernel
theorem dX7_widthOf_85 : decode cX7_widthOf 85 = .ok (.iload_n 2, 1) := by decide +kernel
theorem dX7_widthOf_86 : decode cX7_widthOf 86 = .ok (.iload_n 1, 1) := by decide +kernel
theorem dX7_widthOf_87 : decode cX7_widthOf 87 = .ok (.invokevirtual 36, 3) := by decide +kernel
theorem dX7_widthOf_90 : decode cX7_widthOf 90 = .ok (.ifCond .eq 7, 3) := by decide +kernel
theorem dX7_widthOf_93 : decode cX7_widthOf 93 = .ok (.iconst 1, 1) := by decide +kernel
theorem dX7_widthOf_94 : decode cX7_widthOf 94 = .ok (.goto 4, 3) := by decide +kernel
theorem dX7_widthOf_97 : decode cX7_widthOf 97 = .ok (.iconst 0, 1) := by decide +kernel
theorem dX7_widthOf_98 : decode cX7_widthOf 98 = .ok (.ireturn, 1) := by decide +kernel
theorem dX7_isDigitAt_0 : decode cX7_isDigitAt 0 = .ok (.iload_n 1, 1) := by decide +kernel
theorem dX7_isDigitAt_1 : decode cX7_isDigitAt 1 = .ok (.ifCond .lt 37, 3) := by decide +kernel
theorem dX7_isDigitAt_4 : decode cX7_isDigitAt 4 = .ok (.iload_n 1, 1) := by decide +kernel
theorem dX7_isDigitAt_5 : decode cX7_isDigitAt 5 = .ok (.aload_n 0, 1) := by decide +kernel
theorem dX7_isDigitAt_6 : decode cX7_isDigitAt 6 = .ok (.getfield 22, 3) := by decide +kernel
theorem dX7_isDigitAt_9 : decode cX7_isDigitAt 9 = .ok (.if_icmp .ge 29, 3) := by decide +kernel
theorem dX7_isDigitAt_12 : decode cX7_isDigitAt 12 = .ok (.aload_n 0, 1) := by decide +kernel
theorem dX7_isDigitAt_13 : decode cX7_isDigitAt 13 = .ok (.getfield 9, 3) := by decide +kernel
theorem dX7_isDigitAt_16 : decode cX7_isDigitAt 16 = .ok (.iload_n 1, 1) := by decide +kernel
theorem dX7_isDigitAt_17 : decode cX7_isDigitAt 17 = .ok (.caload, 1) := by decide +kernel
theorem dX7_isDigitAt_18 : decode cX7_isDigitAt 18 = .ok (.bipush 48, 2) := by decide +kernel
theorem dX7_isDigitAt_20 : decode cX7_isDigitAt 20 = .ok (.if_icmp .lt 18, 3) := by decide +kernel
theorem dX7_isDigitAt_23 : decode cX7_isDigitAt 23 = .ok (.aload_n 0, 1) := by decide +kernel
theorem dX7_isDigitAt_24 : decode cX7_isDigitAt 24 = .ok (.getfield 9, 3) := by decide +kernel
theorem dX7_isDigitAt_27 : decode cX7_isDigitAt 27 = .ok (.iload_n 1, 1) := by decide +kernel
theorem dX7_isDigitAt_28 : decode cX7_isDigitAt 28 = .ok (.caload, 1) := by decide +kernel
theorem dX7_isDigitAt_29 : decode cX7_isDigitAt 29 = .ok (.bipush 57, 2) := by decide +kernel
theorem dX7_isDigitAt_31 : decode cX7_isDigitAt 31 = .ok (.if_icmp .gt 7, 3) := by decide +kernel
theorem dX7_isDigitAt_34 : decode cX7_isDigitAt 34 = .ok (.iconst 1, 1) := by decide +kernel
theorem dX7_isDigitAt_35 : decode cX7_isDigitAt 35 = .ok (.goto 4, 3) := by decide +kernel
theorem dX7_isDigitAt_38 : decode cX7_isDigitAt 38 = .ok (.iconst 0, 1) := by decide +kernel
theorem dX7_isDigitAt_39 : decode cX7_isDigitAt 39 = .ok (.ireturn, 1) := by decide +kernel
theorem dX7_hasAt_0 : decode cX7_hasAt 0 = .ok (.iload_n 1, 1) := by decide +kernel
theorem dX7_hasAt_1 : decode cX7_hasAt 1 = .ok (.ifCond .lt 25, 3) := by decide +kernel
theorem dX7_hasAt_4 : decode cX7_hasAt 4 = .ok (.iload_n 1, 1) := by decide +kernel
theorem dX7_hasAt_5 : decode cX7_hasAt 5 = .ok (.aload_n 0, 1) := by decide +kernel
theorem dX7_hasAt_6 : decode cX7_hasAt 6 = .ok (.getfield 22, 3) := by decide +kernel
theorem dX7_hasAt_9 : decode cX7_hasAt 9 = .ok (.if_icmp .ge 17, 3) := by decide +kernel
theorem dX7_hasAt_12 : decode cX7_hasAt 12 = .ok (.aload_n 0, 1) := by decide +kernel
theorem dX7_hasAt_13 : decode cX7_hasAt 13 = .ok (.getfield 9, 3) := by decide +kernel
theorem dX7_hasAt_16 : decode cX7_hasAt 16 = .ok (.iload_n 1, 1) := by decide +kernel
theorem dX7_hasAt_17 : decode cX7_hasAt 17 = .ok (.caload, 1) := by decide +kernel
theorem dX7_hasAt_18 : decode cX7_hasAt 18 = .ok (.iload_n 2, 1) := by decide +kernel
theorem dX7_hasAt_19 : decode cX7_hasAt 19 = .ok (.if_icmp .ne 7, 3) := by decide +kernel
theorem dX7_hasAt_22 : decode cX7_hasAt 22 = .ok (.iconst 1, 1) := by decide +kernel
theorem dX7_hasAt_23 : decode cX7_hasAt 23 = .ok (.goto 4, 3) := by decide +kernel
theorem dX7_hasAt_26 : decode cX7_hasAt 26 = .ok (.iconst 0, 1) := by decide +kernel
theorem dX7_hasAt_27 : decode cX7_hasAt 27 = .ok (.ireturn, 1) := by decide +kernel
theorem dX7_valueOf_0 : decode cX7_valueOf 0 = .ok (.iload_n 1, 1) := by decide +kernel
theorem dX7_valueOf_1 : decode cX7_valueOf 1 = .ok (.bipush 80, 2) := by decide +kernel
theorem dX7_valueOf_3 : decode cX7_valueOf 3 = .ok (.if_icmp .ne 19, 3) := by decide +kernel
theorem dX7_valueOf_6 : decode cX7_valueOf 6 = .ok (.aload_n 0, 1) := by decide +kernel
theorem dX7_valueOf_7 : decode cX7_valueOf 7 = .ok (.iload_n 2, 1) := by decide +kernel
theorem dX7_valueOf_8 : decode cX7_valueOf 8 = .ok (.bipush 110, 2) := by decide +kernel
theorem dX7_valueOf_10 : decode cX7_valueOf 10 = .ok (.invokevirtual 36, 3) := by decide +kernel
theorem dX7_valueOf_13 : decode cX7_valueOf 13 = .ok (.ifCond .eq 7, 3) := by decide +kernel
theorem dX7_valueOf_16 : decode cX7_valueOf 16 = .ok (.iconst 1, 1) := by decide +kernel
theorem dX7_valueOf_17 : decode cX7_valueOf 17 = .ok (.goto 4, 3) := by decide +kernel
theorem dX7_valueOf_20 : decode cX7_valueOf 20 = .ok (.iconst 0, 1) := by decide +kernel
theorem dX7_valueOf_21 : decode cX7_valueOf 21 = .ok (.ireturn, 1) := by decide +kernel
theorem dX7_valueOf_22 : decode cX7_valueOf 22 = .ok (.aload_n 0, 1) := by decide +kernel
theorem dX7_valueOf_23 : decode cX7_valueOf 23 = .ok (.getfield 9, 3) := by decide +kernel
theorem dX7_valueOf_26 : decode cX7_valueOf 26 = .ok (.iload_n 2, 1) := by decide +kernel
theorem dX7_valueOf_27 : decode cX7_valueOf 27 = .ok (.caload, 1) := by decide +kernel
theorem dX7_valueOf_28 : decode cX7_valueOf 28 = .ok (.bipush 48, 2) := by decide +kernel
theorem dX7_valueOf_30 : decode cX7_valueOf 30 = .ok (.isub, 1) := by decide +kernel
theorem dX7_valueOf_31 : decode cX7_valueOf 31 = .ok (.istore 4, 2) := by decide +kernel
theorem dX7_valueOf_33 : decode cX7_valueOf 33 = .ok (.iload_n 3, 1) := by decide +kernel
theorem dX7_valueOf_34 : decode cX7_valueOf 34 = .ok (.iconst 1, 1) := by decide +kernel
theorem dX7_valueOf_35 : decode cX7_valueOf 35 = .ok (.if_icmp .ne 8, 3) := by decide +kernel
theorem dX7_valueOf_38 : decode cX7_valueOf 38 = .ok (.iload 4, 2) := by decide +kernel
theorem dX7_valueOf_40 : decode cX7_valueOf 40 = .ok (.goto 20, 3) := by decide +kernel
theorem dX7_valueOf_43 : decode cX7_valueOf 43 = .ok (.bipush 10, 2) := by decide +kernel
theorem dX7_valueOf_45 : decode cX7_valueOf 45 = .ok (.iload 4, 2) := by decide +kernel
theorem dX7_valueOf_47 : decode cX7_valueOf 47 = .ok (.imul, 1) := by decide +kernel
theorem dX7_valueOf_48 : decode cX7_valueOf 48 = .ok (.aload_n 0, 1) := by decide +kernel
theorem dX7_valueOf_49 : decode cX7_valueOf 49 = .ok (.getfield 9, 3) := by decide +kernel
theorem dX7_valueOf_52 : decode cX7_valueOf 52 = .ok (.iload_n 2, 1) := by decide +kernel
theorem dX7_valueOf_53 : decode cX7_valueOf 53 = .ok (.iconst 1, 1) := by decide +kernel
theorem dX7_valueOf_54 : decode cX7_valueOf 54 = .ok (.iadd, 1) := by decide +kernel
theorem dX7_valueOf_55 : decode cX7_valueOf 55 = .ok (.caload, 1) := by decide +kernel
theorem dX7_valueOf_56 : decode cX7_valueOf 56 = .ok (.iadd, 1) := by decide +kernel
theorem dX7_valueOf_57 : decode cX7_valueOf 57 = .ok (.bipush 48, 2) := by decide +kernel
theorem dX7_valueOf_59 : decode cX7_valueOf 59 = .ok (.isub, 1) := by decide +kernel
theorem dX7_valueOf_60 : decode cX7_valueOf 60 = .ok (.ireturn, 1) := by decide +kernel

theorem dX9_init_0 : decode cX9_init 0 = .ok (.aload_n 0, 1) := by decide +kernel
theorem dX9_init_1 : decode cX9_init 1 = .ok (.invokespecial 1, 3) := by decide +kernel
theorem dX9_init_4 : decode cX9_init 4 = .ok (.aload_n 0, 1) := by decide +kernel
theorem dX9_init_5 : decode cX9_init 5 = .ok (.bipush 72, 2) := by decide +kernel
theorem dX9_init_7 : decode cX9_init 7 = .ok (.newarray .int, 2) := by decide +kernel
theorem dX9_init_9 : decode cX9_init 9 = .ok (.putfield 7, 3) := by decide +kernel
theorem dX9_init_12 : decode cX9_init 12 = .ok (.aload_n 0, 1) := by decide +kernel
theorem dX9_init_13 : decode cX9_init 13 = .ok (.sipush 576, 3) := by decide +kernel
theorem dX9_init_16 : decode cX9_init 16 = .ok (.newarray .int, 2) := by decide +kernel
theorem dX9_init_18 : decode cX9_init 18 = .ok (.putfield 13, 3) := by decide +kernel
theorem dX9_init_21 : decode cX9_init 21 = .ok (.aload_n 0, 1) := by decide +kernel
theorem dX9_init_22 : decode cX9_init 22 = .ok (.bipush 72, 2) := by decide +kernel
theorem dX9_init_24 : decode cX9_init 24 = .ok (.newarray .int, 2) := by decide +kernel
theorem dX9_init_26 : decode cX9_init 26 = .ok (.putfield 16, 3) := by decide +kernel
theorem dX9_init_29 : decode cX9_init 29 = .ok (.aload_n 0, 1) := by decide +kernel
theorem dX9_init_30 : decode cX9_init 30 = .ok (.bipush 72, 2) := by decide +kernel
theorem dX9_init_32 : decode cX9_init 32 = .ok (.newarray .int, 2) := by decide +kernel
theorem dX9_init_34 : decode cX9_init 34 = .ok (.putfield 19, 3) := by decide +kernel
theorem dX9_init_37 : decode cX9_init 37 = .ok (.aload_n 0, 1) := by decide +kernel
theorem dX9_init_38 : decode cX9_init 38 = .ok (.bipush 60, 2) := by decide +kernel
theorem dX9_init_40 : decode cX9_init 40 = .ok (.newarray .int, 2) := by decide +kernel
theorem dX9_init_42 : decode cX9_init 42 = .ok (.putfield 22, 3) := by decide +kernel
theorem dX9_init_45 : decode cX9_init 45 = .ok (.aload_n 0, 1) := by decide +kernel
theorem dX9_init_46 : decode cX9_init 46 = .ok (.iconst (-1), 1) := by decide +kernel
theorem dX9_init_47 : decode cX9_init 47 = .ok (.putfield 25, 3) := by decide +kernel
theorem dX9_init_50 : decode cX9_init 50 = .ok (.aload_n 0, 1) := by decide +kernel
theorem dX9_init_51 : decode cX9_init 51 = .ok (.bipush 60, 2) := by decide +kernel
theorem dX9_init_53 : decode cX9_init 53 = .ok (.newarray .char, 2) := by decide +kernel
theorem dX9_init_55 : decode cX9_init 55 = .ok (.putfield 29, 3) := by decide +kernel
theorem dX9_init_58 : decode cX9_init 58 = .ok (.aload_n 0, 1) := by decide +kernel
theorem dX9_init_59 : decode cX9_init 59 = .ok (.bipush 124, 2) := by decide +kernel
theorem dX9_init_61 : decode cX9_init 61 = .ok (.newarray .int, 2) := by decide +kernel
theorem dX9_init_63 : decode cX9_init 63 = .ok (.putfield 33, 3) := by decide +kernel
theorem dX9_init_66 : decode cX9_init 66 = .ok (.return_, 1) := by decide +kernel
theorem dX9_thrown_0 : decode cX9_thrown 0 = .ok (.aload_n 0, 1) := by decide +kernel
theorem dX9_thrown_1 : decode cX9_thrown 1 = .ok (.getfield 36, 3) := by decide +kernel
theorem dX9_thrown_4 : decode cX9_thrown 4 = .ok (.ireturn, 1) := by decide +kernel
theorem dX9_fails_0 : decode cX9_fails 0 = .ok (.aload_n 0, 1) := by decide +kernel
theorem dX9_fails_1 : decode cX9_fails 1 = .ok (.iload_n 1, 1) := by decide +kernel
theorem dX9_fails_2 : decode cX9_fails 2 = .ok (.putfield 36, 3) := by decide +kernel
theorem dX9_fails_5 : decode cX9_fails 5 = .ok (.aload_n 0, 1) := by decide +kernel
theorem dX9_fails_6 : decode cX9_fails 6 = .ok (.iconst 0, 1) := by decide +kernel
theorem dX9_fails_7 : decode cX9_fails 7 = .ok (.putfield 39, 3) := by decide +kernel
theorem dX9_fails_10 : decode cX9_fails 10 = .ok (.iload_n 1, 1) := by decide +kernel
theorem dX9_fails_11 : decode cX9_fails 11 = .ok (.ifCond .le 7, 3) := by decide +kernel
theorem dX9_fails_14 : decode cX9_fails 14 = .ok (.iconst 1, 1) := by decide +kernel
theorem dX9_fails_15 : decode cX9_fails 15 = .ok (.goto 4, 3) := by decide +kernel
theorem dX9_fails_18 : decode cX9_fails 18 = .ok (.iconst 0, 1) := by decide +kernel
theorem dX9_fails_19 : decode cX9_fails 19 = .ok (.ireturn, 1) := by decide +kernel
theorem dX9_denies_0 : decode cX9_denies 0 = .ok (.aload_n 0, 1) := by decide +kernel
theorem dX9_denies_1 : decode cX9_denies 1 = .ok (.iload_n 1, 1) := by decide +kernel
theorem dX9_denies_2 : decode cX9_denies 2 = .ok (.putfield 36, 3) := by decide +kernel
theorem dX9_denies_5 : decode cX9_denies 5 = .ok (.aload_n 0, 1) := by decide +kernel
theorem dX9_denies_6 : decode cX9_denies 6 = .ok (.iconst 1, 1) := by decide +kernel
theorem dX9_denies_7 : decode cX9_denies 7 = .ok (.putfield 39, 3) := by decide +kernel
theorem dX9_denies_10 : decode cX9_denies 10 = .ok (.aload_n 0, 1) := by decide +kernel
theorem dX9_denies_11 : decode cX9_denies 11 = .ok (.iload_n 2, 1) := by decide +kernel
theorem dX9_denies_12 : decode cX9_denies 12 = .ok (.putfield 43, 3) := by decide +kernel
theorem dX9_denies_15 : decode cX9_denies 15 = .ok (.aload_n 0, 1) := by decide +kernel
theorem dX9_denies_16 : decode cX9_denies 16 = .ok (.iload_n 3, 1) := by decide +kernel
theorem dX9_denies_17 : decode cX9_denies 17 = .ok (.putfield 46, 3) := by decide +kernel
theorem dX9_denies_20 : decode cX9_denies 20 = .ok (.aload_n 0, 1) := by decide +kernel
theorem dX9_denies_21 : decode cX9_denies 21 = .ok (.iconst 0, 1) := by decide +kernel
theorem dX9_denies_22 : decode cX9_denies 22 = .ok (.putfield 49, 3) := by decide +kernel
theorem dX9_denies_25 : decode cX9_denies 25 = .ok (.iconst 0, 1) := by decide +kernel
theorem dX9_denies_26 : decode cX9_denies 26 = .ok (.ireturn, 1) := by decide +kernel
theorem dX9_in_0 : decode cX9_in 0 = .ok (.iload_n 0, 1) := by decide +kernel
theorem dX9_in_1 : decode cX9_in 1 = .ok (.iload_n 1, 1) := by decide +kernel
theorem dX9_in_2 : decode cX9_in 2 = .ok (.if_icmp .lt 12, 3) := by decide +kernel
theorem dX9_in_5 : decode cX9_in 5 = .ok (.iload_n 0, 1) := by decide +kernel
theorem dX9_in_6 : decode cX9_in 6 = .ok (.iload_n 2, 1) := by decide +kernel
theorem dX9_in_7 : decode cX9_in 7 = .ok (.if_icmp .gt 7, 3) := by decide +kernel
theorem dX9_in_10 : decode cX9_in 10 = .ok (.iconst 1, 1) := by decide +kernel
theorem dX9_in_11 : decode cX9_in 11 = .ok (.goto 4, 3) := by decide +kernel
theorem dX9_in_14 : decode cX9_in 14 = .ok (.iconst 0, 1) := by decide +kernel
theorem dX9_in_15 : decode cX9_in 15 = .ok (.ireturn, 1) := by decide +kernel
theorem dX9_size_0 : decode cX9_size 0 = .ok (.iload_n 0, 1) := by decide +kernel
theorem dX9_size_1 : decode cX9_size 1 = .ok (.ifCond .ge 8, 3) := by decide +kernel
theorem dX9_size_4 : decode cX9_size 4 = .ok (.iload_n 0, 1) := by decide +kernel
theorem dX9_size_5 : decode cX9_size 5 = .ok (.ineg, 1) := by decide +kernel
theorem dX9_size_6 : decode cX9_size 6 = .ok (.goto 4, 3) := by decide +kernel
theorem dX9_size_9 : decode cX9_size 9 = .ok (.iload_n 0, 1) := by decide +kernel
theorem dX9_size_10 : decode cX9_size 10 = .ok (.ireturn, 1) := by decide +kernel
theorem dX9_strong_0 : decode cX9_strong 0 = .ok (.dload_n 0, 1) := by decide +kernel
theorem dX9_strong_1 : decode cX9_strong 1 = .ok (.dconst 0, 1) := by decide +kernel
theorem dX9_strong_2 : decode cX9_strong 2 = .ok (.dcmp .g, 1) := by decide +kernel
theorem dX9_strong_3 : decode cX9_strong 3 = .ok (.ifCond .ge 9, 3) := by decide +kernel
theorem dX9_strong_6 : decode cX9_strong 6 = .ok (.dconst 0, 1) := by decide +kernel
theorem dX9_strong_7 : decode cX9_strong 7 = .ok (.dload_n 0, 1) := by decide +kernel
theorem dX9_strong_8 : decode cX9_strong 8 = .ok (.dsub, 1) := by decide +kernel
theorem dX9_strong_9 : decode cX9_strong 9 = .ok (.goto 4, 3) := by decide +kernel
theorem dX9_strong_12 : decode cX9_strong 12 = .ok (.dload_n 0, 1) := by decide +kernel
theorem dX9_strong_13 : decode cX9_strong 13 = .ok (.dreturn, 1) := by decide +kernel
theorem dX9_copies_0 : decode cX9_copies 0 = .ok (.iconst 0, 1) := by decide +kernel
theorem dX9_copies_1 : decode cX9_copies 1 = .ok (.istore 4, 2) := by decide +kernel
theorem dX9_copies_3 : decode cX9_copies 3 = .ok (.iload 4, 2) := by decide +kernel
theorem dX9_copies_5 : decode cX9_copies 5 = .ok (.bipush 72, 2) := by decide +kernel
theorem dX9_copies_7 : decode cX9_copies 7 = .ok (.if_icmp .ge 21, 3) := by decide +kernel
theorem dX9_copies_10 : decode cX9_copies 10 = .ok (.aload_n 2, 1) := by decide +kernel
theorem dX9_copies_11 : decode cX9_copies 11 = .ok (.iload_n 3, 1) := by decide +kernel
theorem dX9_copies_12 : decode cX9_copies 12 = .ok (.iload 4, 2) := by decide +kernel
theorem dX9_copies_14 : decode cX9_copies 14 = .ok (.iadd, 1) := by decide +kernel
theorem dX9_copies_15 : decode cX9_copies 15 = .ok (.aload_n 0, 1) := by decide +kernel
theorem dX9_copies_16 : decode cX9_copies 16 = .ok (.iload_n 1, 1) := by decide +kernel
theorem dX9_copies_17 : decode cX9_copies 17 = .ok (.iload 4, 2) := by decide +kernel
theorem dX9_copies_19 : decode cX9_copies 19 = .ok (.iadd, 1) := by decide +kernel
theorem dX9_copies_20 : decode cX9_copies 20 = .ok (.iaload, 1) := by decide +kernel
theorem dX9_copies_21 : decode cX9_copies 21 = .ok (.iastore, 1) := by decide +kernel
theorem dX9_copies_22 : decode cX9_copies 22 = .ok (.iinc 4 1, 3) := by decide +kernel
theorem dX9_copies_25 : decode cX9_copies 25 = .ok (.goto (-22), 3) := by decide +kernel
theorem dX9_copies_28 : decode cX9_copies 28 = .ok (.return_, 1) := by decide +kernel
theorem dX9_keeps_0 : decode cX9_keeps 0 = .ok (.aload_n 0, 1) := by decide +kernel
theorem dX9_keeps_1 : decode cX9_keeps 1 = .ok (.iconst 0, 1) := by decide +kernel
theorem dX9_keeps_2 : decode cX9_keeps 2 = .ok (.putfield 36, 3) := by decide +kernel
theorem dX9_keeps_5 : decode cX9_keeps 5 = .ok (.aload_n 0, 1) := by decide +kernel
theorem dX9_keeps_6 : decode cX9_keeps 6 = .ok (.getfield 52, 3) := by decide +kernel
theorem dX9_keeps_9 : decode cX9_keeps 9 = .ok (.ifCond .eq 4, 3) := by decide +kernel
theorem dX9_keeps_12 : decode cX9_keeps 12 = .ok (.return_, 1) := by decide +kernel
theorem dX9_keeps_13 : decode cX9_keeps 13 = .ok (.aload_n 0, 1) := by decide +kernel
theorem dX9_keeps_14 : decode cX9_keeps 14 = .ok (.getfield 55, 3) := by decide +kernel
theorem dX9_keeps_17 : decode cX9_keeps 17 = .ok (.bipush 8, 2) := by decide +kernel
theorem dX9_keeps_19 : decode cX9_keeps 19 = .ok (.if_icmp .ne 43, 3) := by decide +kernel
theorem dX9_keeps_22 : decode cX9_keeps 22 = .ok (.iconst 0, 1) := by decide +kernel
theorem dX9_keeps_23 : decode cX9_keeps 23 = .ok (.istore_n 2, 1) := by decide +kernel
theorem dX9_keeps_24 : decode cX9_keeps 24 = .ok (.iload_n 2, 1) := by decide +kernel
theorem dX9_keeps_25 : decode cX9_keeps 25 = .ok (.sipush 504, 3) := by decide +kernel
theorem dX9_keeps_28 : decode cX9_keeps 28 = .ok (.if_icmp .ge 24, 3) := by decide +kernel
theorem dX9_keeps_31 : decode cX9_keeps 31 = .ok (.aload_n 0, 1) := by decide +kernel
theorem dX9_keeps_32 : decode cX9_keeps 32 = .ok (.getfield 13, 3) := by decide +kernel
theorem dX9_keeps_35 : decode cX9_keeps 35 = .ok (.iload_n 2, 1) := by decide +kernel
theorem dX9_keeps_36 : decode cX9_keeps 36 = .ok (.aload_n 0, 1) := by decide +kernel
theorem dX9_keeps_37 : decode cX9_keeps 37 = .ok (.getfield 13, 3) := by decide +kernel
theorem dX9_keeps_40 : decode cX9_keeps 40 = .ok (.iload_n 2, 1) := by decide +kernel
theorem dX9_keeps_41 : decode cX9_keeps 41 = .ok (.bipush 72, 2) := by decide +kernel
theorem dX9_keeps_43 : decode cX9_keeps 43 = .ok (.iadd, 1) := by decide +kernel
theorem dX9_keeps_44 : decode cX9_keeps 44 = .ok (.iaload, 1) := by decide +kernel
theorem dX9_keeps_45 : decode cX9_keeps 45 = .ok (.iastore, 1) := by decide +kernel
theorem dX9_keeps_46 : decode cX9_keeps 46 = .ok (.iinc 2 1, 3) := by decide +kernel
theorem dX9_keeps_49 : decode cX9_keeps 49 = .ok (.goto (-25), 3) := by decide +kernel
theorem dX9_keeps_52 : decode cX9_keeps 52 = .ok (.aload_n 0, 1) := by decide +kernel
theorem dX9_keeps_53 : decode cX9_keeps 53 = .ok (.dup, 1) := by decide +kernel
theorem dX9_keeps_54 : decode cX9_keeps 54 = .ok (.getfield 55, 3) := by decide +kernel
theorem dX9_keeps_57 : decode cX9_keeps 57 = .ok (.iconst 1, 1) := by decide +kernel
theorem dX9_keeps_58 : decode cX9_keeps 58 = .ok (.isub, 1) := by decide +kernel
theorem dX9_keeps_59 : decode cX9_keeps 59 = .ok (.putfield 55, 3) := by decide +kernel
theorem dX9_keeps_62 : decode cX9_keeps 62 = .ok (.aload_n 1, 1) := by decide +kernel
theorem dX9_keeps_63 : decode cX9_keeps 63 = .ok (.iconst 0, 1) := by decide +kernel
theorem dX9_keeps_64 : decode cX9_keeps 64 = .ok (.aload_n 0, 1) := by decide +kernel
theorem dX9_keeps_65 : decode cX9_keeps 65 = .ok (.getfield 13, 3) := by decide +kernel
theorem dX9_keeps_68 : decode cX9_keeps 68 = .ok (.bipush 72, 2) := by decide +kernel
theorem dX9_keeps_70 : decode cX9_keeps 70 = .ok (.aload_n 0, 1) := by decide +kernel
theorem dX9_keeps_71 : decode cX9_keeps 71 = .ok (.getfield 55, 3) := by decide +kernel
theorem dX9_keeps_74 : decode cX9_keeps 74 = .ok (.imul, 1) := by decide +kernel
theorem dX9_keeps_75 : decode cX9_keeps 75 = .ok (.invokestatic 58, 3) := by decide +kernel
theorem dX9_keeps_78 : decode cX9_keeps 78 = .ok (.aload_n 0, 1) := by decide +kernel
theorem dX9_keeps_79 : decode cX9_keeps 79 = .ok (.dup, 1) := by decide +kernel
theorem dX9_keeps_80 : decode cX9_keeps 80 = .ok (.getfield 55, 3) := by decide +kernel
theorem dX9_keeps_83 : decode cX9_keeps 83 = .ok (.iconst 1, 1) := by decide +kernel
theorem dX9_keeps_84 : decode cX9_keeps 84 = .ok (.iadd, 1) := by decide +kernel
theorem dX9_keeps_85 : decode cX9_keeps 85 = .ok (.putfield 55, 3) := by decide +kernel
theorem dX9_keeps_88 : decode cX9_keeps 88 = .ok (.return_, 1) := by decide +kernel
theorem dX9_bits_0 : decode cX9_bits 0 = .ok (.iconst 0, 1) := by decide +kernel
theorem dX9_bits_1 : decode cX9_bits 1 = .ok (.istore_n 1, 1) := by decide +kernel
theorem dX9_bits_2 : decode cX9_bits 2 = .ok (.iconst 0, 1) := by decide +kernel
theorem dX9_bits_3 : decode cX9_bits 3 = .ok (.istore_n 2, 1) := by decide +kernel
theorem dX9_bits_4 : decode cX9_bits 4 = .ok (.iload_n 2, 1) := by decide +kernel
theorem dX9_bits_5 : decode cX9_bits 5 = .ok (.bipush 9, 2) := by decide +kernel
theorem dX9_bits_7 : decode cX9_bits 7 = .ok (.if_icmp .ge 17, 3) := by decide +kernel
theorem dX9_bits_10 : decode cX9_bits 10 = .ok (.iload_n 1, 1) := by decide +kernel
theorem dX9_bits_11 : decode cX9_bits 11 = .ok (.iload_n 0, 1) := by decide +kernel
theorem dX9_bits_12 : decode cX9_bits 12 = .ok (.iload_n 2, 1) := by decide +kernel
theorem dX9_bits_13 : decode cX9_bits 13 = .ok (.ishr, 1) := by decide +kernel
theorem dX9_bits_14 : decode cX9_bits 14 = .ok (.iconst 1, 1) := by decide +kernel
theorem dX9_bits_15 : decode cX9_bits 15 = .ok (.iand, 1) := by decide +kernel
theorem dX9_bits_16 : decode cX9_bits 16 = .ok (.iadd, 1) := by decide +kernel
theorem dX9_bits_17 : decode cX9_bits 17 = .ok (.istore_n 1, 1) := by decide +kernel
theorem dX9_bits_18 : decode cX9_bits 18 = .ok (.iinc 2 1, 3) := by decide +kernel
theorem dX9_bits_21 : decode cX9_bits 21 = .ok (.goto (-17), 3) := by decide +kernel
theorem dX9_bits_24 : decode cX9_bits 24 = .ok (.iload_n 1, 1) := by decide +kernel
theorem dX9_bits_25 : decode cX9_bits 25 = .ok (.ireturn, 1) := by decide +kernel
theorem dX9_isMagnet_0 : decode cX9_isMagnet 0 = .ok (.iload_n 1, 1) := by decide +kernel
theorem dX9_isMagnet_1 : decode cX9_isMagnet 1 = .ok (.iconst 0, 1) := by decide +kernel
theorem dX9_isMagnet_2 : decode cX9_isMagnet 2 = .ok (.aload_n 0, 1) := by decide +kernel
theorem dX9_isMagnet_3 : decode cX9_isMagnet 3 = .ok (.getfield 7, 3) := by decide +kernel
theorem dX9_isMagnet_6 : decode cX9_isMagnet 6 = .ok (.iconst 0, 1) := by decide +kernel
theorem dX9_isMagnet_7 : decode cX9_isMagnet 7 = .ok (.iaload, 1) := by decide +kernel
theorem dX9_isMagnet_8 : decode cX9_isMagnet 8 = .ok (.iconst 1, 1) := by decide +kernel
theorem dX9_isMagnet_9 : decode cX9_isMagnet 9 = .ok (.isub, 1) := by decide +kernel
theorem dX9_isMagnet_10 : decode cX9_isMagnet 10 = .ok (.invokestatic 62, 3) := by decide +kernel
theorem dX9_isMagnet_13 : decode cX9_isMagnet 13 = .ok (.ireturn, 1) := by decide +kernel
theorem dX9_isNone_0 : decode cX9_isNone 0 = .ok (.aload_n 0, 1) := by decide +kernel
theorem dX9_isNone_1 : decode cX9_isNone 1 = .ok (.aload_n 0, 1) := by decide +kernel
theorem dX9_isNone_2 : decode cX9_isNone 2 = .ok (.iload_n 1, 1) := by decide +kernel
theorem dX9_isNone_3 : decode cX9_isNone 3 = .ok (.invokevirtual 66, 3) := by decide +kernel
theorem dX9_isNone_6 : decode cX9_isNone 6 = .ok (.ifCond .eq 7, 3) := by decide +kernel
theorem dX9_isNone_9 : decode cX9_isNone 9 = .ok (.iconst 0, 1) := by decide +kernel
theorem dX9_isNone_10 : decode cX9_isNone 10 = .ok (.goto 4, 3) := by decide +kernel
theorem dX9_isNone_13 : decode cX9_isNone 13 = .ok (.iconst 1, 1) := by decide +kernel
theorem dX9_isNone_14 : decode cX9_isNone 14 = .ok (.invokevirtual 70, 3) := by decide +kernel
theorem dX9_isNone_17 : decode cX9_isNone 17 = .ok (.ireturn, 1) := by decide +kernel
theorem dX9_of_0 : decode cX9_of 0 = .ok (.aload_n 0, 1) := by decide +kernel
theorem dX9_of_1 : decode cX9_of 1 = .ok (.getfield 7, 3) := by decide +kernel
theorem dX9_of_4 : decode cX9_of 4 = .ok (.iconst 4, 1) := by decide +kernel
theorem dX9_of_5 : decode cX9_of 5 = .ok (.iconst 4, 1) := by decide +kernel
theorem dX9_of_6 : decode cX9_of 6 = .ok (.iload_n 1, 1) := by decide +kernel
theorem dX9_of_7 : decode cX9_of 7 = .ok (.imul, 1) := by decide +kernel
theorem dX9_of_8 : decode cX9_of 8 = .ok (.iadd, 1) := by decide +kernel
theorem dX9_of_9 : decode cX9_of 9 = .ok (.iload_n 2, 1) := by decide +kernel
theorem dX9_of_10 : decode cX9_of 10 = .ok (.iadd, 1) := by decide +kernel
theorem dX9_of_11 : decode cX9_of 11 = .ok (.iaload, 1) := by decide +kernel
theorem dX9_of_12 : decode cX9_of 12 = .ok (.ireturn, 1) := by decide +kernel
theorem dX9_lays_0 : decode cX9_lays 0 = .ok (.aload_n 0, 1) := by decide +kernel
theorem dX9_lays_1 : decode cX9_lays 1 = .ok (.getfield 7, 3) := by decide +kernel
theorem dX9_lays_4 : decode cX9_lays 4 = .ok (.iconst 4, 1) := by decide +kernel
theorem dX9_lays_5 : decode cX9_lays 5 = .ok (.iconst 4, 1) := by decide +kernel
theorem dX9_lays_6 : decode cX9_lays 6 = .ok (.iload_n 1, 1) := by decide +kernel
theorem dX9_lays_7 : decode cX9_lays 7 = .ok (.imul, 1) := by decide +kernel
theorem dX9_lays_8 : decode cX9_lays 8 = .ok (.iadd, 1) := by decide +kernel
theorem dX9_lays_9 : decode cX9_lays 9 = .ok (.iload_n 2, 1) := by decide +kernel
theorem dX9_lays_10 : decode cX9_lays 10 = .ok (.iadd, 1) := by decide +kernel
theorem dX9_lays_11 : decode cX9_lays 11 = .ok (.iload_n 3, 1) := by decide +kernel
theorem dX9_lays_12 : decode cX9_lays 12 = .ok (.iastore, 1) := by decide +kernel
theorem dX9_lays_13 : decode cX9_lays 13 = .ok (.return_, 1) := by decide +kernel
theorem dX9_found_0 : decode cX9_found 0 = .ok (.iconst 0, 1) := by decide +kernel
theorem dX9_found_1 : decode cX9_found 1 = .ok (.istore_n 2, 1) := by decide +kernel
theorem dX9_found_2 : decode cX9_found 2 = .ok (.iload_n 2, 1) := by decide +kernel
theorem dX9_found_3 : decode cX9_found 3 = .ok (.aload_n 0, 1) := by decide +kernel
theorem dX9_found_4 : decode cX9_found 4 = .ok (.getfield 7, 3) := by decide +kernel
theorem dX9_found_7 : decode cX9_found 7 = .ok (.iconst 0, 1) := by decide +kernel
theorem dX9_found_8 : decode cX9_found 8 = .ok (.iaload, 1) := by decide +kernel
theorem dX9_found_9 : decode cX9_found 9 = .ok (.if_icmp .ge 21, 3) := by decide +kernel
theorem dX9_found_12 : decode cX9_found 12 = .ok (.aload_n 0, 1) := by decide +kernel
theorem dX9_found_13 : decode cX9_found 13 = .ok (.iload_n 2, 1) := by decide +kernel
theorem dX9_found_14 : decode cX9_found 14 = .ok (.iconst 0, 1) := by decide +kernel
theorem dX9_found_15 : decode cX9_found 15 = .ok (.invokevirtual 73, 3) := by decide +kernel
theorem dX9_found_18 : decode cX9_found 18 = .ok (.iload_n 1, 1) := by decide +kernel
theorem dX9_found_19 : decode cX9_found 19 = .ok (.if_icmp .ne 5, 3) := by decide +kernel
theorem dX9_found_22 : decode cX9_found 22 = .ok (.iload_n 2, 1) := by decide +kernel
theorem dX9_found_23 : decode cX9_found 23 = .ok (.ireturn, 1) := by decide +kernel
theorem dX9_found_24 : decode cX9_found 24 = .ok (.iinc 2 1, 3) := by decide +kernel
theorem dX9_found_27 : decode cX9_found 27 = .ok (.goto (-25), 3) := by decide +kernel
theorem dX9_found_30 : decode cX9_found 30 = .ok (.iconst (-1), 1) := by decide +kernel
theorem dX9_found_31 : decode cX9_found 31 = .ok (.ireturn, 1) := by decide +kernel
theorem dX9_addMagnet_0 : decode cX9_addMagnet 0 = .ok (.aload_n 0, 1) := by decide +kernel
theorem dX9_addMagnet_1 : decode cX9_addMagnet 1 = .ok (.iload_n 1, 1) := by decide +kernel
theorem dX9_addMagnet_2 : decode cX9_addMagnet 2 = .ok (.iconst 0, 1) := by decide +kernel
theorem dX9_addMagnet_3 : decode cX9_addMagnet 3 = .ok (.bipush 99, 2) := by decide +kernel
theorem dX9_addMagnet_5 : decode cX9_addMagnet 5 = .ok (.invokestatic 62, 3) := by decide +kernel
theorem dX9_addMagnet_8 : decode cX9_addMagnet 8 = .ok (.ifCond .eq 17, 3) := by decide +kernel
theorem dX9_addMagnet_11 : decode cX9_addMagnet 11 = .ok (.iload_n 2, 1) := by decide +kernel
theorem dX9_addMagnet_12 : decode cX9_addMagnet 12 = .ok (.iconst 1, 1) := by decide +kernel
theorem dX9_addMagnet_13 : decode cX9_addMagnet 13 = .ok (.bipush 30, 2) := by decide +kernel
theorem dX9_addMagnet_15 : decode cX9_addMagnet 15 = .ok (.invokestatic 62, 3) := by decide +kernel
theorem dX9_addMagnet_18 : decode cX9_addMagnet 18 = .ok (.ifCond .eq 7, 3) := by decide +kernel
theorem dX9_addMagnet_21 : decode cX9_addMagnet 21 = .ok (.iconst 0, 1) := by decide +kernel
theorem dX9_addMagnet_22 : decode cX9_addMagnet 22 = .ok (.goto 4, 3) := by decide +kernel
theorem dX9_addMagnet_25 : decode cX9_addMagnet 25 = .ok (.iconst 1, 1) := by decide +kernel
theorem dX9_addMagnet_26 : decode cX9_addMagnet 26 = .ok (.invokevirtual 70, 3) := by decide +kernel
theorem dX9_addMagnet_29 : decode cX9_addMagnet 29 = .ok (.ifCond .eq 5, 3) := by decide +kernel
theorem dX9_addMagnet_32 : decode cX9_addMagnet 32 = .ok (.iconst 0, 1) := by decide +kernel
theorem dX9_addMagnet_33 : decode cX9_addMagnet 33 = .ok (.ireturn, 1) := by decide +kernel
theorem dX9_addMagnet_34 : decode cX9_addMagnet 34 = .ok (.aload_n 0, 1) := by decide +kernel
theorem dX9_addMagnet_35 : decode cX9_addMagnet 35 = .ok (.getfield 7, 3) := by decide +kernel
theorem dX9_addMagnet_38 : decode cX9_addMagnet 38 = .ok (.iconst 0, 1) := by decide +kernel
theorem dX9_addMagnet_39 : decode cX9_addMagnet 39 = .ok (.iaload, 1) := by decide +kernel
theorem dX9_addMagnet_40 : decode cX9_addMagnet 40 = .ok (.bipush 9, 2) := by decide +kernel
theorem dX9_addMagnet_42 : decode cX9_addMagnet 42 = .ok (.if_icmp .ne 12, 3) := by decide +kernel
theorem dX9_addMagnet_45 : decode cX9_addMagnet 45 = .ok (.aload_n 0, 1) := by decide +kernel
theorem dX9_addMagnet_46 : decode cX9_addMagnet 46 = .ok (.iconst 2, 1) := by decide +kernel
theorem dX9_addMagnet_47 : decode cX9_addMagnet 47 = .ok (.iconst 1, 1) := by decide +kernel
theorem dX9_addMagnet_48 : decode cX9_addMagnet 48 = .ok (.bipush 9, 2) := by decide +kernel
theorem dX9_addMagnet_50 : decode cX9_addMagnet 50 = .ok (.invokevirtual 77, 3) := by decide +kernel
theorem dX9_addMagnet_53 : decode cX9_addMagnet 53 = .ok (.ireturn, 1) := by decide +kernel
theorem dX9_addMagnet_54 : decode cX9_addMagnet 54 = .ok (.aload_n 0, 1) := by decide +kernel
theorem dX9_addMagnet_55 : decode cX9_addMagnet 55 = .ok (.iload_n 1, 1) := by decide +kernel
theorem dX9_addMagnet_56 : decode cX9_addMagnet 56 = .ok (.invokevirtual 81, 3) := by decide +kernel
theorem dX9_addMagnet_59 : decode cX9_addMagnet 59 = .ok (.ifCond .lt 15, 3) := by decide +kernel
theorem dX9_addMagnet_62 : decode cX9_addMagnet 62 = .ok (.aload_n 0, 1) := by decide +kernel
theorem dX9_addMagnet_63 : decode cX9_addMagnet 63 = .ok (.iconst 2, 1) := by decide +kernel
theorem dX9_addMagnet_64 : decode cX9_addMagnet 64 = .ok (.iconst 2, 1) := by decide +kernel
theorem dX9_addMagnet_65 : decode cX9_addMagnet 65 = .ok (.aload_n 0, 1) := by decide +kernel
theorem dX9_addMagnet_66 : decode cX9_addMagnet 66 = .ok (.iload_n 1, 1) := by decide +kernel
theorem dX9_addMagnet_67 : decode cX9_addMagnet 67 = .ok (.invokevirtual 81, 3) := by decide +kernel
theorem dX9_addMagnet_70 : decode cX9_addMagnet 70 = .ok (.invokevirtual 77, 3) := by decide +kernel
theorem dX9_addMagnet_73 : decode cX9_addMagnet 73 = .ok (.ireturn, 1) := by decide +kernel
theorem dX9_addMagnet_74 : decode cX9_addMagnet 74 = .ok (.aload_n 0, 1) := by decide +kernel
theorem dX9_addMagnet_75 : decode cX9_addMagnet 75 = .ok (.aload_n 0, 1) := by decide +kernel
theorem dX9_addMagnet_76 : decode cX9_addMagnet 76 = .ok (.getfield 7, 3) := by decide +kernel
theorem dX9_addMagnet_79 : decode cX9_addMagnet 79 = .ok (.invokevirtual 85, 3) := by decide +kernel
theorem dX9_addMagnet_82 : decode cX9_addMagnet 82 = .ok (.aload_n 0, 1) := by decide +kernel
theorem dX9_addMagnet_83 : decode cX9_addMagnet 83 = .ok (.getfield 7, 3) := by decide +kernel
theorem dX9_addMagnet_86 : decode cX9_addMagnet 86 = .ok (.iconst 0, 1) := by decide +kernel
theorem dX9_addMagnet_87 : decode cX9_addMagnet 87 = .ok (.iaload, 1) := by decide +kernel
theorem dX9_addMagnet_88 : decode cX9_addMagnet 88 = .ok (.istore 4, 2) := by decide +kernel
theorem dX9_addMagnet_90 : decode cX9_addMagnet 90 = .ok (.aload_n 0, 1) := by decide +kernel
theorem dX9_addMagnet_91 : decode cX9_addMagnet 91 = .ok (.getfield 7, 3) := by decide +kernel
theorem dX9_addMagnet_94 : decode cX9_addMagnet 94 = .ok (.iconst 0, 1) := by decide +kernel
theorem dX9_addMagnet_95 : decode cX9_addMagnet 95 = .ok (.dup2, 1) := by decide +kernel
theorem dX9_addMagnet_96 : decode cX9_addMagnet 96 = .ok (.iaload, 1) := by decide +kernel
theorem dX9_addMagnet_97 : decode cX9_addMagnet 97 = .ok (.iconst 1, 1) := by decide +kernel
theorem dX9_addMagnet_98 : decode cX9_addMagnet 98 = .ok (.iadd, 1) := by decide +kernel
theorem dX9_addMagnet_99 : decode cX9_addMagnet 99 = .ok (.iastore, 1) := by decide +kernel
theorem dX9_addMagnet_100 : decode cX9_addMagnet 100 = .ok (.aload_n 0, 1) := by decide +kernel
theorem dX9_addMagnet_101 : decode cX9_addMagnet 101 = .ok (.iload 4, 2) := by decide +kernel
theorem dX9_addMagnet_103 : decode cX9_addMagnet 103 = .ok (.iconst 0, 1) := by decide +kernel
theorem dX9_addMagnet_104 : decode cX9_addMagnet 104 = .ok (.iload_n 1, 1) := by decide +kernel
theorem dX9_addMagnet_105 : decode cX9_addMagnet 105 = .ok (.invokevirtual 89, 3) := by decide +kernel
theorem dX9_addMagnet_108 : decode cX9_addMagnet 108 = .ok (.aload_n 0, 1) := by decide +kernel
theorem dX9_addMagnet_109 : decode cX9_addMagnet 109 = .ok (.iload 4, 2) := by decide +kernel
theorem dX9_addMagnet_111 : decode cX9_addMagnet 111 = .ok (.iconst 1, 1) := by decide +kernel
theorem dX9_addMagnet_112 : decode cX9_addMagnet 112 = .ok (.iload_n 2, 1) := by decide +kernel
theorem dX9_addMagnet_113 : decode cX9_addMagnet 113 = .ok (.invokevirtual 89, 3) := by decide +kernel
theorem dX9_addMagnet_116 : decode cX9_addMagnet 116 = .ok (.aload_n 0, 1) := by decide +kernel
theorem dX9_addMagnet_117 : decode cX9_addMagnet 117 = .ok (.iload 4, 2) := by decide +kernel
theorem dX9_addMagnet_119 : decode cX9_addMagnet 119 = .ok (.iconst 2, 1) := by decide +kernel
theorem dX9_addMagnet_120 : decode cX9_addMagnet 120 = .ok (.iload_n 3, 1) := by decide +kernel
theorem dX9_addMagnet_121 : decode cX9_addMagnet 121 = .ok (.ifCond .eq 7, 3) := by decide +kernel
theorem dX9_addMagnet_124 : decode cX9_addMagnet 124 = .ok (.iconst 1, 1) := by decide +kernel
theorem dX9_addMagnet_125 : decode cX9_addMagnet 125 = .ok (.goto 4, 3) := by decide +kernel
theorem dX9_addMagnet_128 : decode cX9_addMagnet 128 = .ok (.iconst 0, 1) := by decide +kernel
theorem dX9_addMagnet_129 : decode cX9_addMagnet 129 = .ok (.invokevirtual 89, 3) := by decide +kernel
theorem dX9_addMagnet_132 : decode cX9_addMagnet 132 = .ok (.aload_n 0, 1) := by decide +kernel
theorem dX9_addMagnet_133 : decode cX9_addMagnet 133 = .ok (.iload 4, 2) := by decide +kernel
theorem dX9_addMagnet_135 : decode cX9_addMagnet 135 = .ok (.iconst 3, 1) := by decide +kernel
theorem dX9_addMagnet_136 : decode cX9_addMagnet 136 = .ok (.iconst 0, 1) := by decide +kernel
theorem dX9_addMagnet_137 : decode cX9_addMagnet 137 = .ok (.invokevirtual 89, 3) := by decide +kernel
theorem dX9_addMagnet_140 : decode cX9_addMagnet 140 = .ok (.iload 4, 2) := by decide +kernel
theorem dX9_addMagnet_142 : decode cX9_addMagnet 142 = .ok (.ireturn, 1) := by decide +kernel
theorem dX9_setStrength_0 : decode cX9_setStrength 0 = .ok (.aload_n 0, 1) := by decide +kernel
theorem dX9_setStrength_1 : decode cX9_setStrength 1 = .ok (.iload_n 1, 1) := by decide +kernel
theorem dX9_setStrength_2 : decode cX9_setStrength 2 = .ok (.invokevirtual 93, 3) := by decide +kernel
theorem dX9_setStrength_5 : decode cX9_setStrength 5 = .ok (.ifCond .ne 25, 3) := by decide +kernel
theorem dX9_setStrength_8 : decode cX9_setStrength 8 = .ok (.aload_n 0, 1) := by decide +kernel
theorem dX9_setStrength_9 : decode cX9_setStrength 9 = .ok (.iload_n 2, 1) := by decide +kernel
theorem dX9_setStrength_10 : decode cX9_setStrength 10 = .ok (.iconst 1, 1) := by decide +kernel
theorem dX9_setStrength_11 : decode cX9_setStrength 11 = .ok (.bipush 30, 2) := by decide +kernel
theorem dX9_setStrength_13 : decode cX9_setStrength 13 = .ok (.invokestatic 62, 3) := by decide +kernel
theorem dX9_setStrength_16 : decode cX9_setStrength 16 = .ok (.ifCond .eq 7, 3) := by decide +kernel
theorem dX9_setStrength_19 : decode cX9_setStrength 19 = .ok (.iconst 0, 1) := by decide +kernel
theorem dX9_setStrength_20 : decode cX9_setStrength 20 = .ok (.goto 4, 3) := by decide +kernel
theorem dX9_setStrength_23 : decode cX9_setStrength 23 = .ok (.iconst 2, 1) := by decide +kernel
theorem dX9_setStrength_24 : decode cX9_setStrength 24 = .ok (.invokevirtual 70, 3) := by decide +kernel
theorem dX9_setStrength_27 : decode cX9_setStrength 27 = .ok (.ifCond .eq 5, 3) := by decide +kernel
theorem dX9_setStrength_30 : decode cX9_setStrength 30 = .ok (.iconst 0, 1) := by decide +kernel
theorem dX9_setStrength_31 : decode cX9_setStrength 31 = .ok (.ireturn, 1) := by decide +kernel
theorem dX9_setStrength_32 : decode cX9_setStrength 32 = .ok (.aload_n 0, 1) := by decide +kernel
theorem dX9_setStrength_33 : decode cX9_setStrength 33 = .ok (.iload_n 1, 1) := by decide +kernel
theorem dX9_setStrength_34 : decode cX9_setStrength 34 = .ok (.iconst 1, 1) := by decide +kernel
theorem dX9_setStrength_35 : decode cX9_setStrength 35 = .ok (.invokevirtual 73, 3) := by decide +kernel
theorem dX9_setStrength_38 : decode cX9_setStrength 38 = .ok (.istore_n 3, 1) := by decide +kernel
theorem dX9_setStrength_39 : decode cX9_setStrength 39 = .ok (.aload_n 0, 1) := by decide +kernel
theorem dX9_setStrength_40 : decode cX9_setStrength 40 = .ok (.aload_n 0, 1) := by decide +kernel
theorem dX9_setStrength_41 : decode cX9_setStrength 41 = .ok (.getfield 7, 3) := by decide +kernel
theorem dX9_setStrength_44 : decode cX9_setStrength 44 = .ok (.invokevirtual 85, 3) := by decide +kernel
theorem dX9_setStrength_47 : decode cX9_setStrength 47 = .ok (.aload_n 0, 1) := by decide +kernel
theorem dX9_setStrength_48 : decode cX9_setStrength 48 = .ok (.iload_n 1, 1) := by decide +kernel
theorem dX9_setStrength_49 : decode cX9_setStrength 49 = .ok (.iconst 1, 1) := by decide +kernel
theorem dX9_setStrength_50 : decode cX9_setStrength 50 = .ok (.iload_n 2, 1) := by decide +kernel
theorem dX9_setStrength_51 : decode cX9_setStrength 51 = .ok (.invokevirtual 89, 3) := by decide +kernel
theorem dX9_setStrength_54 : decode cX9_setStrength 54 = .ok (.iload_n 3, 1) := by decide +kernel
theorem dX9_setStrength_55 : decode cX9_setStrength 55 = .ok (.ireturn, 1) := by decide +kernel
theorem dX9_turnsOne_0 : decode cX9_turnsOne 0 = .ok (.aload_n 0, 1) := by decide +kernel
theorem dX9_turnsOne_1 : decode cX9_turnsOne 1 = .ok (.iload_n 1, 1) := by decide +kernel
theorem dX9_turnsOne_2 : decode cX9_turnsOne 2 = .ok (.iconst 2, 1) := by decide +kernel
theorem dX9_turnsOne_3 : decode cX9_turnsOne 3 = .ok (.iconst 1, 1) := by decide +kernel
theorem dX9_turnsOne_4 : decode cX9_turnsOne 4 = .ok (.aload_n 0, 1) := by decide +kernel
theorem dX9_turnsOne_5 : decode cX9_turnsOne 5 = .ok (.iload_n 1, 1) := by decide +kernel
theorem dX9_turnsOne_6 : decode cX9_turnsOne 6 = .ok (.iconst 2, 1) := by decide +kernel
theorem dX9_turnsOne_7 : decode cX9_turnsOne 7 = .ok (.invokevirtual 73, 3) := by decide +kernel
theorem dX9_turnsOne_10 : decode cX9_turnsOne 10 = .ok (.isub, 1) := by decide +kernel
theorem dX9_turnsOne_11 : decode cX9_turnsOne 11 = .ok (.invokevirtual 89, 3) := by decide +kernel
theorem dX9_turnsOne_14 : decode cX9_turnsOne 14 = .ok (.aload_n 0, 1) := by decide +kernel
theorem dX9_turnsOne_15 : decode cX9_turnsOne 15 = .ok (.iload_n 1, 1) := by decide +kernel
theorem dX9_turnsOne_16 : decode cX9_turnsOne 16 = .ok (.iconst 3, 1) := by decide +kernel
theorem dX9_turnsOne_17 : decode cX9_turnsOne 17 = .ok (.aload_n 0, 1) := by decide +kernel
theorem dX9_turnsOne_18 : decode cX9_turnsOne 18 = .ok (.iload_n 1, 1) := by decide +kernel
theorem dX9_turnsOne_19 : decode cX9_turnsOne 19 = .ok (.iconst 3, 1) := by decide +kernel
theorem dX9_turnsOne_20 : decode cX9_turnsOne 20 = .ok (.invokevirtual 73, 3) := by decide +kernel
theorem dX9_turnsOne_23 : decode cX9_turnsOne 23 = .ok (.iconst 1, 1) := by decide +kernel
theorem dX9_turnsOne_24 : decode cX9_turnsOne 24 = .ok (.iadd, 1) := by decide +kernel
theorem dX9_turnsOne_25 : decode cX9_turnsOne 25 = .ok (.invokevirtual 89, 3) := by decide +kernel
theorem dX9_turnsOne_28 : decode cX9_turnsOne 28 = .ok (.aload_n 0, 1) := by decide +kernel
theorem dX9_turnsOne_29 : decode cX9_turnsOne 29 = .ok (.getfield 7, 3) := by decide +kernel
theorem dX9_turnsOne_32 : decode cX9_turnsOne 32 = .ok (.iconst 2, 1) := by decide +kernel
theorem dX9_turnsOne_33 : decode cX9_turnsOne 33 = .ok (.dup2, 1) := by decide +kernel
theorem dX9_turnsOne_34 : decode cX9_turnsOne 34 = .ok (.iaload, 1) := by decide +kernel
theorem dX9_turnsOne_35 : decode cX9_turnsOne 35 = .ok (.iconst 1, 1) := by decide +kernel
theorem dX9_turnsOne_36 : decode cX9_turnsOne 36 = .ok (.iadd, 1) := by decide +kernel
theorem dX9_turnsOne_37 : decode cX9_turnsOne 37 = .ok (.iastore, 1) := by decide +kernel
theorem dX9_turnsOne_38 : decode cX9_turnsOne 38 = .ok (.return_, 1) := by decide +kernel
theorem dX9_turn_0 : decode cX9_turn 0 = .ok (.aload_n 0, 1) := by decide +kernel
theorem dX9_turn_1 : decode cX9_turn 1 = .ok (.iload_n 1, 1) := by decide +kernel
theorem dX9_turn_2 : decode cX9_turn 2 = .ok (.invokevirtual 93, 3) := by decide +kernel
theorem dX9_turn_5 : decode cX9_turn 5 = .ok (.ifCond .eq 5, 3) := by decide +kernel
theorem dX9_turn_8 : decode cX9_turn 8 = .ok (.iconst 0, 1) := by decide +kernel
theorem dX9_turn_9 : decode cX9_turn 9 = .ok (.ireturn, 1) := by decide +kernel
theorem dX9_turn_10 : decode cX9_turn 10 = .ok (.aload_n 0, 1) := by decide +kernel
theorem dX9_turn_11 : decode cX9_turn 11 = .ok (.aload_n 0, 1) := by decide +kernel
theorem dX9_turn_12 : decode cX9_turn 12 = .ok (.getfield 7, 3) := by decide +kernel
theorem dX9_turn_15 : decode cX9_turn 15 = .ok (.invokevirtual 85, 3) := by decide +kernel
theorem dX9_turn_18 : decode cX9_turn 18 = .ok (.aload_n 0, 1) := by decide +kernel
theorem dX9_turn_19 : decode cX9_turn 19 = .ok (.iload_n 1, 1) := by decide +kernel
theorem dX9_turn_20 : decode cX9_turn 20 = .ok (.invokevirtual 96, 3) := by decide +kernel
theorem dX9_turn_23 : decode cX9_turn 23 = .ok (.aload_n 0, 1) := by decide +kernel
theorem dX9_turn_24 : decode cX9_turn 24 = .ok (.iconst 0, 1) := by decide +kernel
theorem dX9_turn_25 : decode cX9_turn 25 = .ok (.invokevirtual 100, 3) := by decide +kernel
theorem dX9_turn_28 : decode cX9_turn 28 = .ok (.ireturn, 1) := by decide +kernel
theorem dX9_shift_0 : decode cX9_shift 0 = .ok (.aload_n 0, 1) := by decide +kernel
theorem dX9_shift_1 : decode cX9_shift 1 = .ok (.iload_n 1, 1) := by decide +kernel
theorem dX9_shift_2 : decode cX9_shift 2 = .ok (.iconst 0, 1) := by decide +kernel
theorem dX9_shift_3 : decode cX9_shift 3 = .ok (.bipush 99, 2) := by decide +kernel
theorem dX9_shift_5 : decode cX9_shift 5 = .ok (.invokestatic 62, 3) := by decide +kernel
theorem dX9_shift_8 : decode cX9_shift 8 = .ok (.ifCond .eq 7, 3) := by decide +kernel
theorem dX9_shift_11 : decode cX9_shift 11 = .ok (.iconst 0, 1) := by decide +kernel
theorem dX9_shift_12 : decode cX9_shift 12 = .ok (.goto 4, 3) := by decide +kernel
theorem dX9_shift_15 : decode cX9_shift 15 = .ok (.iconst 1, 1) := by decide +kernel
theorem dX9_shift_16 : decode cX9_shift 16 = .ok (.invokevirtual 70, 3) := by decide +kernel
theorem dX9_shift_19 : decode cX9_shift 19 = .ok (.ifCond .eq 5, 3) := by decide +kernel
theorem dX9_shift_22 : decode cX9_shift 22 = .ok (.iconst 0, 1) := by decide +kernel
theorem dX9_shift_23 : decode cX9_shift 23 = .ok (.ireturn, 1) := by decide +kernel
theorem dX9_shift_24 : decode cX9_shift 24 = .ok (.aload_n 0, 1) := by decide +kernel
theorem dX9_shift_25 : decode cX9_shift 25 = .ok (.aload_n 0, 1) := by decide +kernel
theorem dX9_shift_26 : decode cX9_shift 26 = .ok (.getfield 7, 3) := by decide +kernel
theorem dX9_shift_29 : decode cX9_shift 29 = .ok (.invokevirtual 85, 3) := by decide +kernel
theorem dX9_shift_32 : decode cX9_shift 32 = .ok (.iconst 0, 1) := by decide +kernel
theorem dX9_shift_33 : decode cX9_shift 33 = .ok (.istore_n 2, 1) := by decide +kernel
theorem dX9_shift_34 : decode cX9_shift 34 = .ok (.iconst 0, 1) := by decide +kernel
theorem dX9_shift_35 : decode cX9_shift 35 = .ok (.istore_n 3, 1) := by decide +kernel
theorem dX9_shift_36 : decode cX9_shift 36 = .ok (.iload_n 3, 1) := by decide +kernel
theorem dX9_shift_37 : decode cX9_shift 37 = .ok (.aload_n 0, 1) := by decide +kernel
theorem dX9_shift_38 : decode cX9_shift 38 = .ok (.getfield 7, 3) := by decide +kernel
theorem dX9_shift_41 : decode cX9_shift 41 = .ok (.iconst 0, 1) := by decide +kernel
theorem dX9_shift_42 : decode cX9_shift 42 = .ok (.iaload, 1) := by decide +kernel
theorem dX9_shift_43 : decode cX9_shift 43 = .ok (.if_icmp .ge 30, 3) := by decide +kernel
theorem dX9_shift_46 : decode cX9_shift 46 = .ok (.aload_n 0, 1) := by decide +kernel
theorem dX9_shift_47 : decode cX9_shift 47 = .ok (.iload_n 3, 1) := by decide +kernel
theorem dX9_shift_48 : decode cX9_shift 48 = .ok (.iconst 0, 1) := by decide +kernel
theorem dX9_shift_49 : decode cX9_shift 49 = .ok (.invokevirtual 73, 3) := by decide +kernel
theorem dX9_shift_52 : decode cX9_shift 52 = .ok (.iload_n 1, 1) := by decide +kernel
theorem dX9_shift_53 : decode cX9_shift 53 = .ok (.if_icmp .ge 6, 3) := by decide +kernel
theorem dX9_shift_56 : decode cX9_shift 56 = .ok (.goto 11, 3) := by decide +kernel
theorem dX9_shift_59 : decode cX9_shift 59 = .ok (.aload_n 0, 1) := by decide +kernel
theorem dX9_shift_60 : decode cX9_shift 60 = .ok (.iload_n 3, 1) := by decide +kernel
theorem dX9_shift_61 : decode cX9_shift 61 = .ok (.invokevirtual 96, 3) := by decide +kernel
theorem dX9_shift_64 : decode cX9_shift 64 = .ok (.iinc 2 1, 3) := by decide +kernel
theorem dX9_shift_67 : decode cX9_shift 67 = .ok (.iinc 3 1, 3) := by decide +kernel
theorem dX9_shift_70 : decode cX9_shift 70 = .ok (.goto (-34), 3) := by decide +kernel
theorem dX9_shift_73 : decode cX9_shift 73 = .ok (.iload_n 2, 1) := by decide +kernel
theorem dX9_shift_74 : decode cX9_shift 74 = .ok (.ireturn, 1) := by decide +kernel
theorem dX9_pull_0 : decode cX9_pull 0 = .ok (.fconst 0, 1) := by decide +kernel
theorem dX9_pull_1 : decode cX9_pull 1 = .ok (.fstore_n 2, 1) := by decide +kernel
theorem dX9_pull_2 : decode cX9_pull 2 = .ok (.iconst 0, 1) := by decide +kernel
theorem dX9_pull_3 : decode cX9_pull 3 = .ok (.istore_n 3, 1) := by decide +kernel
theorem dX9_pull_4 : decode cX9_pull 4 = .ok (.iload_n 3, 1) := by decide +kernel
theorem dX9_pull_5 : decode cX9_pull 5 = .ok (.aload_n 0, 1) := by decide +kernel
theorem dX9_pull_6 : decode cX9_pull 6 = .ok (.getfield 7, 3) := by decide +kernel
theorem dX9_pull_9 : decode cX9_pull 9 = .ok (.iconst 0, 1) := by decide +kernel
theorem dX9_pull_10 : decode cX9_pull 10 = .ok (.iaload, 1) := by decide +kernel
theorem dX9_pull_11 : decode cX9_pull 11 = .ok (.if_icmp .ge 113, 3) := by decide +kernel
theorem dX9_pull_14 : decode cX9_pull 14 = .ok (.iload_n 3, 1) := by decide +kernel
theorem dX9_pull_15 : decode cX9_pull 15 = .ok (.iload_n 1, 1) := by decide +kernel
theorem dX9_pull_16 : decode cX9_pull 16 = .ok (.if_icmp .ne 6, 3) := by decide +kernel
theorem dX9_pull_19 : decode cX9_pull 19 = .ok (.goto 99, 3) := by decide +kernel
theorem dX9_pull_22 : decode cX9_pull 22 = .ok (.aload_n 0, 1) := by decide +kernel
theorem dX9_pull_23 : decode cX9_pull 23 = .ok (.iload_n 1, 1) := by decide +kernel
theorem dX9_pull_24 : decode cX9_pull 24 = .ok (.iconst 0, 1) := by decide +kernel
theorem dX9_pull_25 : decode cX9_pull 25 = .ok (.invokevirtual 73, 3) := by decide +kernel
theorem dX9_pull_28 : decode cX9_pull 28 = .ok (.aload_n 0, 1) := by decide +kernel
theorem dX9_pull_29 : decode cX9_pull 29 = .ok (.iload_n 3, 1) := by decide +kernel
theorem dX9_pull_30 : decode cX9_pull 30 = .ok (.iconst 0, 1) := by decide +kernel
theorem dX9_pull_31 : decode cX9_pull 31 = .ok (.invokevirtual 73, 3) := by decide +kernel
theorem dX9_pull_34 : decode cX9_pull 34 = .ok (.isub, 1) := by decide +kernel
theorem dX9_pull_35 : decode cX9_pull 35 = .ok (.istore 4, 2) := by decide +kernel
theorem dX9_pull_37 : decode cX9_pull 37 = .ok (.aload_n 0, 1) := by decide +kernel
theorem dX9_pull_38 : decode cX9_pull 38 = .ok (.iload_n 1, 1) := by decide +kernel
theorem dX9_pull_39 : decode cX9_pull 39 = .ok (.iconst 1, 1) := by decide +kernel
theorem dX9_pull_40 : decode cX9_pull 40 = .ok (.invokevirtual 73, 3) := by decide +kernel
theorem dX9_pull_43 : decode cX9_pull 43 = .ok (.aload_n 0, 1) := by decide +kernel
theorem dX9_pull_44 : decode cX9_pull 44 = .ok (.iload_n 3, 1) := by decide +kernel
theorem dX9_pull_45 : decode cX9_pull 45 = .ok (.iconst 1, 1) := by decide +kernel
theorem dX9_pull_46 : decode cX9_pull 46 = .ok (.invokevirtual 73, 3) := by decide +kernel
theorem dX9_pull_49 : decode cX9_pull 49 = .ok (.imul, 1) := by decide +kernel
theorem dX9_pull_50 : decode cX9_pull 50 = .ok (.i2f, 1) := by decide +kernel
theorem dX9_pull_51 : decode cX9_pull 51 = .ok (.iload 4, 2) := by decide +kernel
theorem dX9_pull_53 : decode cX9_pull 53 = .ok (.iload 4, 2) := by decide +kernel
theorem dX9_pull_55 : decode cX9_pull 55 = .ok (.imul, 1) := by decide +kernel
theorem dX9_pull_56 : decode cX9_pull 56 = .ok (.i2f, 1) := by decide +kernel
theorem dX9_pull_57 : decode cX9_pull 57 = .ok (.fdiv, 1) := by decide +kernel
theorem dX9_pull_58 : decode cX9_pull 58 = .ok (.fstore 5, 2) := by decide +kernel
theorem dX9_pull_60 : decode cX9_pull 60 = .ok (.iload 4, 2) := by decide +kernel
theorem dX9_pull_62 : decode cX9_pull 62 = .ok (.ifCond .le 7, 3) := by decide +kernel
theorem dX9_pull_65 : decode cX9_pull 65 = .ok (.iconst 1, 1) := by decide +kernel
theorem dX9_pull_66 : decode cX9_pull 66 = .ok (.goto 4, 3) := by decide +kernel
theorem dX9_pull_69 : decode cX9_pull 69 = .ok (.iconst 0, 1) := by decide +kernel
theorem dX9_pull_70 : decode cX9_pull 70 = .ok (.aload_n 0, 1) := by decide +kernel
theorem dX9_pull_71 : decode cX9_pull 71 = .ok (.iload_n 3, 1) := by decide +kernel
theorem dX9_pull_72 : decode cX9_pull 72 = .ok (.iconst 2, 1) := by decide +kernel
theorem dX9_pull_73 : decode cX9_pull 73 = .ok (.invokevirtual 73, 3) := by decide +kernel
theorem dX9_pull_76 : decode cX9_pull 76 = .ok (.aload_n 0, 1) := by decide +kernel
theorem dX9_pull_77 : decode cX9_pull 77 = .ok (.iload_n 1, 1) := by decide +kernel
theorem dX9_pull_78 : decode cX9_pull 78 = .ok (.iconst 2, 1) := by decide +kernel
theorem dX9_pull_79 : decode cX9_pull 79 = .ok (.invokevirtual 73, 3) := by decide +kernel
theorem dX9_pull_82 : decode cX9_pull 82 = .ok (.if_icmp .ne 7, 3) := by decide +kernel
theorem dX9_pull_85 : decode cX9_pull 85 = .ok (.iconst 1, 1) := by decide +kernel
theorem dX9_pull_86 : decode cX9_pull 86 = .ok (.goto 4, 3) := by decide +kernel
theorem dX9_pull_89 : decode cX9_pull 89 = .ok (.iconst 0, 1) := by decide +kernel
theorem dX9_pull_90 : decode cX9_pull 90 = .ok (.if_icmp .ne 7, 3) := by decide +kernel
theorem dX9_pull_93 : decode cX9_pull 93 = .ok (.iconst 1, 1) := by decide +kernel
theorem dX9_pull_94 : decode cX9_pull 94 = .ok (.goto 4, 3) := by decide +kernel
theorem dX9_pull_97 : decode cX9_pull 97 = .ok (.iconst 0, 1) := by decide +kernel
theorem dX9_pull_98 : decode cX9_pull 98 = .ok (.istore 6, 2) := by decide +kernel
theorem dX9_pull_100 : decode cX9_pull 100 = .ok (.iload 6, 2) := by decide +kernel
theorem dX9_pull_102 : decode cX9_pull 102 = .ok (.ifCond .eq 11, 3) := by decide +kernel
theorem dX9_pull_105 : decode cX9_pull 105 = .ok (.fload_n 2, 1) := by decide +kernel
theorem dX9_pull_106 : decode cX9_pull 106 = .ok (.fload 5, 2) := by decide +kernel
theorem dX9_pull_108 : decode cX9_pull 108 = .ok (.fadd, 1) := by decide +kernel
theorem dX9_pull_109 : decode cX9_pull 109 = .ok (.fstore_n 2, 1) := by decide +kernel
theorem dX9_pull_110 : decode cX9_pull 110 = .ok (.goto 8, 3) := by decide +kernel
theorem dX9_pull_113 : decode cX9_pull 113 = .ok (.fload_n 2, 1) := by decide +kernel
theorem dX9_pull_114 : decode cX9_pull 114 = .ok (.fload 5, 2) := by decide +kernel
theorem dX9_pull_116 : decode cX9_pull 116 = .ok (.fsub, 1) := by decide +kernel
theorem dX9_pull_117 : decode cX9_pull 117 = .ok (.fstore_n 2, 1) := by decide +kernel
theorem dX9_pull_118 : decode cX9_pull 118 = .ok (.iinc 3 1, 3) := by decide +kernel
theorem dX9_pull_121 : decode cX9_pull 121 = .ok (.goto (-117), 3) := by decide +kernel
theorem dX9_pull_124 : decode cX9_pull 124 = .ok (.fload_n 2, 1) := by decide +kernel
theorem dX9_pull_125 : decode cX9_pull 125 = .ok (.freturn, 1) := by decide +kernel
theorem dX9_move_0 : decode cX9_move 0 = .ok (.aload_n 0, 1) := by decide +kernel
theorem dX9_move_1 : decode cX9_move 1 = .ok (.aload_n 0, 1) := by decide +kernel
theorem dX9_move_2 : decode cX9_move 2 = .ok (.getfield 7, 3) := by decide +kernel
theorem dX9_move_5 : decode cX9_move 5 = .ok (.invokevirtual 85, 3) := by decide +kernel
theorem dX9_move_8 : decode cX9_move 8 = .ok (.iconst 0, 1) := by decide +kernel
theorem dX9_move_9 : decode cX9_move 9 = .ok (.istore_n 1, 1) := by decide +kernel
theorem dX9_move_10 : decode cX9_move 10 = .ok (.iconst 0, 1) := by decide +kernel
theorem dX9_move_11 : decode cX9_move 11 = .ok (.istore_n 2, 1) := by decide +kernel
theorem dX9_move_12 : decode cX9_move 12 = .ok (.iload_n 2, 1) := by decide +kernel
theorem dX9_move_13 : decode cX9_move 13 = .ok (.aload_n 0, 1) := by decide +kernel
theorem dX9_move_14 : decode cX9_move 14 = .ok (.getfield 7, 3) := by decide +kernel
theorem dX9_move_17 : decode cX9_move 17 = .ok (.iconst 0, 1) := by decide +kernel
theorem dX9_move_18 : decode cX9_move 18 = .ok (.iaload, 1) := by decide +kernel
theorem dX9_move_19 : decode cX9_move 19 = .ok (.if_icmp .ge 79, 3) := by decide +kernel
theorem dX9_move_22 : decode cX9_move 22 = .ok (.aload_n 0, 1) := by decide +kernel
theorem dX9_move_23 : decode cX9_move 23 = .ok (.iload_n 2, 1) := by decide +kernel
theorem dX9_move_24 : decode cX9_move 24 = .ok (.invokevirtual 103, 3) := by decide +kernel
theorem dX9_move_27 : decode cX9_move 27 = .ok (.fstore_n 3, 1) := by decide +kernel
theorem dX9_move_28 : decode cX9_move 28 = .ok (.aload_n 0, 1) := by decide +kernel
theorem dX9_move_29 : decode cX9_move 29 = .ok (.iload_n 2, 1) := by decide +kernel
theorem dX9_move_30 : decode cX9_move 30 = .ok (.iconst 0, 1) := by decide +kernel
theorem dX9_move_31 : decode cX9_move 31 = .ok (.invokevirtual 73, 3) := by decide +kernel
theorem dX9_move_34 : decode cX9_move 34 = .ok (.fload_n 3, 1) := by decide +kernel
theorem dX9_move_35 : decode cX9_move 35 = .ok (.fconst 0, 1) := by decide +kernel
theorem dX9_move_36 : decode cX9_move 36 = .ok (.fcmp .l, 1) := by decide +kernel
theorem dX9_move_37 : decode cX9_move 37 = .ok (.ifCond .le 7, 3) := by decide +kernel
theorem dX9_move_40 : decode cX9_move 40 = .ok (.iconst 1, 1) := by decide +kernel
theorem dX9_move_41 : decode cX9_move 41 = .ok (.goto 14, 3) := by decide +kernel
theorem dX9_move_44 : decode cX9_move 44 = .ok (.fload_n 3, 1) := by decide +kernel
theorem dX9_move_45 : decode cX9_move 45 = .ok (.fconst 0, 1) := by decide +kernel
theorem dX9_move_46 : decode cX9_move 46 = .ok (.fcmp .g, 1) := by decide +kernel
theorem dX9_move_47 : decode cX9_move 47 = .ok (.ifCond .ge 7, 3) := by decide +kernel
theorem dX9_move_50 : decode cX9_move 50 = .ok (.iconst (-1), 1) := by decide +kernel
theorem dX9_move_51 : decode cX9_move 51 = .ok (.goto 4, 3) := by decide +kernel
theorem dX9_move_54 : decode cX9_move 54 = .ok (.iconst 0, 1) := by decide +kernel
theorem dX9_move_55 : decode cX9_move 55 = .ok (.iadd, 1) := by decide +kernel
theorem dX9_move_56 : decode cX9_move 56 = .ok (.istore 4, 2) := by decide +kernel
theorem dX9_move_58 : decode cX9_move 58 = .ok (.iload 4, 2) := by decide +kernel
theorem dX9_move_60 : decode cX9_move 60 = .ok (.iconst 0, 1) := by decide +kernel
theorem dX9_move_61 : decode cX9_move 61 = .ok (.bipush 99, 2) := by decide +kernel
theorem dX9_move_63 : decode cX9_move 63 = .ok (.invokestatic 62, 3) := by decide +kernel
theorem dX9_move_66 : decode cX9_move 66 = .ok (.ifCond .eq 26, 3) := by decide +kernel
theorem dX9_move_69 : decode cX9_move 69 = .ok (.aload_n 0, 1) := by decide +kernel
theorem dX9_move_70 : decode cX9_move 70 = .ok (.iload 4, 2) := by decide +kernel
theorem dX9_move_72 : decode cX9_move 72 = .ok (.invokevirtual 81, 3) := by decide +kernel
theorem dX9_move_75 : decode cX9_move 75 = .ok (.ifCond .lt 6, 3) := by decide +kernel
theorem dX9_move_78 : decode cX9_move 78 = .ok (.goto 14, 3) := by decide +kernel
theorem dX9_move_81 : decode cX9_move 81 = .ok (.aload_n 0, 1) := by decide +kernel
theorem dX9_move_82 : decode cX9_move 82 = .ok (.iload_n 2, 1) := by decide +kernel
theorem dX9_move_83 : decode cX9_move 83 = .ok (.iconst 0, 1) := by decide +kernel
theorem dX9_move_84 : decode cX9_move 84 = .ok (.iload 4, 2) := by decide +kernel
theorem dX9_move_86 : decode cX9_move 86 = .ok (.invokevirtual 89, 3) := by decide +kernel
theorem dX9_move_89 : decode cX9_move 89 = .ok (.iinc 1 1, 3) := by decide +kernel
theorem dX9_move_92 : decode cX9_move 92 = .ok (.iinc 2 1, 3) := by decide +kernel
theorem dX9_move_95 : decode cX9_move 95 = .ok (.goto (-83), 3) := by decide +kernel
theorem dX9_move_98 : decode cX9_move 98 = .ok (.aload_n 0, 1) := by decide +kernel
theorem dX9_move_99 : decode cX9_move 99 = .ok (.getfield 7, 3) := by decide +kernel
theorem dX9_move_102 : decode cX9_move 102 = .ok (.iconst 3, 1) := by decide +kernel
theorem dX9_move_103 : decode cX9_move 103 = .ok (.dup2, 1) := by decide +kernel
theorem dX9_move_104 : decode cX9_move 104 = .ok (.iaload, 1) := by decide +kernel
theorem dX9_move_105 : decode cX9_move 105 = .ok (.iload_n 1, 1) := by decide +kernel
theorem dX9_move_106 : decode cX9_move 106 = .ok (.iadd, 1) := by decide +kernel
theorem dX9_move_107 : decode cX9_move 107 = .ok (.iastore, 1) := by decide +kernel
theorem dX9_move_108 : decode cX9_move 108 = .ok (.iload_n 1, 1) := by decide +kernel
theorem dX9_move_109 : decode cX9_move 109 = .ok (.ireturn, 1) := by decide +kernel
theorem dX9_magnetCount_0 : decode cX9_magnetCount 0 = .ok (.aload_n 0, 1) := by decide +kernel
theorem dX9_magnetCount_1 : decode cX9_magnetCount 1 = .ok (.iconst 0, 1) := by decide +kernel
theorem dX9_magnetCount_2 : decode cX9_magnetCount 2 = .ok (.putfield 36, 3) := by decide +kernel
theorem dX9_magnetCount_5 : decode cX9_magnetCount 5 = .ok (.aload_n 0, 1) := by decide +kernel
theorem dX9_magnetCount_6 : decode cX9_magnetCount 6 = .ok (.getfield 7, 3) := by decide +kernel
theorem dX9_magnetCount_9 : decode cX9_magnetCount 9 = .ok (.iconst 0, 1) := by decide +kernel
theorem dX9_magnetCount_10 : decode cX9_magnetCount 10 = .ok (.iaload, 1) := by decide +kernel
theorem dX9_magnetCount_11 : decode cX9_magnetCount 11 = .ok (.ireturn, 1) := by decide +kernel
theorem dX9_position_0 : decode cX9_position 0 = .ok (.aload_n 0, 1) := by decide +kernel
theorem dX9_position_1 : decode cX9_position 1 = .ok (.iload_n 1, 1) := by decide +kernel
theorem dX9_position_2 : decode cX9_position 2 = .ok (.invokevirtual 93, 3) := by decide +kernel
theorem dX9_position_5 : decode cX9_position 5 = .ok (.ifCond .eq 7, 3) := by decide +kernel
theorem dX9_position_8 : decode cX9_position 8 = .ok (.iconst 0, 1) := by decide +kernel
theorem dX9_position_9 : decode cX9_position 9 = .ok (.goto 9, 3) := by decide +kernel
theorem dX9_position_12 : decode cX9_position 12 = .ok (.aload_n 0, 1) := by decide +kernel
theorem dX9_position_13 : decode cX9_position 13 = .ok (.iload_n 1, 1) := by decide +kernel
theorem dX9_position_14 : decode cX9_position 14 = .ok (.iconst 0, 1) := by decide +kernel
theorem dX9_position_15 : decode cX9_position 15 = .ok (.invokevirtual 73, 3) := by decide +kernel
theorem dX9_position_18 : decode cX9_position 18 = .ok (.ireturn, 1) := by decide +kernel
theorem dX9_strength_0 : decode cX9_strength 0 = .ok (.aload_n 0, 1) := by decide +kernel
theorem dX9_strength_1 : decode cX9_strength 1 = .ok (.iload_n 1, 1) := by decide +kernel
theorem dX9_strength_2 : decode cX9_strength 2 = .ok (.invokevirtual 93, 3) := by decide +kernel
theorem dX9_strength_5 : decode cX9_strength 5 = .ok (.ifCond .eq 7, 3) := by decide +kernel
theorem dX9_strength_8 : decode cX9_strength 8 = .ok (.iconst 0, 1) := by decide +kernel
theorem dX9_strength_9 : decode cX9_strength 9 = .ok (.goto 9, 3) := by decide +kernel
theorem dX9_strength_12 : decode cX9_strength 12 = .ok (.aload_n 0, 1) := by decide +kernel
theorem dX9_strength_13 : decode cX9_strength 13 = .ok (.iload_n 1, 1) := by decide +kernel
theorem dX9_strength_14 : decode cX9_strength 14 = .ok (.iconst 1, 1) := by decide +kernel
theorem dX9_strength_15 : decode cX9_strength 15 = .ok (.invokevirtual 73, 3) := by decide +kernel
theorem dX9_strength_18 : decode cX9_strength 18 = .ok (.ireturn, 1) := by decide +kernel
theorem dX9_sign_0 : decode cX9_sign 0 = .ok (.aload_n 0, 1) := by decide +kernel
theorem dX9_sign_1 : decode cX9_sign 1 = .ok (.iload_n 1, 1) := by decide +kernel
theorem dX9_sign_2 : decode cX9_sign 2 = .ok (.iconst 2, 1) := by decide +kernel
theorem dX9_sign_3 : decode cX9_sign 3 = .ok (.invokevirtual 73, 3) := by decide +kernel
theorem dX9_sign_6 : decode cX9_sign 6 = .ok (.iconst 1, 1) := by decide +kernel
theorem dX9_sign_7 : decode cX9_sign 7 = .ok (.if_icmp .ne 8, 3) := by decide +kernel
theorem dX9_sign_10 : decode cX9_sign 10 = .ok (.bipush 110, 2) := by decide +kernel
theorem dX9_sign_12 : decode cX9_sign 12 = .ok (.goto 5, 3) := by decide +kernel
theorem dX9_sign_15 : decode cX9_sign 15 = .ok (.bipush 115, 2) := by decide +kernel
theorem dX9_sign_17 : decode cX9_sign 17 = .ok (.ireturn, 1) := by decide +kernel
theorem dX9_pole_0 : decode cX9_pole 0 = .ok (.aload_n 0, 1) := by decide +kernel
theorem dX9_pole_1 : decode cX9_pole 1 = .ok (.iload_n 1, 1) := by decide +kernel
theorem dX9_pole_2 : decode cX9_pole 2 = .ok (.invokevirtual 93, 3) := by decide +kernel
theorem dX9_pole_5 : decode cX9_pole 5 = .ok (.ifCond .eq 8, 3) := by decide +kernel
theorem dX9_pole_8 : decode cX9_pole 8 = .ok (.bipush 32, 2) := by decide +kernel
theorem dX9_pole_10 : decode cX9_pole 10 = .ok (.goto 8, 3) := by decide +kernel
theorem dX9_pole_13 : decode cX9_pole 13 = .ok (.aload_n 0, 1) := by decide +kernel
theorem dX9_pole_14 : decode cX9_pole 14 = .ok (.iload_n 1, 1) := by decide +kernel
theorem dX9_pole_15 : decode cX9_pole 15 = .ok (.invokevirtual 107, 3) := by decide +kernel
theorem dX9_pole_18 : decode cX9_pole 18 = .ok (.ireturn, 1) := by decide +kernel
theorem dX9_magnetAt_0 : decode cX9_magnetAt 0 = .ok (.aload_n 0, 1) := by decide +kernel
theorem dX9_magnetAt_1 : decode cX9_magnetAt 1 = .ok (.iload_n 1, 1) := by decide +kernel
theorem dX9_magnetAt_2 : decode cX9_magnetAt 2 = .ok (.iconst 0, 1) := by decide +kernel
theorem dX9_magnetAt_3 : decode cX9_magnetAt 3 = .ok (.bipush 99, 2) := by decide +kernel
theorem dX9_magnetAt_5 : decode cX9_magnetAt 5 = .ok (.invokestatic 62, 3) := by decide +kernel
theorem dX9_magnetAt_8 : decode cX9_magnetAt 8 = .ok (.ifCond .ne 7, 3) := by decide +kernel
theorem dX9_magnetAt_11 : decode cX9_magnetAt 11 = .ok (.iconst 1, 1) := by decide +kernel
theorem dX9_magnetAt_12 : decode cX9_magnetAt 12 = .ok (.goto 16, 3) := by decide +kernel
theorem dX9_magnetAt_15 : decode cX9_magnetAt 15 = .ok (.aload_n 0, 1) := by decide +kernel
theorem dX9_magnetAt_16 : decode cX9_magnetAt 16 = .ok (.iload_n 1, 1) := by decide +kernel
theorem dX9_magnetAt_17 : decode cX9_magnetAt 17 = .ok (.invokevirtual 81, 3) := by decide +kernel
theorem dX9_magnetAt_20 : decode cX9_magnetAt 20 = .ok (.ifCond .ge 7, 3) := by decide +kernel
theorem dX9_magnetAt_23 : decode cX9_magnetAt 23 = .ok (.iconst 2, 1) := by decide +kernel
theorem dX9_magnetAt_24 : decode cX9_magnetAt 24 = .ok (.goto 4, 3) := by decide +kernel
theorem dX9_magnetAt_27 : decode cX9_magnetAt 27 = .ok (.iconst 0, 1) := by decide +kernel
theorem dX9_magnetAt_28 : decode cX9_magnetAt 28 = .ok (.invokevirtual 70, 3) := by decide +kernel
theorem dX9_magnetAt_31 : decode cX9_magnetAt 31 = .ok (.ifCond .eq 7, 3) := by decide +kernel
theorem dX9_magnetAt_34 : decode cX9_magnetAt 34 = .ok (.iconst 0, 1) := by decide +kernel
theorem dX9_magnetAt_35 : decode cX9_magnetAt 35 = .ok (.goto 8, 3) := by decide +kernel
theorem dX9_magnetAt_38 : decode cX9_magnetAt 38 = .ok (.aload_n 0, 1) := by decide +kernel
theorem dX9_magnetAt_39 : decode cX9_magnetAt 39 = .ok (.iload_n 1, 1) := by decide +kernel
theorem dX9_magnetAt_40 : decode cX9_magnetAt 40 = .ok (.invokevirtual 81, 3) := by decide +kernel
theorem dX9_magnetAt_43 : decode cX9_magnetAt 43 = .ok (.ireturn, 1) := by decide +kernel
theorem dX9_isAhead_0 : decode cX9_isAhead 0 = .ok (.aload_n 0, 1) := by decide +kernel
theorem dX9_isAhead_1 : decode cX9_isAhead 1 = .ok (.iload_n 1, 1) := by decide +kernel
theorem dX9_isAhead_2 : decode cX9_isAhead 2 = .ok (.iconst 1, 1) := by decide +kernel
theorem dX9_isAhead_3 : decode cX9_isAhead 3 = .ok (.invokevirtual 73, 3) := by decide +kernel
theorem dX9_isAhead_6 : decode cX9_isAhead 6 = .ok (.aload_n 0, 1) := by decide +kernel
theorem dX9_isAhead_7 : decode cX9_isAhead 7 = .ok (.iload_n 2, 1) := by decide +kernel
theorem dX9_isAhead_8 : decode cX9_isAhead 8 = .ok (.iconst 1, 1) := by decide +kernel
theorem dX9_isAhead_9 : decode cX9_isAhead 9 = .ok (.invokevirtual 73, 3) := by decide +kernel
theorem dX9_isAhead_12 : decode cX9_isAhead 12 = .ok (.if_icmp .eq 26, 3) := by decide +kernel
theorem dX9_isAhead_15 : decode cX9_isAhead 15 = .ok (.aload_n 0, 1) := by decide +kernel
theorem dX9_isAhead_16 : decode cX9_isAhead 16 = .ok (.iload_n 1, 1) := by decide +kernel
theorem dX9_isAhead_17 : decode cX9_isAhead 17 = .ok (.iconst 1, 1) := by decide +kernel
theorem dX9_isAhead_18 : decode cX9_isAhead 18 = .ok (.invokevirtual 73, 3) := by decide +kernel
theorem dX9_isAhead_21 : decode cX9_isAhead 21 = .ok (.aload_n 0, 1) := by decide +kernel
theorem dX9_isAhead_22 : decode cX9_isAhead 22 = .ok (.iload_n 2, 1) := by decide +kernel
theorem dX9_isAhead_23 : decode cX9_isAhead 23 = .ok (.iconst 1, 1) := by decide +kernel
theorem dX9_isAhead_24 : decode cX9_isAhead 24 = .ok (.invokevirtual 73, 3) := by decide +kernel
theorem dX9_isAhead_27 : decode cX9_isAhead 27 = .ok (.if_icmp .le 7, 3) := by decide +kernel
theorem dX9_isAhead_30 : decode cX9_isAhead 30 = .ok (.iconst 1, 1) := by decide +kernel
theorem dX9_isAhead_31 : decode cX9_isAhead 31 = .ok (.goto 27, 3) := by decide +kernel
theorem dX9_isAhead_34 : decode cX9_isAhead 34 = .ok (.iconst 0, 1) := by decide +kernel
theorem dX9_isAhead_35 : decode cX9_isAhead 35 = .ok (.goto 23, 3) := by decide +kernel
theorem dX9_isAhead_38 : decode cX9_isAhead 38 = .ok (.aload_n 0, 1) := by decide +kernel
theorem dX9_isAhead_39 : decode cX9_isAhead 39 = .ok (.iload_n 1, 1) := by decide +kernel
theorem dX9_isAhead_40 : decode cX9_isAhead 40 = .ok (.iconst 0, 1) := by decide +kernel
theorem dX9_isAhead_41 : decode cX9_isAhead 41 = .ok (.invokevirtual 73, 3) := by decide +kernel
theorem dX9_isAhead_44 : decode cX9_isAhead 44 = .ok (.aload_n 0, 1) := by decide +kernel
theorem dX9_isAhead_45 : decode cX9_isAhead 45 = .ok (.iload_n 2, 1) := by decide +kernel
theorem dX9_isAhead_46 : decode cX9_isAhead 46 = .ok (.iconst 0, 1) := by decide +kernel
theorem dX9_isAhead_47 : decode cX9_isAhead 47 = .ok (.invokevirtual 73, 3) := by decide +kernel
theorem dX9_isAhead_50 : decode cX9_isAhead 50 = .ok (.if_icmp .ge 7, 3) := by decide +kernel
theorem dX9_isAhead_53 : decode cX9_isAhead 53 = .ok (.iconst 1, 1) := by decide +kernel
theorem dX9_isAhead_54 : decode cX9_isAhead 54 = .ok (.goto 4, 3) := by decide +kernel
theorem dX9_isAhead_57 : decode cX9_isAhead 57 = .ok (.iconst 0, 1) := by decide +kernel
theorem dX9_isAhead_58 : decode cX9_isAhead 58 = .ok (.ireturn, 1) := by decide +kernel
theorem dX9_magnetByStrength_0 : decode cX9_magnetByStrength 0 = .ok (.iconst 0, 1) := by decide +kernel
theorem dX9_magnetByStrength_1 : decode cX9_magnetByStrength 1 = .ok (.istore_n 2, 1) := by decide +kernel
theorem dX9_magnetByStrength_2 : decode cX9_magnetByStrength 2 = .ok (.iload_n 2, 1) := by decide +kernel
theorem dX9_magnetByStrength_3 : decode cX9_magnetByStrength 3 = .ok (.aload_n 0, 1) := by decide +kernel
theorem dX9_magnetByStrength_4 : decode cX9_magnetByStrength 4 = .ok (.getfield 7, 3) := by decide +kernel
theorem dX9_magnetByStrength_7 : decode cX9_magnetByStrength 7 = .ok (.iconst 0, 1) := by decide +kernel
theorem dX9_magnetByStrength_8 : decode cX9_magnetByStrength 8 = .ok (.iaload, 1) := by decide +kernel
theorem dX9_magnetByStrength_9 : decode cX9_magnetByStrength 9 = .ok (.if_icmp .ge 70, 3) := by decide +kernel
theorem dX9_magnetByStrength_12 : decode cX9_magnetByStrength 12 = .ok (.iconst 0, 1) := by decide +kernel
theorem dX9_magnetByStrength_13 : decode cX9_magnetByStrength 13 = .ok (.istore_n 3, 1) := by decide +kernel
theorem dX9_magnetByStrength_14 : decode cX9_magnetByStrength 14 = .ok (.iconst 0, 1) := by decide +kernel
theorem dX9_magnetByStrength_15 : decode cX9_magnetByStrength 15 = .ok (.istore 4, 2) := by decide +kernel
theorem dX9_magnetByStrength_17 : decode cX9_magnetByStrength 17 = .ok (.iload 4, 2) := by decide +kernel
theorem dX9_magnetByStrength_19 : decode cX9_magnetByStrength 19 = .ok (.aload_n 0, 1) := by decide +kernel
theorem dX9_magnetByStrength_20 : decode cX9_magnetByStrength 20 = .ok (.getfield 7, 3) := by decide +kernel
theorem dX9_magnetByStrength_23 : decode cX9_magnetByStrength 23 = .ok (.iconst 0, 1) := by decide +kernel
theorem dX9_magnetByStrength_24 : decode cX9_magnetByStrength 24 = .ok (.iaload, 1) := by decide +kernel
theorem dX9_magnetByStrength_25 : decode cX9_magnetByStrength 25 = .ok (.if_icmp .ge 33, 3) := by decide +kernel
theorem dX9_magnetByStrength_28 : decode cX9_magnetByStrength 28 = .ok (.iload_n 3, 1) := by decide +kernel
theorem dX9_magnetByStrength_29 : decode cX9_magnetByStrength 29 = .ok (.iload 4, 2) := by decide +kernel
theorem dX9_magnetByStrength_31 : decode cX9_magnetByStrength 31 = .ok (.iload_n 2, 1) := by decide +kernel
theorem dX9_magnetByStrength_32 : decode cX9_magnetByStrength 32 = .ok (.if_icmp .eq 17, 3) := by decide +kernel
theorem dX9_magnetByStrength_35 : decode cX9_magnetByStrength 35 = .ok (.aload_n 0, 1) := by decide +kernel
theorem dX9_magnetByStrength_36 : decode cX9_magnetByStrength 36 = .ok (.iload 4, 2) := by decide +kernel
theorem dX9_magnetByStrength_38 : decode cX9_magnetByStrength 38 = .ok (.iload_n 2, 1) := by decide +kernel
theorem dX9_magnetByStrength_39 : decode cX9_magnetByStrength 39 = .ok (.invokevirtual 111, 3) := by decide +kernel
theorem dX9_magnetByStrength_42 : decode cX9_magnetByStrength 42 = .ok (.ifCond .eq 7, 3) := by decide +kernel
theorem dX9_magnetByStrength_45 : decode cX9_magnetByStrength 45 = .ok (.iconst 1, 1) := by decide +kernel
theorem dX9_magnetByStrength_46 : decode cX9_magnetByStrength 46 = .ok (.goto 4, 3) := by decide +kernel
theorem dX9_magnetByStrength_49 : decode cX9_magnetByStrength 49 = .ok (.iconst 0, 1) := by decide +kernel
theorem dX9_magnetByStrength_50 : decode cX9_magnetByStrength 50 = .ok (.iadd, 1) := by decide +kernel
theorem dX9_magnetByStrength_51 : decode cX9_magnetByStrength 51 = .ok (.istore_n 3, 1) := by decide +kernel
theorem dX9_magnetByStrength_52 : decode cX9_magnetByStrength 52 = .ok (.iinc 4 1, 3) := by decide +kernel
theorem dX9_magnetByStrength_55 : decode cX9_magnetByStrength 55 = .ok (.goto (-38), 3) := by decide +kernel
theorem dX9_magnetByStrength_58 : decode cX9_magnetByStrength 58 = .ok (.iload_n 3, 1) := by decide +kernel
theorem dX9_magnetByStrength_59 : decode cX9_magnetByStrength 59 = .ok (.iload_n 1, 1) := by decide +kernel
theorem dX9_magnetByStrength_60 : decode cX9_magnetByStrength 60 = .ok (.if_icmp .eq 6, 3) := by decide +kernel
theorem dX9_magnetByStrength_63 : decode cX9_magnetByStrength 63 = .ok (.goto 10, 3) := by decide +kernel
theorem dX9_magnetByStrength_66 : decode cX9_magnetByStrength 66 = .ok (.aload_n 0, 1) := by decide +kernel
theorem dX9_magnetByStrength_67 : decode cX9_magnetByStrength 67 = .ok (.iconst 0, 1) := by decide +kernel
theorem dX9_magnetByStrength_68 : decode cX9_magnetByStrength 68 = .ok (.putfield 36, 3) := by decide +kernel
theorem dX9_magnetByStrength_71 : decode cX9_magnetByStrength 71 = .ok (.iload_n 2, 1) := by decide +kernel
theorem dX9_magnetByStrength_72 : decode cX9_magnetByStrength 72 = .ok (.ireturn, 1) := by decide +kernel
theorem dX9_magnetByStrength_73 : decode cX9_magnetByStrength 73 = .ok (.iinc 2 1, 3) := by decide +kernel
theorem dX9_magnetByStrength_76 : decode cX9_magnetByStrength 76 = .ok (.goto (-74), 3) := by decide +kernel
theorem dX9_magnetByStrength_79 : decode cX9_magnetByStrength 79 = .ok (.aload_n 0, 1) := by decide +kernel
theorem dX9_magnetByStrength_80 : decode cX9_magnetByStrength 80 = .ok (.iconst 1, 1) := by decide +kernel
theorem dX9_magnetByStrength_81 : decode cX9_magnetByStrength 81 = .ok (.putfield 36, 3) := by decide +kernel
theorem dX9_magnetByStrength_84 : decode cX9_magnetByStrength 84 = .ok (.iconst 0, 1) := by decide +kernel
theorem dX9_magnetByStrength_85 : decode cX9_magnetByStrength 85 = .ok (.ireturn, 1) := by decide +kernel
theorem dX9_isTunnel_0 : decode cX9_isTunnel 0 = .ok (.iload_n 1, 1) := by decide +kernel
theorem dX9_isTunnel_1 : decode cX9_isTunnel 1 = .ok (.iconst 0, 1) := by decide +kernel
theorem dX9_isTunnel_2 : decode cX9_isTunnel 2 = .ok (.aload_n 0, 1) := by decide +kernel
theorem dX9_isTunnel_3 : decode cX9_isTunnel 3 = .ok (.getfield 7, 3) := by decide +kernel
theorem dX9_isTunnel_6 : decode cX9_isTunnel 6 = .ok (.iconst 1, 1) := by decide +kernel
theorem dX9_isTunnel_7 : decode cX9_isTunnel 7 = .ok (.iaload, 1) := by decide +kernel
theorem dX9_isTunnel_8 : decode cX9_isTunnel 8 = .ok (.iconst 1, 1) := by decide +kernel
theorem dX9_isTunnel_9 : decode cX9_isTunnel 9 = .ok (.isub, 1) := by decide +kernel
theorem dX9_isTunnel_10 : decode cX9_isTunnel 10 = .ok (.invokestatic 62, 3) := by decide +kernel
theorem dX9_isTunnel_13 : decode cX9_isTunnel 13 = .ok (.ireturn, 1) := by decide +kernel
theorem dX9_joins_0 : decode cX9_joins 0 = .ok (.aload_n 0, 1) := by decide +kernel
theorem dX9_joins_1 : decode cX9_joins 1 = .ok (.getfield 7, 3) := by decide +kernel
theorem dX9_joins_4 : decode cX9_joins 4 = .ok (.bipush 40, 2) := by decide +kernel
theorem dX9_joins_6 : decode cX9_joins 6 = .ok (.iconst 2, 1) := by decide +kernel
theorem dX9_joins_7 : decode cX9_joins 7 = .ok (.iload_n 1, 1) := by decide +kernel
theorem dX9_joins_8 : decode cX9_joins 8 = .ok (.imul, 1) := by decide +kernel
theorem dX9_joins_9 : decode cX9_joins 9 = .ok (.iadd, 1) := by decide +kernel
theorem dX9_joins_10 : decode cX9_joins 10 = .ok (.iload_n 2, 1) := by decide +kernel
theorem dX9_joins_11 : decode cX9_joins 11 = .ok (.iadd, 1) := by decide +kernel
theorem dX9_joins_12 : decode cX9_joins 12 = .ok (.iaload, 1) := by decide +kernel
theorem dX9_joins_13 : decode cX9_joins 13 = .ok (.ireturn, 1) := by decide +kernel
theorem dX9_between_0 : decode cX9_between 0 = .ok (.iconst 0, 1) := by decide +kernel
theorem dX9_between_1 : decode cX9_between 1 = .ok (.istore_n 3, 1) := by decide +kernel
theorem dX9_between_2 : decode cX9_between 2 = .ok (.iload_n 3, 1) := by decide +kernel
theorem dX9_between_3 : decode cX9_between 3 = .ok (.aload_n 0, 1) := by decide +kernel
theorem dX9_between_4 : decode cX9_between 4 = .ok (.getfield 7, 3) := by decide +kernel
theorem dX9_between_7 : decode cX9_between 7 = .ok (.iconst 1, 1) := by decide +kernel
theorem dX9_between_8 : decode cX9_between 8 = .ok (.iaload, 1) := by decide +kernel
theorem dX9_between_9 : decode cX9_between 9 = .ok (.if_icmp .ge 51, 3) := by decide +kernel
theorem dX9_between_12 : decode cX9_between 12 = .ok (.aload_n 0, 1) := by decide +kernel
theorem dX9_between_13 : decode cX9_between 13 = .ok (.iload_n 3, 1) := by decide +kernel
theorem dX9_between_14 : decode cX9_between 14 = .ok (.iconst 0, 1) := by decide +kernel
theorem dX9_between_15 : decode cX9_between 15 = .ok (.invokevirtual 115, 3) := by decide +kernel
theorem dX9_between_18 : decode cX9_between 18 = .ok (.iload_n 1, 1) := by decide +kernel
theorem dX9_between_19 : decode cX9_between 19 = .ok (.if_icmp .ne 13, 3) := by decide +kernel
theorem dX9_between_22 : decode cX9_between 22 = .ok (.aload_n 0, 1) := by decide +kernel
theorem dX9_between_23 : decode cX9_between 23 = .ok (.iload_n 3, 1) := by decide +kernel
theorem dX9_between_24 : decode cX9_between 24 = .ok (.iconst 1, 1) := by decide +kernel
theorem dX9_between_25 : decode cX9_between 25 = .ok (.invokevirtual 115, 3) := by decide +kernel
theorem dX9_between_28 : decode cX9_between 28 = .ok (.iload_n 2, 1) := by decide +kernel
theorem dX9_between_29 : decode cX9_between 29 = .ok (.if_icmp .eq 23, 3) := by decide +kernel
theorem dX9_between_32 : decode cX9_between 32 = .ok (.aload_n 0, 1) := by decide +kernel
theorem dX9_between_33 : decode cX9_between 33 = .ok (.iload_n 3, 1) := by decide +kernel
theorem dX9_between_34 : decode cX9_between 34 = .ok (.iconst 0, 1) := by decide +kernel
theorem dX9_between_35 : decode cX9_between 35 = .ok (.invokevirtual 115, 3) := by decide +kernel
theorem dX9_between_38 : decode cX9_between 38 = .ok (.iload_n 2, 1) := by decide +kernel
theorem dX9_between_39 : decode cX9_between 39 = .ok (.if_icmp .ne 15, 3) := by decide +kernel
theorem dX9_between_42 : decode cX9_between 42 = .ok (.aload_n 0, 1) := by decide +kernel
theorem dX9_between_43 : decode cX9_between 43 = .ok (.iload_n 3, 1) := by decide +kernel
theorem dX9_between_44 : decode cX9_between 44 = .ok (.iconst 1, 1) := by decide +kernel
theorem dX9_between_45 : decode cX9_between 45 = .ok (.invokevirtual 115, 3) := by decide +kernel
theorem dX9_between_48 : decode cX9_between 48 = .ok (.iload_n 1, 1) := by decide +kernel
theorem dX9_between_49 : decode cX9_between 49 = .ok (.if_icmp .ne 5, 3) := by decide +kernel
theorem dX9_between_52 : decode cX9_between 52 = .ok (.iload_n 3, 1) := by decide +kernel
theorem dX9_between_53 : decode cX9_between 53 = .ok (.ireturn, 1) := by decide +kernel
theorem dX9_between_54 : decode cX9_between 54 = .ok (.iinc 3 1, 3) := by decide +kernel
theorem dX9_between_57 : decode cX9_between 57 = .ok (.goto (-55), 3) := by decide +kernel
theorem dX9_between_60 : decode cX9_between 60 = .ok (.iconst (-1), 1) := by decide +kernel
theorem dX9_between_61 : decode cX9_between 61 = .ok (.ireturn, 1) := by decide +kernel
theorem dX9_isFree_0 : decode cX9_isFree 0 = .ok (.aload_n 0, 1) := by decide +kernel
theorem dX9_isFree_1 : decode cX9_isFree 1 = .ok (.iload_n 1, 1) := by decide +kernel
theorem dX9_isFree_2 : decode cX9_isFree 2 = .ok (.iconst 0, 1) := by decide +kernel
theorem dX9_isFree_3 : decode cX9_isFree 3 = .ok (.invokevirtual 115, 3) := by decide +kernel
theorem dX9_isFree_6 : decode cX9_isFree 6 = .ok (.istore_n 3, 1) := by decide +kernel
theorem dX9_isFree_7 : decode cX9_isFree 7 = .ok (.aload_n 0, 1) := by decide +kernel
theorem dX9_isFree_8 : decode cX9_isFree 8 = .ok (.iload_n 1, 1) := by decide +kernel
theorem dX9_isFree_9 : decode cX9_isFree 9 = .ok (.iconst 1, 1) := by decide +kernel
theorem dX9_isFree_10 : decode cX9_isFree 10 = .ok (.invokevirtual 115, 3) := by decide +kernel
theorem dX9_isFree_13 : decode cX9_isFree 13 = .ok (.istore 4, 2) := by decide +kernel
theorem dX9_isFree_15 : decode cX9_isFree 15 = .ok (.aload_n 0, 1) := by decide +kernel
theorem dX9_isFree_16 : decode cX9_isFree 16 = .ok (.iload_n 3, 1) := by decide +kernel
theorem dX9_isFree_17 : decode cX9_isFree 17 = .ok (.iconst 2, 1) := by decide +kernel
theorem dX9_isFree_18 : decode cX9_isFree 18 = .ok (.invokevirtual 73, 3) := by decide +kernel
theorem dX9_isFree_21 : decode cX9_isFree 21 = .ok (.iload_n 2, 1) := by decide +kernel
theorem dX9_isFree_22 : decode cX9_isFree 22 = .ok (.iload_n 3, 1) := by decide +kernel
theorem dX9_isFree_23 : decode cX9_isFree 23 = .ok (.ishr, 1) := by decide +kernel
theorem dX9_isFree_24 : decode cX9_isFree 24 = .ok (.iconst 1, 1) := by decide +kernel
theorem dX9_isFree_25 : decode cX9_isFree 25 = .ok (.iand, 1) := by decide +kernel
theorem dX9_isFree_26 : decode cX9_isFree 26 = .ok (.iadd, 1) := by decide +kernel
theorem dX9_isFree_27 : decode cX9_isFree 27 = .ok (.iconst 2, 1) := by decide +kernel
theorem dX9_isFree_28 : decode cX9_isFree 28 = .ok (.irem, 1) := by decide +kernel
theorem dX9_isFree_29 : decode cX9_isFree 29 = .ok (.aload_n 0, 1) := by decide +kernel
theorem dX9_isFree_30 : decode cX9_isFree 30 = .ok (.iload 4, 2) := by decide +kernel
theorem dX9_isFree_32 : decode cX9_isFree 32 = .ok (.iconst 2, 1) := by decide +kernel
theorem dX9_isFree_33 : decode cX9_isFree 33 = .ok (.invokevirtual 73, 3) := by decide +kernel
theorem dX9_isFree_36 : decode cX9_isFree 36 = .ok (.iload_n 2, 1) := by decide +kernel
theorem dX9_isFree_37 : decode cX9_isFree 37 = .ok (.iload 4, 2) := by decide +kernel
theorem dX9_isFree_39 : decode cX9_isFree 39 = .ok (.ishr, 1) := by decide +kernel
theorem dX9_isFree_40 : decode cX9_isFree 40 = .ok (.iconst 1, 1) := by decide +kernel
theorem dX9_isFree_41 : decode cX9_isFree 41 = .ok (.iand, 1) := by decide +kernel
theorem dX9_isFree_42 : decode cX9_isFree 42 = .ok (.iadd, 1) := by decide +kernel
theorem dX9_isFree_43 : decode cX9_isFree 43 = .ok (.iconst 2, 1) := by decide +kernel
theorem dX9_isFree_44 : decode cX9_isFree 44 = .ok (.irem, 1) := by decide +kernel
theorem dX9_isFree_45 : decode cX9_isFree 45 = .ok (.if_icmp .eq 7, 3) := by decide +kernel
theorem dX9_isFree_48 : decode cX9_isFree 48 = .ok (.iconst 1, 1) := by decide +kernel
theorem dX9_isFree_49 : decode cX9_isFree 49 = .ok (.goto 4, 3) := by decide +kernel
theorem dX9_isFree_52 : decode cX9_isFree 52 = .ok (.iconst 0, 1) := by decide +kernel
theorem dX9_isFree_53 : decode cX9_isFree 53 = .ok (.ireturn, 1) := by decide +kernel
theorem dX9_shut_0 : decode cX9_shut 0 = .ok (.iconst 0, 1) := by decide +kernel
theorem dX9_shut_1 : decode cX9_shut 1 = .ok (.istore_n 2, 1) := by decide +kernel
theorem dX9_shut_2 : decode cX9_shut 2 = .ok (.iconst 0, 1) := by decide +kernel
theorem dX9_shut_3 : decode cX9_shut 3 = .ok (.istore_n 3, 1) := by decide +kernel
theorem dX9_shut_4 : decode cX9_shut 4 = .ok (.iload_n 3, 1) := by decide +kernel
theorem dX9_shut_5 : decode cX9_shut 5 = .ok (.aload_n 0, 1) := by decide +kernel
theorem dX9_shut_6 : decode cX9_shut 6 = .ok (.getfield 7, 3) := by decide +kernel
theorem dX9_shut_9 : decode cX9_shut 9 = .ok (.iconst 1, 1) := by decide +kernel
theorem dX9_shut_10 : decode cX9_shut 10 = .ok (.iaload, 1) := by decide +kernel
theorem dX9_shut_11 : decode cX9_shut 11 = .ok (.if_icmp .ge 26, 3) := by decide +kernel
theorem dX9_shut_14 : decode cX9_shut 14 = .ok (.iload_n 2, 1) := by decide +kernel
theorem dX9_shut_15 : decode cX9_shut 15 = .ok (.aload_n 0, 1) := by decide +kernel
theorem dX9_shut_16 : decode cX9_shut 16 = .ok (.iload_n 3, 1) := by decide +kernel
theorem dX9_shut_17 : decode cX9_shut 17 = .ok (.iload_n 1, 1) := by decide +kernel
theorem dX9_shut_18 : decode cX9_shut 18 = .ok (.invokevirtual 118, 3) := by decide +kernel
theorem dX9_shut_21 : decode cX9_shut 21 = .ok (.ifCond .eq 7, 3) := by decide +kernel
theorem dX9_shut_24 : decode cX9_shut 24 = .ok (.iconst 0, 1) := by decide +kernel
theorem dX9_shut_25 : decode cX9_shut 25 = .ok (.goto 4, 3) := by decide +kernel
theorem dX9_shut_28 : decode cX9_shut 28 = .ok (.iconst 1, 1) := by decide +kernel
theorem dX9_shut_29 : decode cX9_shut 29 = .ok (.iadd, 1) := by decide +kernel
theorem dX9_shut_30 : decode cX9_shut 30 = .ok (.istore_n 2, 1) := by decide +kernel
theorem dX9_shut_31 : decode cX9_shut 31 = .ok (.iinc 3 1, 3) := by decide +kernel
theorem dX9_shut_34 : decode cX9_shut 34 = .ok (.goto (-30), 3) := by decide +kernel
theorem dX9_shut_37 : decode cX9_shut 37 = .ok (.iload_n 2, 1) := by decide +kernel
theorem dX9_shut_38 : decode cX9_shut 38 = .ok (.ireturn, 1) := by decide +kernel
theorem dX9_dig_0 : decode cX9_dig 0 = .ok (.aload_n 0, 1) := by decide +kernel
theorem dX9_dig_1 : decode cX9_dig 1 = .ok (.aload_n 0, 1) := by decide +kernel
theorem dX9_dig_2 : decode cX9_dig 2 = .ok (.iload_n 1, 1) := by decide +kernel
theorem dX9_dig_3 : decode cX9_dig 3 = .ok (.invokevirtual 66, 3) := by decide +kernel
theorem dX9_dig_6 : decode cX9_dig 6 = .ok (.ifCond .eq 11, 3) := by decide +kernel
theorem dX9_dig_9 : decode cX9_dig 9 = .ok (.aload_n 0, 1) := by decide +kernel
theorem dX9_dig_10 : decode cX9_dig 10 = .ok (.iload_n 2, 1) := by decide +kernel
theorem dX9_dig_11 : decode cX9_dig 11 = .ok (.invokevirtual 66, 3) := by decide +kernel
theorem dX9_dig_14 : decode cX9_dig 14 = .ok (.ifCond .ne 7, 3) := by decide +kernel
theorem dX9_dig_17 : decode cX9_dig 17 = .ok (.iconst 1, 1) := by decide +kernel
theorem dX9_dig_18 : decode cX9_dig 18 = .ok (.goto 13, 3) := by decide +kernel
theorem dX9_dig_21 : decode cX9_dig 21 = .ok (.iload_n 1, 1) := by decide +kernel
theorem dX9_dig_22 : decode cX9_dig 22 = .ok (.iload_n 2, 1) := by decide +kernel
theorem dX9_dig_23 : decode cX9_dig 23 = .ok (.if_icmp .ne 7, 3) := by decide +kernel
theorem dX9_dig_26 : decode cX9_dig 26 = .ok (.iconst 2, 1) := by decide +kernel
theorem dX9_dig_27 : decode cX9_dig 27 = .ok (.goto 4, 3) := by decide +kernel
theorem dX9_dig_30 : decode cX9_dig 30 = .ok (.iconst 0, 1) := by decide +kernel
theorem dX9_dig_31 : decode cX9_dig 31 = .ok (.invokevirtual 70, 3) := by decide +kernel
theorem dX9_dig_34 : decode cX9_dig 34 = .ok (.ifCond .eq 5, 3) := by decide +kernel
theorem dX9_dig_37 : decode cX9_dig 37 = .ok (.iconst 0, 1) := by decide +kernel
theorem dX9_dig_38 : decode cX9_dig 38 = .ok (.ireturn, 1) := by decide +kernel
theorem dX9_dig_39 : decode cX9_dig 39 = .ok (.aload_n 0, 1) := by decide +kernel
theorem dX9_dig_40 : decode cX9_dig 40 = .ok (.iload_n 1, 1) := by decide +kernel
theorem dX9_dig_41 : decode cX9_dig 41 = .ok (.iload_n 2, 1) := by decide +kernel
theorem dX9_dig_42 : decode cX9_dig 42 = .ok (.invokevirtual 121, 3) := by decide +kernel
theorem dX9_dig_45 : decode cX9_dig 45 = .ok (.ifCond .lt 16, 3) := by decide +kernel
theorem dX9_dig_48 : decode cX9_dig 48 = .ok (.aload_n 0, 1) := by decide +kernel
theorem dX9_dig_49 : decode cX9_dig 49 = .ok (.iconst 3, 1) := by decide +kernel

theorem dX6_init_0 : decode cX6_init 0 = .ok (.aload_n 0, 1) := by decide +kernel
theorem dX6_init_1 : decode cX6_init 1 = .ok (.invokespecial 3, 3) := by decide +kernel
theorem dX6_init_4 : decode cX6_init 4 = .ok (.aload_n 0, 1) := by decide +kernel
theorem dX6_init_5 : decode cX6_init 5 = .ok (.bipush 18, 2) := by decide +kernel
theorem dX6_init_7 : decode cX6_init 7 = .ok (.newarray .int, 2) := by decide +kernel
theorem dX6_init_9 : decode cX6_init 9 = .ok (.putfield 9, 3) := by decide +kernel
theorem dX6_init_12 : decode cX6_init 12 = .ok (.aload_n 0, 1) := by decide +kernel
theorem dX6_init_13 : decode cX6_init 13 = .ok (.bipush 9, 2) := by decide +kernel
theorem dX6_init_15 : decode cX6_init 15 = .ok (.newarray .int, 2) := by decide +kernel
theorem dX6_init_17 : decode cX6_init 17 = .ok (.putfield 15, 3) := by decide +kernel
theorem dX6_init_20 : decode cX6_init 20 = .ok (.aload_n 0, 1) := by decide +kernel
theorem dX6_init_21 : decode cX6_init 21 = .ok (.bipush 9, 2) := by decide +kernel
theorem dX6_init_23 : decode cX6_init 23 = .ok (.newarray .int, 2) := by decide +kernel
theorem dX6_init_25 : decode cX6_init 25 = .ok (.putfield 18, 3) := by decide +kernel
theorem dX6_init_28 : decode cX6_init 28 = .ok (.aload_n 0, 1) := by decide +kernel
theorem dX6_init_29 : decode cX6_init 29 = .ok (.bipush 9, 2) := by decide +kernel
theorem dX6_init_31 : decode cX6_init 31 = .ok (.newarray .int, 2) := by decide +kernel
theorem dX6_init_33 : decode cX6_init 33 = .ok (.putfield 21, 3) := by decide +kernel
theorem dX6_init_36 : decode cX6_init 36 = .ok (.aload_n 0, 1) := by decide +kernel
theorem dX6_init_37 : decode cX6_init 37 = .ok (.aload_n 1, 1) := by decide +kernel
theorem dX6_init_38 : decode cX6_init 38 = .ok (.putfield 24, 3) := by decide +kernel
theorem dX6_init_41 : decode cX6_init 41 = .ok (.return_, 1) := by decide +kernel
theorem dX6_countParts_0 : decode cX6_countParts 0 = .ok (.aload_n 0, 1) := by decide +kernel
theorem dX6_countParts_1 : decode cX6_countParts 1 = .ok (.invokevirtual 28, 3) := by decide +kernel
theorem dX6_countParts_4 : decode cX6_countParts 4 = .ok (.aload_n 0, 1) := by decide +kernel
theorem dX6_countParts_5 : decode cX6_countParts 5 = .ok (.getfield 24, 3) := by decide +kernel
theorem dX6_countParts_8 : decode cX6_countParts 8 = .ok (.getfield 31, 3) := by decide +kernel
theorem dX6_countParts_11 : decode cX6_countParts 11 = .ok (.istore_n 2, 1) := by decide +kernel
theorem dX6_countParts_12 : decode cX6_countParts 12 = .ok (.iconst 0, 1) := by decide +kernel
theorem dX6_countParts_13 : decode cX6_countParts 13 = .ok (.istore_n 3, 1) := by decide +kernel
theorem dX6_countParts_14 : decode cX6_countParts 14 = .ok (.iload_n 3, 1) := by decide +kernel
theorem dX6_countParts_15 : decode cX6_countParts 15 = .ok (.aload_n 0, 1) := by decide +kernel
theorem dX6_countParts_16 : decode cX6_countParts 16 = .ok (.getfield 24, 3) := by decide +kernel
theorem dX6_countParts_19 : decode cX6_countParts 19 = .ok (.getfield 37, 3) := by decide +kernel
theorem dX6_countParts_22 : decode cX6_countParts 22 = .ok (.if_icmp .ge 42, 3) := by decide +kernel
theorem dX6_countParts_25 : decode cX6_countParts 25 = .ok (.iload_n 3, 1) := by decide +kernel
theorem dX6_countParts_26 : decode cX6_countParts 26 = .ok (.iload_n 1, 1) := by decide +kernel
theorem dX6_countParts_27 : decode cX6_countParts 27 = .ok (.if_icmp .eq 31, 3) := by decide +kernel
theorem dX6_countParts_30 : decode cX6_countParts 30 = .ok (.aload_n 0, 1) := by decide +kernel
theorem dX6_countParts_31 : decode cX6_countParts 31 = .ok (.aload_n 0, 1) := by decide +kernel
theorem dX6_countParts_32 : decode cX6_countParts 32 = .ok (.getfield 24, 3) := by decide +kernel
theorem dX6_countParts_35 : decode cX6_countParts 35 = .ok (.getfield 40, 3) := by decide +kernel
theorem dX6_countParts_38 : decode cX6_countParts 38 = .ok (.iload_n 3, 1) := by decide +kernel
theorem dX6_countParts_39 : decode cX6_countParts 39 = .ok (.iaload, 1) := by decide +kernel
theorem dX6_countParts_40 : decode cX6_countParts 40 = .ok (.aload_n 0, 1) := by decide +kernel
theorem dX6_countParts_41 : decode cX6_countParts 41 = .ok (.getfield 24, 3) := by decide +kernel
theorem dX6_countParts_44 : decode cX6_countParts 44 = .ok (.getfield 43, 3) := by decide +kernel
theorem dX6_countParts_47 : decode cX6_countParts 47 = .ok (.iload_n 3, 1) := by decide +kernel
theorem dX6_countParts_48 : decode cX6_countParts 48 = .ok (.iaload, 1) := by decide +kernel
theorem dX6_countParts_49 : decode cX6_countParts 49 = .ok (.invokevirtual 46, 3) := by decide +kernel
theorem dX6_countParts_52 : decode cX6_countParts 52 = .ok (.ifCond .eq 6, 3) := by decide +kernel
theorem dX6_countParts_55 : decode cX6_countParts 55 = .ok (.iinc 2 (-1), 3) := by decide +kernel
theorem dX6_countParts_58 : decode cX6_countParts 58 = .ok (.iinc 3 1, 3) := by decide +kernel
theorem dX6_countParts_61 : decode cX6_countParts 61 = .ok (.goto (-47), 3) := by decide +kernel
theorem dX6_countParts_64 : decode cX6_countParts 64 = .ok (.iload_n 2, 1) := by decide +kernel
theorem dX6_countParts_65 : decode cX6_countParts 65 = .ok (.ireturn, 1) := by decide +kernel
theorem dX6_separateLabels_0 : decode cX6_separateLabels 0 = .ok (.iconst 0, 1) := by decide +kernel
theorem dX6_separateLabels_1 : decode cX6_separateLabels 1 = .ok (.istore_n 1, 1) := by decide +kernel
theorem dX6_separateLabels_2 : decode cX6_separateLabels 2 = .ok (.iload_n 1, 1) := by decide +kernel
theorem dX6_separateLabels_3 : decode cX6_separateLabels 3 = .ok (.aload_n 0, 1) := by decide +kernel
theorem dX6_separateLabels_4 : decode cX6_separateLabels 4 = .ok (.getfield 9, 3) := by decide +kernel
theorem dX6_separateLabels_7 : decode cX6_separateLabels 7 = .ok (.arraylength, 1) := by decide +kernel
theorem dX6_separateLabels_8 : decode cX6_separateLabels 8 = .ok (.if_icmp .ge 16, 3) := by decide +kernel
theorem dX6_separateLabels_11 : decode cX6_separateLabels 11 = .ok (.aload_n 0, 1) := by decide +kernel
theorem dX6_separateLabels_12 : decode cX6_separateLabels 12 = .ok (.getfield 9, 3) := by decide +kernel
theorem dX6_separateLabels_15 : decode cX6_separateLabels 15 = .ok (.iload_n 1, 1) := by decide +kernel
theorem dX6_separateLabels_16 : decode cX6_separateLabels 16 = .ok (.iload_n 1, 1) := by decide +kernel
theorem dX6_separateLabels_17 : decode cX6_separateLabels 17 = .ok (.iastore, 1) := by decide +kernel
theorem dX6_separateLabels_18 : decode cX6_separateLabels 18 = .ok (.iinc 1 1, 3) := by decide +kernel
theorem dX6_separateLabels_21 : decode cX6_separateLabels 21 = .ok (.goto (-19), 3) := by decide +kernel
theorem dX6_separateLabels_24 : decode cX6_separateLabels 24 = .ok (.return_, 1) := by decide +kernel
theorem dX6_unite_0 : decode cX6_unite 0 = .ok (.aload_n 0, 1) := by decide +kernel
theorem dX6_unite_1 : decode cX6_unite 1 = .ok (.getfield 9, 3) := by decide +kernel
theorem dX6_unite_4 : decode cX6_unite 4 = .ok (.iload_n 1, 1) := by decide +kernel
theorem dX6_unite_5 : decode cX6_unite 5 = .ok (.iaload, 1) := by decide +kernel
theorem dX6_unite_6 : decode cX6_unite 6 = .ok (.istore_n 3, 1) := by decide +kernel
theorem dX6_unite_7 : decode cX6_unite 7 = .ok (.aload_n 0, 1) := by decide +kernel
theorem dX6_unite_8 : decode cX6_unite 8 = .ok (.getfield 9, 3) := by decide +kernel
theorem dX6_unite_11 : decode cX6_unite 11 = .ok (.iload_n 2, 1) := by decide +kernel
theorem dX6_unite_12 : decode cX6_unite 12 = .ok (.iaload, 1) := by decide +kernel
theorem dX6_unite_13 : decode cX6_unite 13 = .ok (.istore 4, 2) := by decide +kernel
theorem dX6_unite_15 : decode cX6_unite 15 = .ok (.iload_n 3, 1) := by decide +kernel
theorem dX6_unite_16 : decode cX6_unite 16 = .ok (.iload 4, 2) := by decide +kernel
theorem dX6_unite_18 : decode cX6_unite 18 = .ok (.if_icmp .ne 5, 3) := by decide +kernel
theorem dX6_unite_21 : decode cX6_unite 21 = .ok (.iconst 0, 1) := by decide +kernel
theorem dX6_unite_22 : decode cX6_unite 22 = .ok (.ireturn, 1) := by decide +kernel
theorem dX6_unite_23 : decode cX6_unite 23 = .ok (.iconst 0, 1) := by decide +kernel
theorem dX6_unite_24 : decode cX6_unite 24 = .ok (.istore 5, 2) := by decide +kernel
theorem dX6_unite_26 : decode cX6_unite 26 = .ok (.iload 5, 2) := by decide +kernel
theorem dX6_unite_28 : decode cX6_unite 28 = .ok (.aload_n 0, 1) := by decide +kernel
theorem dX6_unite_29 : decode cX6_unite 29 = .ok (.getfield 9, 3) := by decide +kernel
theorem dX6_unite_32 : decode cX6_unite 32 = .ok (.arraylength, 1) := by decide +kernel
theorem dX6_unite_33 : decode cX6_unite 33 = .ok (.if_icmp .ge 29, 3) := by decide +kernel
theorem dX6_unite_36 : decode cX6_unite 36 = .ok (.aload_n 0, 1) := by decide +kernel
theorem dX6_unite_37 : decode cX6_unite 37 = .ok (.getfield 9, 3) := by decide +kernel
theorem dX6_unite_40 : decode cX6_unite 40 = .ok (.iload 5, 2) := by decide +kernel
theorem dX6_unite_42 : decode cX6_unite 42 = .ok (.iaload, 1) := by decide +kernel
theorem dX6_unite_43 : decode cX6_unite 43 = .ok (.iload 4, 2) := by decide +kernel
theorem dX6_unite_45 : decode cX6_unite 45 = .ok (.if_icmp .ne 11, 3) := by decide +kernel
theorem dX6_unite_48 : decode cX6_unite 48 = .ok (.aload_n 0, 1) := by decide +kernel
theorem dX6_unite_49 : decode cX6_unite 49 = .ok (.getfield 9, 3) := by decide +kernel
theorem dX6_unite_52 : decode cX6_unite 52 = .ok (.iload 5, 2) := by decide +kernel
theorem dX6_unite_54 : decode cX6_unite 54 = .ok (.iload_n 3, 1) := by decide +kernel
theorem dX6_unite_55 : decode cX6_unite 55 = .ok (.iastore, 1) := by decide +kernel
theorem dX6_unite_56 : decode cX6_unite 56 = .ok (.iinc 5 1, 3) := by decide +kernel
theorem dX6_unite_59 : decode cX6_unite 59 = .ok (.goto (-33), 3) := by decide +kernel
theorem dX6_unite_62 : decode cX6_unite 62 = .ok (.iconst 1, 1) := by decide +kernel
theorem dX6_unite_63 : decode cX6_unite 63 = .ok (.ireturn, 1) := by decide +kernel
theorem dX6_shortestWalk_0 : decode cX6_shortestWalk 0 = .ok (.aload_n 0, 1) := by decide +kernel
theorem dX6_shortestWalk_1 : decode cX6_shortestWalk 1 = .ok (.getfield 15, 3) := by decide +kernel
theorem dX6_shortestWalk_4 : decode cX6_shortestWalk 4 = .ok (.iconst (-1), 1) := by decide +kernel
theorem dX6_shortestWalk_5 : decode cX6_shortestWalk 5 = .ok (.invokestatic 50, 3) := by decide +kernel
theorem dX6_shortestWalk_8 : decode cX6_shortestWalk 8 = .ok (.aload_n 0, 1) := by decide +kernel
theorem dX6_shortestWalk_9 : decode cX6_shortestWalk 9 = .ok (.getfield 15, 3) := by decide +kernel
theorem dX6_shortestWalk_12 : decode cX6_shortestWalk 12 = .ok (.iload_n 1, 1) := by decide +kernel
theorem dX6_shortestWalk_13 : decode cX6_shortestWalk 13 = .ok (.iconst 0, 1) := by decide +kernel
theorem dX6_shortestWalk_14 : decode cX6_shortestWalk 14 = .ok (.iastore, 1) := by decide +kernel
theorem dX6_shortestWalk_15 : decode cX6_shortestWalk 15 = .ok (.iconst 0, 1) := by decide +kernel
theorem dX6_shortestWalk_16 : decode cX6_shortestWalk 16 = .ok (.istore_n 3, 1) := by decide +kernel
theorem dX6_shortestWalk_17 : decode cX6_shortestWalk 17 = .ok (.iload_n 3, 1) := by decide +kernel
theorem dX6_shortestWalk_18 : decode cX6_shortestWalk 18 = .ok (.aload_n 0, 1) := by decide +kernel
theorem dX6_shortestWalk_19 : decode cX6_shortestWalk 19 = .ok (.getfield 24, 3) := by decide +kernel
theorem dX6_shortestWalk_22 : decode cX6_shortestWalk 22 = .ok (.getfield 31, 3) := by decide +kernel
theorem dX6_shortestWalk_25 : decode cX6_shortestWalk 25 = .ok (.if_icmp .ge 92, 3) := by decide +kernel
theorem dX6_shortestWalk_28 : decode cX6_shortestWalk 28 = .ok (.iconst 0, 1) := by decide +kernel
theorem dX6_shortestWalk_29 : decode cX6_shortestWalk 29 = .ok (.istore 4, 2) := by decide +kernel
theorem dX6_shortestWalk_31 : decode cX6_shortestWalk 31 = .ok (.iload 4, 2) := by decide +kernel
theorem dX6_shortestWalk_33 : decode cX6_shortestWalk 33 = .ok (.aload_n 0, 1) := by decide +kernel
theorem dX6_shortestWalk_34 : decode cX6_shortestWalk 34 = .ok (.getfield 24, 3) := by decide +kernel
theorem dX6_shortestWalk_37 : decode cX6_shortestWalk 37 = .ok (.getfield 37, 3) := by decide +kernel
theorem dX6_shortestWalk_40 : decode cX6_shortestWalk 40 = .ok (.if_icmp .ge 71, 3) := by decide +kernel
theorem dX6_shortestWalk_43 : decode cX6_shortestWalk 43 = .ok (.aload_n 0, 1) := by decide +kernel
theorem dX6_shortestWalk_44 : decode cX6_shortestWalk 44 = .ok (.getfield 24, 3) := by decide +kernel
theorem dX6_shortestWalk_47 : decode cX6_shortestWalk 47 = .ok (.iload 4, 2) := by decide +kernel
theorem dX6_shortestWalk_49 : decode cX6_shortestWalk 49 = .ok (.invokevirtual 56, 3) := by decide +kernel
theorem dX6_shortestWalk_52 : decode cX6_shortestWalk 52 = .ok (.ifCond .eq 53, 3) := by decide +kernel
theorem dX6_shortestWalk_55 : decode cX6_shortestWalk 55 = .ok (.aload_n 0, 1) := by decide +kernel
theorem dX6_shortestWalk_56 : decode cX6_shortestWalk 56 = .ok (.aload_n 0, 1) := by decide +kernel
theorem dX6_shortestWalk_57 : decode cX6_shortestWalk 57 = .ok (.getfield 24, 3) := by decide +kernel
theorem dX6_shortestWalk_60 : decode cX6_shortestWalk 60 = .ok (.getfield 40, 3) := by decide +kernel
theorem dX6_shortestWalk_63 : decode cX6_shortestWalk 63 = .ok (.iload 4, 2) := by decide +kernel
theorem dX6_shortestWalk_65 : decode cX6_shortestWalk 65 = .ok (.iaload, 1) := by decide +kernel
theorem dX6_shortestWalk_66 : decode cX6_shortestWalk 66 = .ok (.aload_n 0, 1) := by decide +kernel
theorem dX6_shortestWalk_67 : decode cX6_shortestWalk 67 = .ok (.getfield 24, 3) := by decide +kernel
theorem dX6_shortestWalk_70 : decode cX6_shortestWalk 70 = .ok (.getfield 43, 3) := by decide +kernel
theorem dX6_shortestWalk_73 : decode cX6_shortestWalk 73 = .ok (.iload 4, 2) := by decide +kernel
theorem dX6_shortestWalk_75 : decode cX6_shortestWalk 75 = .ok (.iaload, 1) := by decide +kernel
theorem dX6_shortestWalk_76 : decode cX6_shortestWalk 76 = .ok (.iload_n 3, 1) := by decide +kernel
theorem dX6_shortestWalk_77 : decode cX6_shortestWalk 77 = .ok (.invokevirtual 60, 3) := by decide +kernel
theorem dX6_shortestWalk_80 : decode cX6_shortestWalk 80 = .ok (.aload_n 0, 1) := by decide +kernel
theorem dX6_shortestWalk_81 : decode cX6_shortestWalk 81 = .ok (.aload_n 0, 1) := by decide +kernel
theorem dX6_shortestWalk_82 : decode cX6_shortestWalk 82 = .ok (.getfield 24, 3) := by decide +kernel
theorem dX6_shortestWalk_85 : decode cX6_shortestWalk 85 = .ok (.getfield 43, 3) := by decide +kernel
theorem dX6_shortestWalk_88 : decode cX6_shortestWalk 88 = .ok (.iload 4, 2) := by decide +kernel
theorem dX6_shortestWalk_90 : decode cX6_shortestWalk 90 = .ok (.iaload, 1) := by decide +kernel
theorem dX6_shortestWalk_91 : decode cX6_shortestWalk 91 = .ok (.aload_n 0, 1) := by decide +kernel
theorem dX6_shortestWalk_92 : decode cX6_shortestWalk 92 = .ok (.getfield 24, 3) := by decide +kernel
theorem dX6_shortestWalk_95 : decode cX6_shortestWalk 95 = .ok (.getfield 40, 3) := by decide +kernel
theorem dX6_shortestWalk_98 : decode cX6_shortestWalk 98 = .ok (.iload 4, 2) := by decide +kernel
theorem dX6_shortestWalk_100 : decode cX6_shortestWalk 100 = .ok (.iaload, 1) := by decide +kernel
theorem dX6_shortestWalk_101 : decode cX6_shortestWalk 101 = .ok (.iload_n 3, 1) := by decide +kernel
theorem dX6_shortestWalk_102 : decode cX6_shortestWalk 102 = .ok (.invokevirtual 60, 3) := by decide +kernel
theorem dX6_shortestWalk_105 : decode cX6_shortestWalk 105 = .ok (.iinc 4 1, 3) := by decide +kernel
theorem dX6_shortestWalk_108 : decode cX6_shortestWalk 108 = .ok (.goto (-77), 3) := by decide +kernel
theorem dX6_shortestWalk_111 : decode cX6_shortestWalk 111 = .ok (.iinc 3 1, 3) := by decide +kernel
theorem dX6_shortestWalk_114 : decode cX6_shortestWalk 114 = .ok (.goto (-97), 3) := by decide +kernel
theorem dX6_shortestWalk_117 : decode cX6_shortestWalk 117 = .ok (.aload_n 0, 1) := by decide +kernel
theorem dX6_shortestWalk_118 : decode cX6_shortestWalk 118 = .ok (.getfield 15, 3) := by decide +kernel
theorem dX6_shortestWalk_121 : decode cX6_shortestWalk 121 = .ok (.iload_n 2, 1) := by decide +kernel
theorem dX6_shortestWalk_122 : decode cX6_shortestWalk 122 = .ok (.iaload, 1) := by decide +kernel
theorem dX6_shortestWalk_123 : decode cX6_shortestWalk 123 = .ok (.ireturn, 1) := by decide +kernel
theorem dX6_walkOn_0 : decode cX6_walkOn 0 = .ok (.aload_n 0, 1) := by decide +kernel
theorem dX6_walkOn_1 : decode cX6_walkOn 1 = .ok (.getfield 15, 3) := by decide +kernel
theorem dX6_walkOn_4 : decode cX6_walkOn 4 = .ok (.iload_n 1, 1) := by decide +kernel
theorem dX6_walkOn_5 : decode cX6_walkOn 5 = .ok (.iaload, 1) := by decide +kernel
theorem dX6_walkOn_6 : decode cX6_walkOn 6 = .ok (.iload_n 3, 1) := by decide +kernel
theorem dX6_walkOn_7 : decode cX6_walkOn 7 = .ok (.if_icmp .ne 22, 3) := by decide +kernel
theorem dX6_walkOn_10 : decode cX6_walkOn 10 = .ok (.aload_n 0, 1) := by decide +kernel
theorem dX6_walkOn_11 : decode cX6_walkOn 11 = .ok (.getfield 15, 3) := by decide +kernel
theorem dX6_walkOn_14 : decode cX6_walkOn 14 = .ok (.iload_n 2, 1) := by decide +kernel
theorem dX6_walkOn_15 : decode cX6_walkOn 15 = .ok (.iaload, 1) := by decide +kernel
theorem dX6_walkOn_16 : decode cX6_walkOn 16 = .ok (.iconst (-1), 1) := by decide +kernel
theorem dX6_walkOn_17 : decode cX6_walkOn 17 = .ok (.if_icmp .ne 12, 3) := by decide +kernel
theorem dX6_walkOn_20 : decode cX6_walkOn 20 = .ok (.aload_n 0, 1) := by decide +kernel
theorem dX6_walkOn_21 : decode cX6_walkOn 21 = .ok (.getfield 15, 3) := by decide +kernel
theorem dX6_walkOn_24 : decode cX6_walkOn 24 = .ok (.iload_n 2, 1) := by decide +kernel
theorem dX6_walkOn_25 : decode cX6_walkOn 25 = .ok (.iload_n 3, 1) := by decide +kernel
theorem dX6_walkOn_26 : decode cX6_walkOn 26 = .ok (.iconst 1, 1) := by decide +kernel
theorem dX6_walkOn_27 : decode cX6_walkOn 27 = .ok (.iadd, 1) := by decide +kernel
theorem dX6_walkOn_28 : decode cX6_walkOn 28 = .ok (.iastore, 1) := by decide +kernel
theorem dX6_walkOn_29 : decode cX6_walkOn 29 = .ok (.return_, 1) := by decide +kernel
theorem dX6_countBridges_0 : decode cX6_countBridges 0 = .ok (.aload_n 0, 1) := by decide +kernel
theorem dX6_countBridges_1 : decode cX6_countBridges 1 = .ok (.getfield 18, 3) := by decide +kernel
theorem dX6_countBridges_4 : decode cX6_countBridges 4 = .ok (.iconst 0, 1) := by decide +kernel
theorem dX6_countBridges_5 : decode cX6_countBridges 5 = .ok (.invokestatic 50, 3) := by decide +kernel
theorem dX6_countBridges_8 : decode cX6_countBridges 8 = .ok (.aload_n 0, 1) := by decide +kernel
theorem dX6_countBridges_9 : decode cX6_countBridges 9 = .ok (.iconst 0, 1) := by decide +kernel
theorem dX6_countBridges_10 : decode cX6_countBridges 10 = .ok (.putfield 64, 3) := by decide +kernel
theorem dX6_countBridges_13 : decode cX6_countBridges 13 = .ok (.aload_n 0, 1) := by decide +kernel
theorem dX6_countBridges_14 : decode cX6_countBridges 14 = .ok (.iconst 0, 1) := by decide +kernel
theorem dX6_countBridges_15 : decode cX6_countBridges 15 = .ok (.putfield 67, 3) := by decide +kernel
theorem dX6_countBridges_18 : decode cX6_countBridges 18 = .ok (.iconst 0, 1) := by decide +kernel
theorem dX6_countBridges_19 : decode cX6_countBridges 19 = .ok (.istore_n 1, 1) := by decide +kernel
theorem dX6_countBridges_20 : decode cX6_countBridges 20 = .ok (.iload_n 1, 1) := by decide +kernel
theorem dX6_countBridges_21 : decode cX6_countBridges 21 = .ok (.aload_n 0, 1) := by decide +kernel
theorem dX6_countBridges_22 : decode cX6_countBridges 22 = .ok (.getfield 24, 3) := by decide +kernel
theorem dX6_countBridges_25 : decode cX6_countBridges 25 = .ok (.getfield 31, 3) := by decide +kernel
theorem dX6_countBridges_28 : decode cX6_countBridges 28 = .ok (.if_icmp .ge 25, 3) := by decide +kernel
theorem dX6_countBridges_31 : decode cX6_countBridges 31 = .ok (.aload_n 0, 1) := by decide +kernel
theorem dX6_countBridges_32 : decode cX6_countBridges 32 = .ok (.getfield 18, 3) := by decide +kernel
theorem dX6_countBridges_35 : decode cX6_countBridges 35 = .ok (.iload_n 1, 1) := by decide +kernel
theorem dX6_countBridges_36 : decode cX6_countBridges 36 = .ok (.iaload, 1) := by decide +kernel
theorem dX6_countBridges_37 : decode cX6_countBridges 37 = .ok (.ifCond .ne 10, 3) := by decide +kernel
theorem dX6_countBridges_40 : decode cX6_countBridges 40 = .ok (.aload_n 0, 1) := by decide +kernel
theorem dX6_countBridges_41 : decode cX6_countBridges 41 = .ok (.iload_n 1, 1) := by decide +kernel
theorem dX6_countBridges_42 : decode cX6_countBridges 42 = .ok (.iconst (-1), 1) := by decide +kernel
theorem dX6_countBridges_43 : decode cX6_countBridges 43 = .ok (.iconst 1, 1) := by decide +kernel
theorem dX6_countBridges_44 : decode cX6_countBridges 44 = .ok (.invokestatic 70, 3) := by decide +kernel
theorem dX6_countBridges_47 : decode cX6_countBridges 47 = .ok (.iinc 1 1, 3) := by decide +kernel
theorem dX6_countBridges_50 : decode cX6_countBridges 50 = .ok (.goto (-30), 3) := by decide +kernel
theorem dX6_countBridges_53 : decode cX6_countBridges 53 = .ok (.aload_n 0, 1) := by decide +kernel
theorem dX6_countBridges_54 : decode cX6_countBridges 54 = .ok (.getfield 67, 3) := by decide +kernel
theorem dX6_countBridges_57 : decode cX6_countBridges 57 = .ok (.ireturn, 1) := by decide +kernel
theorem dX6_explore_0 : decode cX6_explore 0 = .ok (.iload_n 3, 1) := by decide +kernel
theorem dX6_explore_1 : decode cX6_explore 1 = .ok (.bipush 9, 2) := by decide +kernel
theorem dX6_explore_3 : decode cX6_explore 3 = .ok (.if_icmp .le 4, 3) := by decide +kernel
theorem dX6_explore_6 : decode cX6_explore 6 = .ok (.return_, 1) := by decide +kernel
theorem dX6_explore_7 : decode cX6_explore 7 = .ok (.aload_n 0, 1) := by decide +kernel
theorem dX6_explore_8 : decode cX6_explore 8 = .ok (.iload_n 1, 1) := by decide +kernel
theorem dX6_explore_9 : decode cX6_explore 9 = .ok (.invokevirtual 74, 3) := by decide +kernel
theorem dX6_explore_12 : decode cX6_explore 12 = .ok (.iconst 0, 1) := by decide +kernel
theorem dX6_explore_13 : decode cX6_explore 13 = .ok (.istore 4, 2) := by decide +kernel
theorem dX6_explore_15 : decode cX6_explore 15 = .ok (.iload 4, 2) := by decide +kernel
theorem dX6_explore_17 : decode cX6_explore 17 = .ok (.aload_n 0, 1) := by decide +kernel
theorem dX6_explore_18 : decode cX6_explore 18 = .ok (.getfield 24, 3) := by decide +kernel
theorem dX6_explore_21 : decode cX6_explore 21 = .ok (.getfield 37, 3) := by decide +kernel
theorem dX6_explore_24 : decode cX6_explore 24 = .ok (.if_icmp .ge 110, 3) := by decide +kernel
theorem dX6_explore_27 : decode cX6_explore 27 = .ok (.aload_n 0, 1) := by decide +kernel
theorem dX6_explore_28 : decode cX6_explore 28 = .ok (.getfield 24, 3) := by decide +kernel
theorem dX6_explore_31 : decode cX6_explore 31 = .ok (.iload 4, 2) := by decide +kernel
theorem dX6_explore_33 : decode cX6_explore 33 = .ok (.iload_n 1, 1) := by decide +kernel
theorem dX6_explore_34 : decode cX6_explore 34 = .ok (.invokevirtual 78, 3) := by decide +kernel
theorem dX6_explore_37 : decode cX6_explore 37 = .ok (.istore 5, 2) := by decide +kernel
theorem dX6_explore_39 : decode cX6_explore 39 = .ok (.iload 5, 2) := by decide +kernel
theorem dX6_explore_41 : decode cX6_explore 41 = .ok (.iconst (-1), 1) := by decide +kernel
theorem dX6_explore_42 : decode cX6_explore 42 = .ok (.if_icmp .eq 86, 3) := by decide +kernel
theorem dX6_explore_45 : decode cX6_explore 45 = .ok (.iload 4, 2) := by decide +kernel
theorem dX6_explore_47 : decode cX6_explore 47 = .ok (.iload_n 2, 1) := by decide +kernel
theorem dX6_explore_48 : decode cX6_explore 48 = .ok (.if_icmp .ne 6, 3) := by decide +kernel
theorem dX6_explore_51 : decode cX6_explore 51 = .ok (.goto 77, 3) := by decide +kernel
theorem dX6_explore_54 : decode cX6_explore 54 = .ok (.aload_n 0, 1) := by decide +kernel
theorem dX6_explore_55 : decode cX6_explore 55 = .ok (.getfield 18, 3) := by decide +kernel
theorem dX6_explore_58 : decode cX6_explore 58 = .ok (.iload 5, 2) := by decide +kernel
theorem dX6_explore_60 : decode cX6_explore 60 = .ok (.iaload, 1) := by decide +kernel
theorem dX6_explore_61 : decode cX6_explore 61 = .ok (.ifCond .eq 18, 3) := by decide +kernel
theorem dX6_explore_64 : decode cX6_explore 64 = .ok (.aload_n 0, 1) := by decide +kernel
theorem dX6_explore_65 : decode cX6_explore 65 = .ok (.iload_n 1, 1) := by decide +kernel
theorem dX6_explore_66 : decode cX6_explore 66 = .ok (.aload_n 0, 1) := by decide +kernel
theorem dX6_explore_67 : decode cX6_explore 67 = .ok (.getfield 18, 3) := by decide +kernel
theorem dX6_explore_70 : decode cX6_explore 70 = .ok (.iload 5, 2) := by decide +kernel
theorem dX6_explore_72 : decode cX6_explore 72 = .ok (.iaload, 1) := by decide +kernel
theorem dX6_explore_73 : decode cX6_explore 73 = .ok (.invokevirtual 82, 3) := by decide +kernel
theorem dX6_explore_76 : decode cX6_explore 76 = .ok (.goto 52, 3) := by decide +kernel
theorem dX6_explore_79 : decode cX6_explore 79 = .ok (.aload_n 0, 1) := by decide +kernel
theorem dX6_explore_80 : decode cX6_explore 80 = .ok (.iload 5, 2) := by decide +kernel
theorem dX6_explore_82 : decode cX6_explore 82 = .ok (.iload 4, 2) := by decide +kernel
theorem dX6_explore_84 : decode cX6_explore 84 = .ok (.iload_n 3, 1) := by decide +kernel
theorem dX6_explore_85 : decode cX6_explore 85 = .ok (.iconst 1, 1) := by decide +kernel
theorem dX6_explore_86 : decode cX6_explore 86 = .ok (.iadd, 1) := by decide +kernel
theorem dX6_explore_87 : decode cX6_explore 87 = .ok (.invokestatic 70, 3) := by decide +kernel
theorem dX6_explore_90 : decode cX6_explore 90 = .ok (.aload_n 0, 1) := by decide +kernel
theorem dX6_explore_91 : decode cX6_explore 91 = .ok (.iload_n 1, 1) := by decide +kernel
theorem dX6_explore_92 : decode cX6_explore 92 = .ok (.aload_n 0, 1) := by decide +kernel
theorem dX6_explore_93 : decode cX6_explore 93 = .ok (.getfield 21, 3) := by decide +kernel
theorem dX6_explore_96 : decode cX6_explore 96 = .ok (.iload 5, 2) := by decide +kernel
theorem dX6_explore_98 : decode cX6_explore 98 = .ok (.iaload, 1) := by decide +kernel
theorem dX6_explore_99 : decode cX6_explore 99 = .ok (.invokevirtual 82, 3) := by decide +kernel
theorem dX6_explore_102 : decode cX6_explore 102 = .ok (.aload_n 0, 1) := by decide +kernel
theorem dX6_explore_103 : decode cX6_explore 103 = .ok (.getfield 21, 3) := by decide +kernel
theorem dX6_explore_106 : decode cX6_explore 106 = .ok (.iload 5, 2) := by decide +kernel
theorem dX6_explore_108 : decode cX6_explore 108 = .ok (.iaload, 1) := by decide +kernel
theorem dX6_explore_109 : decode cX6_explore 109 = .ok (.aload_n 0, 1) := by decide +kernel
theorem dX6_explore_110 : decode cX6_explore 110 = .ok (.getfield 18, 3) := by decide +kernel
theorem dX6_explore_113 : decode cX6_explore 113 = .ok (.iload_n 1, 1) := by decide +kernel
theorem dX6_explore_114 : decode cX6_explore 114 = .ok (.iaload, 1) := by decide +kernel
theorem dX6_explore_115 : decode cX6_explore 115 = .ok (.if_icmp .le 13, 3) := by decide +kernel
theorem dX6_explore_118 : decode cX6_explore 118 = .ok (.aload_n 0, 1) := by decide +kernel
theorem dX6_explore_119 : decode cX6_explore 119 = .ok (.dup, 1) := by decide +kernel
theorem dX6_explore_120 : decode cX6_explore 120 = .ok (.getfield 67, 3) := by decide +kernel
theorem dX6_explore_123 : decode cX6_explore 123 = .ok (.iconst 1, 1) := by decide +kernel
theorem dX6_explore_124 : decode cX6_explore 124 = .ok (.iadd, 1) := by decide +kernel
theorem dX6_explore_125 : decode cX6_explore 125 = .ok (.putfield 67, 3) := by decide +kernel
theorem dX6_explore_128 : decode cX6_explore 128 = .ok (.iinc 4 1, 3) := by decide +kernel
theorem dX6_explore_131 : decode cX6_explore 131 = .ok (.goto (-116), 3) := by decide +kernel
theorem dX6_explore_134 : decode cX6_explore 134 = .ok (.return_, 1) := by decide +kernel
theorem dX6_numberMagnet_0 : decode cX6_numberMagnet 0 = .ok (.aload_n 0, 1) := by decide +kernel
theorem dX6_numberMagnet_1 : decode cX6_numberMagnet 1 = .ok (.dup, 1) := by decide +kernel
theorem dX6_numberMagnet_2 : decode cX6_numberMagnet 2 = .ok (.getfield 64, 3) := by decide +kernel
theorem dX6_numberMagnet_5 : decode cX6_numberMagnet 5 = .ok (.iconst 1, 1) := by decide +kernel
theorem dX6_numberMagnet_6 : decode cX6_numberMagnet 6 = .ok (.iadd, 1) := by decide +kernel
theorem dX6_numberMagnet_7 : decode cX6_numberMagnet 7 = .ok (.putfield 64, 3) := by decide +kernel
theorem dX6_numberMagnet_10 : decode cX6_numberMagnet 10 = .ok (.aload_n 0, 1) := by decide +kernel
theorem dX6_numberMagnet_11 : decode cX6_numberMagnet 11 = .ok (.getfield 18, 3) := by decide +kernel
theorem dX6_numberMagnet_14 : decode cX6_numberMagnet 14 = .ok (.iload_n 1, 1) := by decide +kernel
theorem dX6_numberMagnet_15 : decode cX6_numberMagnet 15 = .ok (.aload_n 0, 1) := by decide +kernel
theorem dX6_numberMagnet_16 : decode cX6_numberMagnet 16 = .ok (.getfield 64, 3) := by decide +kernel
theorem dX6_numberMagnet_19 : decode cX6_numberMagnet 19 = .ok (.iastore, 1) := by decide +kernel
theorem dX6_numberMagnet_20 : decode cX6_numberMagnet 20 = .ok (.aload_n 0, 1) := by decide +kernel
theorem dX6_numberMagnet_21 : decode cX6_numberMagnet 21 = .ok (.getfield 21, 3) := by decide +kernel
theorem dX6_numberMagnet_24 : decode cX6_numberMagnet 24 = .ok (.iload_n 1, 1) := by decide +kernel
theorem dX6_numberMagnet_25 : decode cX6_numberMagnet 25 = .ok (.aload_n 0, 1) := by decide +kernel
theorem dX6_numberMagnet_26 : decode cX6_numberMagnet 26 = .ok (.getfield 64, 3) := by decide +kernel
theorem dX6_numberMagnet_29 : decode cX6_numberMagnet 29 = .ok (.iastore, 1) := by decide +kernel
theorem dX6_numberMagnet_30 : decode cX6_numberMagnet 30 = .ok (.return_, 1) := by decide +kernel
theorem dX6_reachNumber_0 : decode cX6_reachNumber 0 = .ok (.aload_n 0, 1) := by decide +kernel
theorem dX6_reachNumber_1 : decode cX6_reachNumber 1 = .ok (.getfield 21, 3) := by decide +kernel
theorem dX6_reachNumber_4 : decode cX6_reachNumber 4 = .ok (.iload_n 1, 1) := by decide +kernel
theorem dX6_reachNumber_5 : decode cX6_reachNumber 5 = .ok (.aload_n 0, 1) := by decide +kernel
theorem dX6_reachNumber_6 : decode cX6_reachNumber 6 = .ok (.getfield 21, 3) := by decide +kernel
theorem dX6_reachNumber_9 : decode cX6_reachNumber 9 = .ok (.iload_n 1, 1) := by decide +kernel
theorem dX6_reachNumber_10 : decode cX6_reachNumber 10 = .ok (.iaload, 1) := by decide +kernel
theorem dX6_reachNumber_11 : decode cX6_reachNumber 11 = .ok (.iload_n 2, 1) := by decide +kernel
theorem dX6_reachNumber_12 : decode cX6_reachNumber 12 = .ok (.invokestatic 86, 3) := by decide +kernel
theorem dX6_reachNumber_15 : decode cX6_reachNumber 15 = .ok (.iastore, 1) := by decide +kernel
theorem dX6_reachNumber_16 : decode cX6_reachNumber 16 = .ok (.return_, 1) := by decide +kernel
theorem dX6_countBridgesByFilling_0 : decode cX6_countBridgesByFilling 0 = .ok (.aload_n 0, 1) := by decide +kernel
theorem dX6_countBridgesByFilling_1 : decode cX6_countBridgesByFilling 1 = .ok (.iconst (-1), 1) := by decide +kernel
theorem dX6_countBridgesByFilling_2 : decode cX6_countBridgesByFilling 2 = .ok (.invokevirtual 91, 3) := by decide +kernel
theorem dX6_countBridgesByFilling_5 : decode cX6_countBridgesByFilling 5 = .ok (.istore_n 1, 1) := by decide +kernel
theorem dX6_countBridgesByFilling_6 : decode cX6_countBridgesByFilling 6 = .ok (.iconst 0, 1) := by decide +kernel
theorem dX6_countBridgesByFilling_7 : decode cX6_countBridgesByFilling 7 = .ok (.istore_n 2, 1) := by decide +kernel
theorem dX6_countBridgesByFilling_8 : decode cX6_countBridgesByFilling 8 = .ok (.iconst 0, 1) := by decide +kernel
theorem dX6_countBridgesByFilling_9 : decode cX6_countBridgesByFilling 9 = .ok (.istore_n 3, 1) := by decide +kernel
theorem dX6_countBridgesByFilling_10 : decode cX6_countBridgesByFilling 10 = .ok (.iload_n 3, 1) := by decide +kernel
theorem dX6_countBridgesByFilling_11 : decode cX6_countBridgesByFilling 11 = .ok (.aload_n 0, 1) := by decide +kernel
theorem dX6_countBridgesByFilling_12 : decode cX6_countBridgesByFilling 12 = .ok (.getfield 24, 3) := by decide +kernel
theorem dX6_countBridgesByFilling_15 : decode cX6_countBridgesByFilling 15 = .ok (.getfield 37, 3) := by decide +kernel
theorem dX6_countBridgesByFilling_18 : decode cX6_countBridgesByFilling 18 = .ok (.if_icmp .ge 21, 3) := by decide +kernel
theorem dX6_countBridgesByFilling_21 : decode cX6_countBridgesByFilling 21 = .ok (.aload_n 0, 1) := by decide +kernel
theorem dX6_countBridgesByFilling_22 : decode cX6_countBridgesByFilling 22 = .ok (.iload_n 3, 1) := by decide +kernel
theorem dX6_countBridgesByFilling_23 : decode cX6_countBridgesByFilling 23 = .ok (.invokevirtual 91, 3) := by decide +kernel
theorem dX6_countBridgesByFilling_26 : decode cX6_countBridgesByFilling 26 = .ok (.iload_n 1, 1) := by decide +kernel
theorem dX6_countBridgesByFilling_27 : decode cX6_countBridgesByFilling 27 = .ok (.if_icmp .le 6, 3) := by decide +kernel
theorem dX6_countBridgesByFilling_30 : decode cX6_countBridgesByFilling 30 = .ok (.iinc 2 1, 3) := by decide +kernel
theorem dX6_countBridgesByFilling_33 : decode cX6_countBridgesByFilling 33 = .ok (.iinc 3 1, 3) := by decide +kernel
theorem dX6_countBridgesByFilling_36 : decode cX6_countBridgesByFilling 36 = .ok (.goto (-26), 3) := by decide +kernel
theorem dX6_countBridgesByFilling_39 : decode cX6_countBridgesByFilling 39 = .ok (.iload_n 2, 1) := by decide +kernel
theorem dX6_countBridgesByFilling_40 : decode cX6_countBridgesByFilling 40 = .ok (.ireturn, 1) := by decide +kernel
theorem dX6_canUniteCounterparts_0 : decode cX6_canUniteCounterparts 0 = .ok (.aload_n 0, 1) := by decide +kernel
theorem dX6_canUniteCounterparts_1 : decode cX6_canUniteCounterparts 1 = .ok (.invokevirtual 28, 3) := by decide +kernel
theorem dX6_canUniteCounterparts_4 : decode cX6_canUniteCounterparts 4 = .ok (.iconst 0, 1) := by decide +kernel
theorem dX6_canUniteCounterparts_5 : decode cX6_canUniteCounterparts 5 = .ok (.istore_n 1, 1) := by decide +kernel
theorem dX6_canUniteCounterparts_6 : decode cX6_canUniteCounterparts 6 = .ok (.iload_n 1, 1) := by decide +kernel
theorem dX6_canUniteCounterparts_7 : decode cX6_canUniteCounterparts 7 = .ok (.aload_n 0, 1) := by decide +kernel
theorem dX6_canUniteCounterparts_8 : decode cX6_canUniteCounterparts 8 = .ok (.getfield 24, 3) := by decide +kernel
theorem dX6_canUniteCounterparts_11 : decode cX6_canUniteCounterparts 11 = .ok (.getfield 37, 3) := by decide +kernel
theorem dX6_canUniteCounterparts_14 : decode cX6_canUniteCounterparts 14 = .ok (.if_icmp .ge 49, 3) := by decide +kernel
theorem dX6_canUniteCounterparts_17 : decode cX6_canUniteCounterparts 17 = .ok (.aload_n 0, 1) := by decide +kernel
theorem dX6_canUniteCounterparts_18 : decode cX6_canUniteCounterparts 18 = .ok (.getfield 24, 3) := by decide +kernel
theorem dX6_canUniteCounterparts_21 : decode cX6_canUniteCounterparts 21 = .ok (.getfield 40, 3) := by decide +kernel
theorem dX6_canUniteCounterparts_24 : decode cX6_canUniteCounterparts 24 = .ok (.iload_n 1, 1) := by decide +kernel
theorem dX6_canUniteCounterparts_25 : decode cX6_canUniteCounterparts 25 = .ok (.iaload, 1) := by decide +kernel
theorem dX6_canUniteCounterparts_26 : decode cX6_canUniteCounterparts 26 = .ok (.istore_n 2, 1) := by decide +kernel
theorem dX6_canUniteCounterparts_27 : decode cX6_canUniteCounterparts 27 = .ok (.aload_n 0, 1) := by decide +kernel
theorem dX6_canUniteCounterparts_28 : decode cX6_canUniteCounterparts 28 = .ok (.getfield 24, 3) := by decide +kernel
theorem dX6_canUniteCounterparts_31 : decode cX6_canUniteCounterparts 31 = .ok (.getfield 43, 3) := by decide +kernel
theorem dX6_canUniteCounterparts_34 : decode cX6_canUniteCounterparts 34 = .ok (.iload_n 1, 1) := by decide +kernel
theorem dX6_canUniteCounterparts_35 : decode cX6_canUniteCounterparts 35 = .ok (.iaload, 1) := by decide +kernel
theorem dX6_canUniteCounterparts_36 : decode cX6_canUniteCounterparts 36 = .ok (.istore_n 3, 1) := by decide +kernel
theorem dX6_canUniteCounterparts_37 : decode cX6_canUniteCounterparts 37 = .ok (.aload_n 0, 1) := by decide +kernel
theorem dX6_canUniteCounterparts_38 : decode cX6_canUniteCounterparts 38 = .ok (.iload_n 2, 1) := by decide +kernel
theorem dX6_canUniteCounterparts_39 : decode cX6_canUniteCounterparts 39 = .ok (.iload_n 3, 1) := by decide +kernel
theorem dX6_canUniteCounterparts_40 : decode cX6_canUniteCounterparts 40 = .ok (.bipush 9, 2) := by decide +kernel
theorem dX6_canUniteCounterparts_42 : decode cX6_canUniteCounterparts 42 = .ok (.iadd, 1) := by decide +kernel
theorem dX6_canUniteCounterparts_43 : decode cX6_canUniteCounterparts 43 = .ok (.invokevirtual 46, 3) := by decide +kernel
theorem dX6_canUniteCounterparts_46 : decode cX6_canUniteCounterparts 46 = .ok (.pop, 1) := by decide +kernel
theorem dX6_canUniteCounterparts_47 : decode cX6_canUniteCounterparts 47 = .ok (.aload_n 0, 1) := by decide +kernel
theorem dX6_canUniteCounterparts_48 : decode cX6_canUniteCounterparts 48 = .ok (.iload_n 3, 1) := by decide +kernel
theorem dX6_canUniteCounterparts_49 : decode cX6_canUniteCounterparts 49 = .ok (.iload_n 2, 1) := by decide +kernel
theorem dX6_canUniteCounterparts_50 : decode cX6_canUniteCounterparts 50 = .ok (.bipush 9, 2) := by decide +kernel
theorem dX6_canUniteCounterparts_52 : decode cX6_canUniteCounterparts 52 = .ok (.iadd, 1) := by decide +kernel
theorem dX6_canUniteCounterparts_53 : decode cX6_canUniteCounterparts 53 = .ok (.invokevirtual 46, 3) := by decide +kernel
theorem dX6_canUniteCounterparts_56 : decode cX6_canUniteCounterparts 56 = .ok (.pop, 1) := by decide +kernel
theorem dX6_canUniteCounterparts_57 : decode cX6_canUniteCounterparts 57 = .ok (.iinc 1 1, 3) := by decide +kernel
theorem dX6_canUniteCounterparts_60 : decode cX6_canUniteCounterparts 60 = .ok (.goto (-54), 3) := by decide +kernel
theorem dX6_canUniteCounterparts_63 : decode cX6_canUniteCounterparts 63 = .ok (.iconst 0, 1) := by decide +kernel
theorem dX6_canUniteCounterparts_64 : decode cX6_canUniteCounterparts 64 = .ok (.istore_n 1, 1) := by decide +kernel
theorem dX6_canUniteCounterparts_65 : decode cX6_canUniteCounterparts 65 = .ok (.iload_n 1, 1) := by decide +kernel
theorem dX6_canUniteCounterparts_66 : decode cX6_canUniteCounterparts 66 = .ok (.aload_n 0, 1) := by decide +kernel
theorem dX6_canUniteCounterparts_67 : decode cX6_canUniteCounterparts 67 = .ok (.getfield 24, 3) := by decide +kernel
theorem dX6_canUniteCounterparts_70 : decode cX6_canUniteCounterparts 70 = .ok (.getfield 31, 3) := by decide +kernel
theorem dX6_canUniteCounterparts_73 : decode cX6_canUniteCounterparts 73 = .ok (.if_icmp .ge 29, 3) := by decide +kernel
theorem dX6_canUniteCounterparts_76 : decode cX6_canUniteCounterparts 76 = .ok (.aload_n 0, 1) := by decide +kernel
theorem dX6_canUniteCounterparts_77 : decode cX6_canUniteCounterparts 77 = .ok (.getfield 9, 3) := by decide +kernel
theorem dX6_canUniteCounterparts_80 : decode cX6_canUniteCounterparts 80 = .ok (.iload_n 1, 1) := by decide +kernel
theorem dX6_canUniteCounterparts_81 : decode cX6_canUniteCounterparts 81 = .ok (.iaload, 1) := by decide +kernel
theorem dX6_canUniteCounterparts_82 : decode cX6_canUniteCounterparts 82 = .ok (.aload_n 0, 1) := by decide +kernel
theorem dX6_canUniteCounterparts_83 : decode cX6_canUniteCounterparts 83 = .ok (.getfield 9, 3) := by decide +kernel
theorem dX6_canUniteCounterparts_86 : decode cX6_canUniteCounterparts 86 = .ok (.iload_n 1, 1) := by decide +kernel
theorem dX6_canUniteCounterparts_87 : decode cX6_canUniteCounterparts 87 = .ok (.bipush 9, 2) := by decide +kernel
theorem dX6_canUniteCounterparts_89 : decode cX6_canUniteCounterparts 89 = .ok (.iadd, 1) := by decide +kernel
theorem dX6_canUniteCounterparts_90 : decode cX6_canUniteCounterparts 90 = .ok (.iaload, 1) := by decide +kernel
theorem dX6_canUniteCounterparts_91 : decode cX6_canUniteCounterparts 91 = .ok (.if_icmp .ne 5, 3) := by decide +kernel
theorem dX6_canUniteCounterparts_94 : decode cX6_canUniteCounterparts 94 = .ok (.iconst 0, 1) := by decide +kernel
theorem dX6_canUniteCounterparts_95 : decode cX6_canUniteCounterparts 95 = .ok (.ireturn, 1) := by decide +kernel
theorem dX6_canUniteCounterparts_96 : decode cX6_canUniteCounterparts 96 = .ok (.iinc 1 1, 3) := by decide +kernel
theorem dX6_canUniteCounterparts_99 : decode cX6_canUniteCounterparts 99 = .ok (.goto (-34), 3) := by decide +kernel
theorem dX6_canUniteCounterparts_102 : decode cX6_canUniteCounterparts 102 = .ok (.iconst 1, 1) := by decide +kernel
theorem dX6_canUniteCounterparts_103 : decode cX6_canUniteCounterparts 103 = .ok (.ireturn, 1) := by decide +kernel
theorem dX6_bestTurnSet_0 : decode cX6_bestTurnSet 0 = .ok (.aload_n 0, 1) := by decide +kernel
theorem dX6_bestTurnSet_1 : decode cX6_bestTurnSet 1 = .ok (.iconst 0, 1) := by decide +kernel
theorem dX6_bestTurnSet_2 : decode cX6_bestTurnSet 2 = .ok (.putfield 95, 3) := by decide +kernel
theorem dX6_bestTurnSet_5 : decode cX6_bestTurnSet 5 = .ok (.iconst 0, 1) := by decide +kernel
theorem dX6_bestTurnSet_6 : decode cX6_bestTurnSet 6 = .ok (.istore_n 1, 1) := by decide +kernel
theorem dX6_bestTurnSet_7 : decode cX6_bestTurnSet 7 = .ok (.iconst 0, 1) := by decide +kernel
theorem dX6_bestTurnSet_8 : decode cX6_bestTurnSet 8 = .ok (.istore_n 2, 1) := by decide +kernel
theorem dX6_bestTurnSet_9 : decode cX6_bestTurnSet 9 = .ok (.iconst 0, 1) := by decide +kernel
theorem dX6_bestTurnSet_10 : decode cX6_bestTurnSet 10 = .ok (.istore_n 3, 1) := by decide +kernel
theorem dX6_bestTurnSet_11 : decode cX6_bestTurnSet 11 = .ok (.iload_n 3, 1) := by decide +kernel
theorem dX6_bestTurnSet_12 : decode cX6_bestTurnSet 12 = .ok (.aload_n 0, 1) := by decide +kernel
theorem dX6_bestTurnSet_13 : decode cX6_bestTurnSet 13 = .ok (.getfield 24, 3) := by decide +kernel
theorem dX6_bestTurnSet_16 : decode cX6_bestTurnSet 16 = .ok (.getfield 31, 3) := by decide +kernel
theorem dX6_bestTurnSet_19 : decode cX6_bestTurnSet 19 = .ok (.if_icmp .ge 39, 3) := by decide +kernel
theorem dX6_bestTurnSet_22 : decode cX6_bestTurnSet 22 = .ok (.iload_n 1, 1) := by decide +kernel
theorem dX6_bestTurnSet_23 : decode cX6_bestTurnSet 23 = .ok (.iload_n 3, 1) := by decide +kernel
theorem dX6_bestTurnSet_24 : decode cX6_bestTurnSet 24 = .ok (.invokestatic 98, 3) := by decide +kernel
theorem dX6_bestTurnSet_27 : decode cX6_bestTurnSet 27 = .ok (.ifCond .ne 25, 3) := by decide +kernel
theorem dX6_bestTurnSet_30 : decode cX6_bestTurnSet 30 = .ok (.aload_n 0, 1) := by decide +kernel
theorem dX6_bestTurnSet_31 : decode cX6_bestTurnSet 31 = .ok (.iload_n 3, 1) := by decide +kernel
theorem dX6_bestTurnSet_32 : decode cX6_bestTurnSet 32 = .ok (.invokevirtual 101, 3) := by decide +kernel
theorem dX6_bestTurnSet_35 : decode cX6_bestTurnSet 35 = .ok (.istore 4, 2) := by decide +kernel
theorem dX6_bestTurnSet_37 : decode cX6_bestTurnSet 37 = .ok (.iload_n 1, 1) := by decide +kernel
theorem dX6_bestTurnSet_38 : decode cX6_bestTurnSet 38 = .ok (.iload 4, 2) := by decide +kernel
theorem dX6_bestTurnSet_40 : decode cX6_bestTurnSet 40 = .ok (.ior, 1) := by decide +kernel
theorem dX6_bestTurnSet_41 : decode cX6_bestTurnSet 41 = .ok (.istore_n 1, 1) := by decide +kernel
theorem dX6_bestTurnSet_42 : decode cX6_bestTurnSet 42 = .ok (.iload_n 2, 1) := by decide +kernel
theorem dX6_bestTurnSet_43 : decode cX6_bestTurnSet 43 = .ok (.aload_n 0, 1) := by decide +kernel
theorem dX6_bestTurnSet_44 : decode cX6_bestTurnSet 44 = .ok (.iload 4, 2) := by decide +kernel
theorem dX6_bestTurnSet_46 : decode cX6_bestTurnSet 46 = .ok (.iload_n 3, 1) := by decide +kernel
theorem dX6_bestTurnSet_47 : decode cX6_bestTurnSet 47 = .ok (.invokevirtual 104, 3) := by decide +kernel
theorem dX6_bestTurnSet_50 : decode cX6_bestTurnSet 50 = .ok (.ior, 1) := by decide +kernel
theorem dX6_bestTurnSet_51 : decode cX6_bestTurnSet 51 = .ok (.istore_n 2, 1) := by decide +kernel
theorem dX6_bestTurnSet_52 : decode cX6_bestTurnSet 52 = .ok (.iinc 3 1, 3) := by decide +kernel
theorem dX6_bestTurnSet_55 : decode cX6_bestTurnSet 55 = .ok (.goto (-44), 3) := by decide +kernel
theorem dX6_bestTurnSet_58 : decode cX6_bestTurnSet 58 = .ok (.aload_n 0, 1) := by decide +kernel
theorem dX6_bestTurnSet_59 : decode cX6_bestTurnSet 59 = .ok (.getfield 24, 3) := by decide +kernel
theorem dX6_bestTurnSet_62 : decode cX6_bestTurnSet 62 = .ok (.aload_n 0, 1) := by decide +kernel
theorem dX6_bestTurnSet_63 : decode cX6_bestTurnSet 63 = .ok (.getfield 95, 3) := by decide +kernel
theorem dX6_bestTurnSet_66 : decode cX6_bestTurnSet 66 = .ok (.invokevirtual 107, 3) := by decide +kernel
theorem dX6_bestTurnSet_69 : decode cX6_bestTurnSet 69 = .ok (.ifCond .ne 7, 3) := by decide +kernel
theorem dX6_bestTurnSet_72 : decode cX6_bestTurnSet 72 = .ok (.iload_n 2, 1) := by decide +kernel
theorem dX6_bestTurnSet_73 : decode cX6_bestTurnSet 73 = .ok (.goto 4, 3) := by decide +kernel
theorem dX6_bestTurnSet_76 : decode cX6_bestTurnSet 76 = .ok (.iconst (-1), 1) := by decide +kernel
theorem dX6_bestTurnSet_77 : decode cX6_bestTurnSet 77 = .ok (.ireturn, 1) := by decide +kernel
theorem dX6_givePolesFrom_0 : decode cX6_givePolesFrom 0 = .ok (.iconst 1, 1) := by decide +kernel
theorem dX6_givePolesFrom_1 : decode cX6_givePolesFrom 1 = .ok (.iload_n 1, 1) := by decide +kernel
theorem dX6_givePolesFrom_2 : decode cX6_givePolesFrom 2 = .ok (.ishl, 1) := by decide +kernel
theorem dX6_givePolesFrom_3 : decode cX6_givePolesFrom 3 = .ok (.istore_n 2, 1) := by decide +kernel
theorem dX6_givePolesFrom_4 : decode cX6_givePolesFrom 4 = .ok (.aload_n 0, 1) := by decide +kernel
theorem dX6_givePolesFrom_5 : decode cX6_givePolesFrom 5 = .ok (.dup, 1) := by decide +kernel
theorem dX6_givePolesFrom_6 : decode cX6_givePolesFrom 6 = .ok (.getfield 95, 3) := by decide +kernel
theorem dX6_givePolesFrom_9 : decode cX6_givePolesFrom 9 = .ok (.iload_n 2, 1) := by decide +kernel
theorem dX6_givePolesFrom_10 : decode cX6_givePolesFrom 10 = .ok (.ior, 1) := by decide +kernel
theorem dX6_givePolesFrom_11 : decode cX6_givePolesFrom 11 = .ok (.putfield 95, 3) := by decide +kernel
theorem dX6_givePolesFrom_14 : decode cX6_givePolesFrom 14 = .ok (.iconst 1, 1) := by decide +kernel
theorem dX6_givePolesFrom_15 : decode cX6_givePolesFrom 15 = .ok (.istore_n 3, 1) := by decide +kernel
theorem dX6_givePolesFrom_16 : decode cX6_givePolesFrom 16 = .ok (.iload_n 3, 1) := by decide +kernel
theorem dX6_givePolesFrom_17 : decode cX6_givePolesFrom 17 = .ok (.aload_n 0, 1) := by decide +kernel
theorem dX6_givePolesFrom_18 : decode cX6_givePolesFrom 18 = .ok (.getfield 24, 3) := by decide +kernel
theorem dX6_givePolesFrom_21 : decode cX6_givePolesFrom 21 = .ok (.getfield 31, 3) := by decide +kernel
theorem dX6_givePolesFrom_24 : decode cX6_givePolesFrom 24 = .ok (.if_icmp .ge 106, 3) := by decide +kernel
theorem dX6_givePolesFrom_27 : decode cX6_givePolesFrom 27 = .ok (.iconst 0, 1) := by decide +kernel
theorem dX6_givePolesFrom_28 : decode cX6_givePolesFrom 28 = .ok (.istore 4, 2) := by decide +kernel
theorem dX6_givePolesFrom_30 : decode cX6_givePolesFrom 30 = .ok (.iload 4, 2) := by decide +kernel
theorem dX6_givePolesFrom_32 : decode cX6_givePolesFrom 32 = .ok (.aload_n 0, 1) := by decide +kernel
theorem dX6_givePolesFrom_33 : decode cX6_givePolesFrom 33 = .ok (.getfield 24, 3) := by decide +kernel
theorem dX6_givePolesFrom_36 : decode cX6_givePolesFrom 36 = .ok (.getfield 37, 3) := by decide +kernel
theorem dX6_givePolesFrom_39 : decode cX6_givePolesFrom 39 = .ok (.if_icmp .ge 85, 3) := by decide +kernel
theorem dX6_givePolesFrom_42 : decode cX6_givePolesFrom 42 = .ok (.iconst 1, 1) := by decide +kernel
theorem dX6_givePolesFrom_43 : decode cX6_givePolesFrom 43 = .ok (.aload_n 0, 1) := by decide +kernel
theorem dX6_givePolesFrom_44 : decode cX6_givePolesFrom 44 = .ok (.getfield 24, 3) := by decide +kernel
theorem dX6_givePolesFrom_47 : decode cX6_givePolesFrom 47 = .ok (.getfield 40, 3) := by decide +kernel
theorem dX6_givePolesFrom_50 : decode cX6_givePolesFrom 50 = .ok (.iload 4, 2) := by decide +kernel
theorem dX6_givePolesFrom_52 : decode cX6_givePolesFrom 52 = .ok (.iaload, 1) := by decide +kernel
theorem dX6_givePolesFrom_53 : decode cX6_givePolesFrom 53 = .ok (.ishl, 1) := by decide +kernel
theorem dX6_givePolesFrom_54 : decode cX6_givePolesFrom 54 = .ok (.iconst 1, 1) := by decide +kernel
theorem dX6_givePolesFrom_55 : decode cX6_givePolesFrom 55 = .ok (.aload_n 0, 1) := by decide +kernel
theorem dX6_givePolesFrom_56 : decode cX6_givePolesFrom 56 = .ok (.getfield 24, 3) := by decide +kernel
theorem dX6_givePolesFrom_59 : decode cX6_givePolesFrom 59 = .ok (.getfield 43, 3) := by decide +kernel
theorem dX6_givePolesFrom_62 : decode cX6_givePolesFrom 62 = .ok (.iload 4, 2) := by decide +kernel
theorem dX6_givePolesFrom_64 : decode cX6_givePolesFrom 64 = .ok (.iaload, 1) := by decide +kernel
theorem dX6_givePolesFrom_65 : decode cX6_givePolesFrom 65 = .ok (.ishl, 1) := by decide +kernel
theorem dX6_givePolesFrom_66 : decode cX6_givePolesFrom 66 = .ok (.ior, 1) := by decide +kernel
theorem dX6_givePolesFrom_67 : decode cX6_givePolesFrom 67 = .ok (.istore 5, 2) := by decide +kernel
theorem dX6_givePolesFrom_69 : decode cX6_givePolesFrom 69 = .ok (.iload 5, 2) := by decide +kernel
theorem dX6_givePolesFrom_71 : decode cX6_givePolesFrom 71 = .ok (.iload_n 2, 1) := by decide +kernel
theorem dX6_givePolesFrom_72 : decode cX6_givePolesFrom 72 = .ok (.iconst (-1), 1) := by decide +kernel
theorem dX6_givePolesFrom_73 : decode cX6_givePolesFrom 73 = .ok (.ixor, 1) := by decide +kernel
theorem dX6_givePolesFrom_74 : decode cX6_givePolesFrom 74 = .ok (.iand, 1) := by decide +kernel
theorem dX6_givePolesFrom_75 : decode cX6_givePolesFrom 75 = .ok (.istore 6, 2) := by decide +kernel
theorem dX6_givePolesFrom_77 : decode cX6_givePolesFrom 77 = .ok (.iload 6, 2) := by decide +kernel
theorem dX6_givePolesFrom_79 : decode cX6_givePolesFrom 79 = .ok (.ifCond .eq 39, 3) := by decide +kernel
theorem dX6_givePolesFrom_82 : decode cX6_givePolesFrom 82 = .ok (.iload 6, 2) := by decide +kernel
theorem dX6_givePolesFrom_84 : decode cX6_givePolesFrom 84 = .ok (.iload 5, 2) := by decide +kernel
theorem dX6_givePolesFrom_86 : decode cX6_givePolesFrom 86 = .ok (.if_icmp .ne 6, 3) := by decide +kernel
theorem dX6_givePolesFrom_89 : decode cX6_givePolesFrom 89 = .ok (.goto 29, 3) := by decide +kernel
theorem dX6_givePolesFrom_92 : decode cX6_givePolesFrom 92 = .ok (.iload_n 2, 1) := by decide +kernel
theorem dX6_givePolesFrom_93 : decode cX6_givePolesFrom 93 = .ok (.iload 6, 2) := by decide +kernel
theorem dX6_givePolesFrom_95 : decode cX6_givePolesFrom 95 = .ok (.ior, 1) := by decide +kernel
theorem dX6_givePolesFrom_96 : decode cX6_givePolesFrom 96 = .ok (.istore_n 2, 1) := by decide +kernel
theorem dX6_givePolesFrom_97 : decode cX6_givePolesFrom 97 = .ok (.iload 5, 2) := by decide +kernel
theorem dX6_givePolesFrom_99 : decode cX6_givePolesFrom 99 = .ok (.aload_n 0, 1) := by decide +kernel
theorem dX6_givePolesFrom_100 : decode cX6_givePolesFrom 100 = .ok (.getfield 95, 3) := by decide +kernel
theorem dX6_givePolesFrom_103 : decode cX6_givePolesFrom 103 = .ok (.iand, 1) := by decide +kernel
theorem dX6_givePolesFrom_104 : decode cX6_givePolesFrom 104 = .ok (.ifCond .ne 14, 3) := by decide +kernel
theorem dX6_givePolesFrom_107 : decode cX6_givePolesFrom 107 = .ok (.aload_n 0, 1) := by decide +kernel
theorem dX6_givePolesFrom_108 : decode cX6_givePolesFrom 108 = .ok (.dup, 1) := by decide +kernel
theorem dX6_givePolesFrom_109 : decode cX6_givePolesFrom 109 = .ok (.getfield 95, 3) := by decide +kernel
theorem dX6_givePolesFrom_112 : decode cX6_givePolesFrom 112 = .ok (.iload 6, 2) := by decide +kernel
theorem dX6_givePolesFrom_114 : decode cX6_givePolesFrom 114 = .ok (.ior, 1) := by decide +kernel
theorem dX6_givePolesFrom_115 : decode cX6_givePolesFrom 115 = .ok (.putfield 95, 3) := by decide +kernel
theorem dX6_givePolesFrom_118 : decode cX6_givePolesFrom 118 = .ok (.iinc 4 1, 3) := by decide +kernel
theorem dX6_givePolesFrom_121 : decode cX6_givePolesFrom 121 = .ok (.goto (-91), 3) := by decide +kernel
theorem dX6_givePolesFrom_124 : decode cX6_givePolesFrom 124 = .ok (.iinc 3 1, 3) := by decide +kernel
theorem dX6_givePolesFrom_127 : decode cX6_givePolesFrom 127 = .ok (.goto (-111), 3) := by decide +kernel
theorem dX6_givePolesFrom_130 : decode cX6_givePolesFrom 130 = .ok (.iload_n 2, 1) := by decide +kernel
theorem dX6_givePolesFrom_131 : decode cX6_givePolesFrom 131 = .ok (.ireturn, 1) := by decide +kernel
theorem dX6_bestTurnSetOf_0 : decode cX6_bestTurnSetOf 0 = .ok (.iload_n 1, 1) := by decide +kernel
theorem dX6_bestTurnSetOf_1 : decode cX6_bestTurnSetOf 1 = .ok (.aload_n 0, 1) := by decide +kernel
theorem dX6_bestTurnSetOf_2 : decode cX6_bestTurnSetOf 2 = .ok (.getfield 95, 3) := by decide +kernel
theorem dX6_bestTurnSetOf_5 : decode cX6_bestTurnSetOf 5 = .ok (.aload_n 0, 1) := by decide +kernel
theorem dX6_bestTurnSetOf_6 : decode cX6_bestTurnSetOf 6 = .ok (.getfield 24, 3) := by decide +kernel
theorem dX6_bestTurnSetOf_9 : decode cX6_bestTurnSetOf 9 = .ok (.getfield 110, 3) := by decide +kernel
theorem dX6_bestTurnSetOf_12 : decode cX6_bestTurnSetOf 12 = .ok (.ixor, 1) := by decide +kernel
theorem dX6_bestTurnSetOf_13 : decode cX6_bestTurnSetOf 13 = .ok (.iand, 1) := by decide +kernel
theorem dX6_bestTurnSetOf_14 : decode cX6_bestTurnSetOf 14 = .ok (.istore_n 3, 1) := by decide +kernel
theorem dX6_bestTurnSetOf_15 : decode cX6_bestTurnSetOf 15 = .ok (.iload_n 1, 1) := by decide +kernel
theorem dX6_bestTurnSetOf_16 : decode cX6_bestTurnSetOf 16 = .ok (.iload_n 3, 1) := by decide +kernel
theorem dX6_bestTurnSetOf_17 : decode cX6_bestTurnSetOf 17 = .ok (.ixor, 1) := by decide +kernel
theorem dX6_bestTurnSetOf_18 : decode cX6_bestTurnSetOf 18 = .ok (.istore 4, 2) := by decide +kernel
theorem dX6_bestTurnSetOf_20 : decode cX6_bestTurnSetOf 20 = .ok (.iload_n 3, 1) := by decide +kernel
theorem dX6_bestTurnSetOf_21 : decode cX6_bestTurnSetOf 21 = .ok (.invokestatic 113, 3) := by decide +kernel
theorem dX6_bestTurnSetOf_24 : decode cX6_bestTurnSetOf 24 = .ok (.iload 4, 2) := by decide +kernel
theorem dX6_bestTurnSetOf_26 : decode cX6_bestTurnSetOf 26 = .ok (.invokestatic 113, 3) := by decide +kernel
theorem dX6_bestTurnSetOf_29 : decode cX6_bestTurnSetOf 29 = .ok (.isub, 1) := by decide +kernel
theorem dX6_bestTurnSetOf_30 : decode cX6_bestTurnSetOf 30 = .ok (.istore 5, 2) := by decide +kernel
theorem dX6_bestTurnSetOf_32 : decode cX6_bestTurnSetOf 32 = .ok (.iload 5, 2) := by decide +kernel
theorem dX6_bestTurnSetOf_34 : decode cX6_bestTurnSetOf 34 = .ok (.ifCond .ne 18, 3) := by decide +kernel
theorem dX6_bestTurnSetOf_37 : decode cX6_bestTurnSetOf 37 = .ok (.iload_n 3, 1) := by decide +kernel
theorem dX6_bestTurnSetOf_38 : decode cX6_bestTurnSetOf 38 = .ok (.iload_n 2, 1) := by decide +kernel
theorem dX6_bestTurnSetOf_39 : decode cX6_bestTurnSetOf 39 = .ok (.invokestatic 98, 3) := by decide +kernel
theorem dX6_bestTurnSetOf_42 : decode cX6_bestTurnSetOf 42 = .ok (.ifCond .eq 7, 3) := by decide +kernel
theorem dX6_bestTurnSetOf_45 : decode cX6_bestTurnSetOf 45 = .ok (.iload_n 3, 1) := by decide +kernel
theorem dX6_bestTurnSetOf_46 : decode cX6_bestTurnSetOf 46 = .ok (.goto 5, 3) := by decide +kernel
theorem dX6_bestTurnSetOf_49 : decode cX6_bestTurnSetOf 49 = .ok (.iload 4, 2) := by decide +kernel
theorem dX6_bestTurnSetOf_51 : decode cX6_bestTurnSetOf 51 = .ok (.ireturn, 1) := by decide +kernel
theorem dX6_bestTurnSetOf_52 : decode cX6_bestTurnSetOf 52 = .ok (.iload 5, 2) := by decide +kernel
theorem dX6_bestTurnSetOf_54 : decode cX6_bestTurnSetOf 54 = .ok (.ifCond .ge 7, 3) := by decide +kernel
theorem dX6_bestTurnSetOf_57 : decode cX6_bestTurnSetOf 57 = .ok (.iload_n 3, 1) := by decide +kernel
theorem dX6_bestTurnSetOf_58 : decode cX6_bestTurnSetOf 58 = .ok (.goto 5, 3) := by decide +kernel
theorem dX6_bestTurnSetOf_61 : decode cX6_bestTurnSetOf 61 = .ok (.iload 4, 2) := by decide +kernel
theorem dX6_bestTurnSetOf_63 : decode cX6_bestTurnSetOf 63 = .ok (.ireturn, 1) := by decide +kernel
theorem dX6_bestTurnSetSize_0 : decode cX6_bestTurnSetSize 0 = .ok (.aload_n 0, 1) := by decide +kernel
theorem dX6_bestTurnSetSize_1 : decode cX6_bestTurnSetSize 1 = .ok (.invokevirtual 118, 3) := by decide +kernel
theorem dX6_bestTurnSetSize_4 : decode cX6_bestTurnSetSize 4 = .ok (.istore_n 1, 1) := by decide +kernel
theorem dX6_bestTurnSetSize_5 : decode cX6_bestTurnSetSize 5 = .ok (.iload_n 1, 1) := by decide +kernel
theorem dX6_bestTurnSetSize_6 : decode cX6_bestTurnSetSize 6 = .ok (.iconst (-1), 1) := by decide +kernel
theorem dX6_bestTurnSetSize_7 : decode cX6_bestTurnSetSize 7 = .ok (.if_icmp .ne 7, 3) := by decide +kernel
theorem dX6_bestTurnSetSize_10 : decode cX6_bestTurnSetSize 10 = .ok (.iconst (-1), 1) := by decide +kernel
theorem dX6_bestTurnSetSize_11 : decode cX6_bestTurnSetSize 11 = .ok (.goto 7, 3) := by decide +kernel
theorem dX6_bestTurnSetSize_14 : decode cX6_bestTurnSetSize 14 = .ok (.iload_n 1, 1) := by decide +kernel
theorem dX6_bestTurnSetSize_15 : decode cX6_bestTurnSetSize 15 = .ok (.invokestatic 113, 3) := by decide +kernel
theorem dX6_bestTurnSetSize_18 : decode cX6_bestTurnSetSize 18 = .ok (.ireturn, 1) := by decide +kernel
theorem dX6_smallestSettlingSet_0 : decode cX6_smallestSettlingSet 0 = .ok (.iconst 1, 1) := by decide +kernel
theorem dX6_smallestSettlingSet_1 : decode cX6_smallestSettlingSet 1 = .ok (.aload_n 0, 1) := by decide +kernel
theorem dX6_smallestSettlingSet_2 : decode cX6_smallestSettlingSet 2 = .ok (.getfield 24, 3) := by decide +kernel
theorem dX6_smallestSettlingSet_5 : decode cX6_smallestSettlingSet 5 = .ok (.getfield 31, 3) := by decide +kernel
theorem dX6_smallestSettlingSet_8 : decode cX6_smallestSettlingSet 8 = .ok (.ishl, 1) := by decide +kernel
theorem dX6_smallestSettlingSet_9 : decode cX6_smallestSettlingSet 9 = .ok (.istore_n 1, 1) := by decide +kernel
theorem dX6_smallestSettlingSet_10 : decode cX6_smallestSettlingSet 10 = .ok (.iconst (-1), 1) := by decide +kernel
theorem dX6_smallestSettlingSet_11 : decode cX6_smallestSettlingSet 11 = .ok (.istore_n 2, 1) := by decide +kernel
theorem dX6_smallestSettlingSet_12 : decode cX6_smallestSettlingSet 12 = .ok (.iconst 0, 1) := by decide +kernel
theorem dX6_smallestSettlingSet_13 : decode cX6_smallestSettlingSet 13 = .ok (.istore_n 3, 1) := by decide +kernel
theorem dX6_smallestSettlingSet_14 : decode cX6_smallestSettlingSet 14 = .ok (.iload_n 3, 1) := by decide +kernel
theorem dX6_smallestSettlingSet_15 : decode cX6_smallestSettlingSet 15 = .ok (.iload_n 1, 1) := by decide +kernel
theorem dX6_smallestSettlingSet_16 : decode cX6_smallestSettlingSet 16 = .ok (.if_icmp .ge 60, 3) := by decide +kernel
theorem dX6_smallestSettlingSet_19 : decode cX6_smallestSettlingSet 19 = .ok (.iload_n 3, 1) := by decide +kernel
theorem dX6_smallestSettlingSet_20 : decode cX6_smallestSettlingSet 20 = .ok (.invokestatic 113, 3) := by decide +kernel
theorem dX6_smallestSettlingSet_23 : decode cX6_smallestSettlingSet 23 = .ok (.istore 4, 2) := by decide +kernel
theorem dX6_smallestSettlingSet_25 : decode cX6_smallestSettlingSet 25 = .ok (.iload_n 2, 1) := by decide +kernel
theorem dX6_smallestSettlingSet_26 : decode cX6_smallestSettlingSet 26 = .ok (.iconst (-1), 1) := by decide +kernel
theorem dX6_smallestSettlingSet_27 : decode cX6_smallestSettlingSet 27 = .ok (.if_icmp .eq 9, 3) := by decide +kernel
theorem dX6_smallestSettlingSet_30 : decode cX6_smallestSettlingSet 30 = .ok (.iload 4, 2) := by decide +kernel
theorem dX6_smallestSettlingSet_32 : decode cX6_smallestSettlingSet 32 = .ok (.iload_n 2, 1) := by decide +kernel
theorem dX6_smallestSettlingSet_33 : decode cX6_smallestSettlingSet 33 = .ok (.if_icmp .ge 7, 3) := by decide +kernel
theorem dX6_smallestSettlingSet_36 : decode cX6_smallestSettlingSet 36 = .ok (.iconst 1, 1) := by decide +kernel
theorem dX6_smallestSettlingSet_37 : decode cX6_smallestSettlingSet 37 = .ok (.goto 4, 3) := by decide +kernel
theorem dX6_smallestSettlingSet_40 : decode cX6_smallestSettlingSet 40 = .ok (.iconst 0, 1) := by decide +kernel
theorem dX6_smallestSettlingSet_41 : decode cX6_smallestSettlingSet 41 = .ok (.istore 5, 2) := by decide +kernel
theorem dX6_smallestSettlingSet_43 : decode cX6_smallestSettlingSet 43 = .ok (.iload 5, 2) := by decide +kernel
theorem dX6_smallestSettlingSet_45 : decode cX6_smallestSettlingSet 45 = .ok (.ifCond .eq 25, 3) := by decide +kernel
theorem dX6_smallestSettlingSet_48 : decode cX6_smallestSettlingSet 48 = .ok (.aload_n 0, 1) := by decide +kernel
theorem dX6_smallestSettlingSet_49 : decode cX6_smallestSettlingSet 49 = .ok (.getfield 24, 3) := by decide +kernel
theorem dX6_smallestSettlingSet_52 : decode cX6_smallestSettlingSet 52 = .ok (.aload_n 0, 1) := by decide +kernel
theorem dX6_smallestSettlingSet_53 : decode cX6_smallestSettlingSet 53 = .ok (.getfield 24, 3) := by decide +kernel
theorem dX6_smallestSettlingSet_56 : decode cX6_smallestSettlingSet 56 = .ok (.getfield 110, 3) := by decide +kernel
theorem dX6_smallestSettlingSet_59 : decode cX6_smallestSettlingSet 59 = .ok (.iload_n 3, 1) := by decide +kernel
theorem dX6_smallestSettlingSet_60 : decode cX6_smallestSettlingSet 60 = .ok (.ixor, 1) := by decide +kernel
theorem dX6_smallestSettlingSet_61 : decode cX6_smallestSettlingSet 61 = .ok (.invokevirtual 107, 3) := by decide +kernel
theorem dX6_smallestSettlingSet_64 : decode cX6_smallestSettlingSet 64 = .ok (.ifCond .ne 6, 3) := by decide +kernel
theorem dX6_smallestSettlingSet_67 : decode cX6_smallestSettlingSet 67 = .ok (.iload 4, 2) := by decide +kernel
theorem dX6_smallestSettlingSet_69 : decode cX6_smallestSettlingSet 69 = .ok (.istore_n 2, 1) := by decide +kernel
theorem dX6_smallestSettlingSet_70 : decode cX6_smallestSettlingSet 70 = .ok (.iinc 3 1, 3) := by decide +kernel
theorem dX6_smallestSettlingSet_73 : decode cX6_smallestSettlingSet 73 = .ok (.goto (-59), 3) := by decide +kernel
theorem dX6_smallestSettlingSet_76 : decode cX6_smallestSettlingSet 76 = .ok (.iload_n 2, 1) := by decide +kernel
theorem dX6_smallestSettlingSet_77 : decode cX6_smallestSettlingSet 77 = .ok (.ireturn, 1) := by decide +kernel
theorem dX6_leastBlockedOfSets_0 : decode cX6_leastBlockedOfSets 0 = .ok (.iconst 1, 1) := by decide +kernel
theorem dX6_leastBlockedOfSets_1 : decode cX6_leastBlockedOfSets 1 = .ok (.aload_n 0, 1) := by decide +kernel
theorem dX6_leastBlockedOfSets_2 : decode cX6_leastBlockedOfSets 2 = .ok (.getfield 24, 3) := by decide +kernel
theorem dX6_leastBlockedOfSets_5 : decode cX6_leastBlockedOfSets 5 = .ok (.getfield 31, 3) := by decide +kernel
theorem dX6_leastBlockedOfSets_8 : decode cX6_leastBlockedOfSets 8 = .ok (.ishl, 1) := by decide +kernel
theorem dX6_leastBlockedOfSets_9 : decode cX6_leastBlockedOfSets 9 = .ok (.istore_n 1, 1) := by decide +kernel
theorem dX6_leastBlockedOfSets_10 : decode cX6_leastBlockedOfSets 10 = .ok (.aload_n 0, 1) := by decide +kernel
theorem dX6_leastBlockedOfSets_11 : decode cX6_leastBlockedOfSets 11 = .ok (.getfield 24, 3) := by decide +kernel
theorem dX6_leastBlockedOfSets_14 : decode cX6_leastBlockedOfSets 14 = .ok (.getfield 37, 3) := by decide +kernel
theorem dX6_leastBlockedOfSets_17 : decode cX6_leastBlockedOfSets 17 = .ok (.istore_n 2, 1) := by decide +kernel
theorem dX6_leastBlockedOfSets_18 : decode cX6_leastBlockedOfSets 18 = .ok (.iconst 0, 1) := by decide +kernel
theorem dX6_leastBlockedOfSets_19 : decode cX6_leastBlockedOfSets 19 = .ok (.istore_n 3, 1) := by decide +kernel
theorem dX6_leastBlockedOfSets_20 : decode cX6_leastBlockedOfSets 20 = .ok (.iload_n 3, 1) := by decide +kernel
theorem dX6_leastBlockedOfSets_21 : decode cX6_leastBlockedOfSets 21 = .ok (.iload_n 1, 1) := by decide +kernel
theorem dX6_leastBlockedOfSets_22 : decode cX6_leastBlockedOfSets 22 = .ok (.if_icmp .ge 30, 3) := by decide +kernel
theorem dX6_leastBlockedOfSets_25 : decode cX6_leastBlockedOfSets 25 = .ok (.iload_n 2, 1) := by decide +kernel
theorem dX6_leastBlockedOfSets_26 : decode cX6_leastBlockedOfSets 26 = .ok (.aload_n 0, 1) := by decide +kernel
theorem dX6_leastBlockedOfSets_27 : decode cX6_leastBlockedOfSets 27 = .ok (.getfield 24, 3) := by decide +kernel
theorem dX6_leastBlockedOfSets_30 : decode cX6_leastBlockedOfSets 30 = .ok (.aload_n 0, 1) := by decide +kernel
theorem dX6_leastBlockedOfSets_31 : decode cX6_leastBlockedOfSets 31 = .ok (.getfield 24, 3) := by decide +kernel
theorem dX6_leastBlockedOfSets_34 : decode cX6_leastBlockedOfSets 34 = .ok (.getfield 110, 3) := by decide +kernel
theorem dX6_leastBlockedOfSets_37 : decode cX6_leastBlockedOfSets 37 = .ok (.iload_n 3, 1) := by decide +kernel
theorem dX6_leastBlockedOfSets_38 : decode cX6_leastBlockedOfSets 38 = .ok (.ixor, 1) := by decide +kernel
theorem dX6_leastBlockedOfSets_39 : decode cX6_leastBlockedOfSets 39 = .ok (.invokevirtual 107, 3) := by decide +kernel
theorem dX6_leastBlockedOfSets_42 : decode cX6_leastBlockedOfSets 42 = .ok (.invokestatic 86, 3) := by decide +kernel
theorem dX6_leastBlockedOfSets_45 : decode cX6_leastBlockedOfSets 45 = .ok (.istore_n 2, 1) := by decide +kernel
theorem dX6_leastBlockedOfSets_46 : decode cX6_leastBlockedOfSets 46 = .ok (.iinc 3 1, 3) := by decide +kernel
theorem dX6_leastBlockedOfSets_49 : decode cX6_leastBlockedOfSets 49 = .ok (.goto (-29), 3) := by decide +kernel
theorem dX6_leastBlockedOfSets_52 : decode cX6_leastBlockedOfSets 52 = .ok (.iload_n 2, 1) := by decide +kernel
theorem dX6_leastBlockedOfSets_53 : decode cX6_leastBlockedOfSets 53 = .ok (.ireturn, 1) := by decide +kernel
theorem dX6_leastBlockedWithinBounds_0 : decode cX6_leastBlockedWithinBounds 0 = .ok (.aload_n 0, 1) := by decide +kernel
theorem dX6_leastBlockedWithinBounds_1 : decode cX6_leastBlockedWithinBounds 1 = .ok (.iconst 0, 1) := by decide +kernel
theorem dX6_leastBlockedWithinBounds_2 : decode cX6_leastBlockedWithinBounds 2 = .ok (.iconst 0, 1) := by decide +kernel
theorem dX6_leastBlockedWithinBounds_3 : decode cX6_leastBlockedWithinBounds 3 = .ok (.iconst 0, 1) := by decide +kernel
theorem dX6_leastBlockedWithinBounds_4 : decode cX6_leastBlockedWithinBounds 4 = .ok (.aload_n 0, 1) := by decide +kernel
theorem dX6_leastBlockedWithinBounds_5 : decode cX6_leastBlockedWithinBounds 5 = .ok (.getfield 24, 3) := by decide +kernel
theorem dX6_leastBlockedWithinBounds_8 : decode cX6_leastBlockedWithinBounds 8 = .ok (.invokevirtual 122, 3) := by decide +kernel
theorem dX6_leastBlockedWithinBounds_11 : decode cX6_leastBlockedWithinBounds 11 = .ok (.invokestatic 125, 3) := by decide +kernel
theorem dX6_leastBlockedWithinBounds_14 : decode cX6_leastBlockedWithinBounds 14 = .ok (.ireturn, 1) := by decide +kernel
theorem dX6_bound_0 : decode cX6_bound 0 = .ok (.iload_n 3, 1) := by decide +kernel
theorem dX6_bound_1 : decode cX6_bound 1 = .ok (.iload 4, 2) := by decide +kernel
theorem dX6_bound_3 : decode cX6_bound 3 = .ok (.if_icmp .lt 6, 3) := by decide +kernel
theorem dX6_bound_6 : decode cX6_bound 6 = .ok (.iload 4, 2) := by decide +kernel
theorem dX6_bound_8 : decode cX6_bound 8 = .ok (.ireturn, 1) := by decide +kernel
theorem dX6_bound_9 : decode cX6_bound 9 = .ok (.iload_n 1, 1) := by decide +kernel
theorem dX6_bound_10 : decode cX6_bound 10 = .ok (.aload_n 0, 1) := by decide +kernel
theorem dX6_bound_11 : decode cX6_bound 11 = .ok (.getfield 24, 3) := by decide +kernel
theorem dX6_bound_14 : decode cX6_bound 14 = .ok (.getfield 31, 3) := by decide +kernel
theorem dX6_bound_17 : decode cX6_bound 17 = .ok (.if_icmp .ge 9, 3) := by decide +kernel
theorem dX6_bound_20 : decode cX6_bound 20 = .ok (.iload_n 1, 1) := by decide +kernel
theorem dX6_bound_21 : decode cX6_bound 21 = .ok (.bipush 9, 2) := by decide +kernel
theorem dX6_bound_23 : decode cX6_bound 23 = .ok (.if_icmp .lt 5, 3) := by decide +kernel
theorem dX6_bound_26 : decode cX6_bound 26 = .ok (.iload_n 3, 1) := by decide +kernel
theorem dX6_bound_27 : decode cX6_bound 27 = .ok (.ireturn, 1) := by decide +kernel
theorem dX6_bound_28 : decode cX6_bound 28 = .ok (.aload_n 0, 1) := by decide +kernel
theorem dX6_bound_29 : decode cX6_bound 29 = .ok (.iload_n 2, 1) := by decide +kernel
theorem dX6_bound_30 : decode cX6_bound 30 = .ok (.iload_n 1, 1) := by decide +kernel
theorem dX6_bound_31 : decode cX6_bound 31 = .ok (.invokevirtual 129, 3) := by decide +kernel
theorem dX6_bound_34 : decode cX6_bound 34 = .ok (.istore 5, 2) := by decide +kernel
theorem dX6_bound_36 : decode cX6_bound 36 = .ok (.aload_n 0, 1) := by decide +kernel
theorem dX6_bound_37 : decode cX6_bound 37 = .ok (.iload_n 1, 1) := by decide +kernel
theorem dX6_bound_38 : decode cX6_bound 38 = .ok (.iconst 1, 1) := by decide +kernel
theorem dX6_bound_39 : decode cX6_bound 39 = .ok (.iadd, 1) := by decide +kernel
theorem dX6_bound_40 : decode cX6_bound 40 = .ok (.iload_n 2, 1) := by decide +kernel
theorem dX6_bound_41 : decode cX6_bound 41 = .ok (.iload_n 3, 1) := by decide +kernel
theorem dX6_bound_42 : decode cX6_bound 42 = .ok (.iload 5, 2) := by decide +kernel
theorem dX6_bound_44 : decode cX6_bound 44 = .ok (.iadd, 1) := by decide +kernel
theorem dX6_bound_45 : decode cX6_bound 45 = .ok (.iload 4, 2) := by decide +kernel
theorem dX6_bound_47 : decode cX6_bound 47 = .ok (.invokestatic 125, 3) := by decide +kernel
theorem dX6_bound_50 : decode cX6_bound 50 = .ok (.istore 6, 2) := by decide +kernel
theorem dX6_bound_52 : decode cX6_bound 52 = .ok (.iload_n 2, 1) := by decide +kernel
theorem dX6_bound_53 : decode cX6_bound 53 = .ok (.iconst 1, 1) := by decide +kernel
theorem dX6_bound_54 : decode cX6_bound 54 = .ok (.iload_n 1, 1) := by decide +kernel
theorem dX6_bound_55 : decode cX6_bound 55 = .ok (.ishl, 1) := by decide +kernel
theorem dX6_bound_56 : decode cX6_bound 56 = .ok (.ior, 1) := by decide +kernel
theorem dX6_bound_57 : decode cX6_bound 57 = .ok (.istore 7, 2) := by decide +kernel
theorem dX6_bound_59 : decode cX6_bound 59 = .ok (.aload_n 0, 1) := by decide +kernel
theorem dX6_bound_60 : decode cX6_bound 60 = .ok (.iload 7, 2) := by decide +kernel
theorem dX6_bound_62 : decode cX6_bound 62 = .ok (.iload_n 1, 1) := by decide +kernel
theorem dX6_bound_63 : decode cX6_bound 63 = .ok (.invokevirtual 129, 3) := by decide +kernel
theorem dX6_bound_66 : decode cX6_bound 66 = .ok (.istore 8, 2) := by decide +kernel
theorem dX6_bound_68 : decode cX6_bound 68 = .ok (.aload_n 0, 1) := by decide +kernel
theorem dX6_bound_69 : decode cX6_bound 69 = .ok (.iload_n 1, 1) := by decide +kernel
theorem dX6_bound_70 : decode cX6_bound 70 = .ok (.iconst 1, 1) := by decide +kernel
theorem dX6_bound_71 : decode cX6_bound 71 = .ok (.iadd, 1) := by decide +kernel
theorem dX6_bound_72 : decode cX6_bound 72 = .ok (.iload 7, 2) := by decide +kernel
theorem dX6_bound_74 : decode cX6_bound 74 = .ok (.iload_n 3, 1) := by decide +kernel
theorem dX6_bound_75 : decode cX6_bound 75 = .ok (.iload 8, 2) := by decide +kernel
theorem dX6_bound_77 : decode cX6_bound 77 = .ok (.iadd, 1) := by decide +kernel
theorem dX6_bound_78 : decode cX6_bound 78 = .ok (.iload 6, 2) := by decide +kernel
theorem dX6_bound_80 : decode cX6_bound 80 = .ok (.invokestatic 125, 3) := by decide +kernel
theorem dX6_bound_83 : decode cX6_bound 83 = .ok (.ireturn, 1) := by decide +kernel
theorem dX6_blockedToEarlier_0 : decode cX6_blockedToEarlier 0 = .ok (.iconst 0, 1) := by decide +kernel
theorem dX6_blockedToEarlier_1 : decode cX6_blockedToEarlier 1 = .ok (.istore_n 3, 1) := by decide +kernel
theorem dX6_blockedToEarlier_2 : decode cX6_blockedToEarlier 2 = .ok (.iconst 0, 1) := by decide +kernel
theorem dX6_blockedToEarlier_3 : decode cX6_blockedToEarlier 3 = .ok (.istore 4, 2) := by decide +kernel
theorem dX6_blockedToEarlier_5 : decode cX6_blockedToEarlier 5 = .ok (.iload 4, 2) := by decide +kernel
theorem dX6_blockedToEarlier_7 : decode cX6_blockedToEarlier 7 = .ok (.aload_n 0, 1) := by decide +kernel
theorem dX6_blockedToEarlier_8 : decode cX6_blockedToEarlier 8 = .ok (.getfield 24, 3) := by decide +kernel
theorem dX6_blockedToEarlier_11 : decode cX6_blockedToEarlier 11 = .ok (.getfield 37, 3) := by decide +kernel
theorem dX6_blockedToEarlier_14 : decode cX6_blockedToEarlier 14 = .ok (.if_icmp .ge 49, 3) := by decide +kernel
theorem dX6_blockedToEarlier_17 : decode cX6_blockedToEarlier 17 = .ok (.aload_n 0, 1) := by decide +kernel
theorem dX6_blockedToEarlier_18 : decode cX6_blockedToEarlier 18 = .ok (.getfield 24, 3) := by decide +kernel
theorem dX6_blockedToEarlier_21 : decode cX6_blockedToEarlier 21 = .ok (.iload 4, 2) := by decide +kernel
theorem dX6_blockedToEarlier_23 : decode cX6_blockedToEarlier 23 = .ok (.iload_n 2, 1) := by decide +kernel
theorem dX6_blockedToEarlier_24 : decode cX6_blockedToEarlier 24 = .ok (.invokevirtual 78, 3) := by decide +kernel
theorem dX6_blockedToEarlier_27 : decode cX6_blockedToEarlier 27 = .ok (.istore 5, 2) := by decide +kernel
theorem dX6_blockedToEarlier_29 : decode cX6_blockedToEarlier 29 = .ok (.iload 5, 2) := by decide +kernel
theorem dX6_blockedToEarlier_31 : decode cX6_blockedToEarlier 31 = .ok (.iconst (-1), 1) := by decide +kernel
theorem dX6_blockedToEarlier_32 : decode cX6_blockedToEarlier 32 = .ok (.if_icmp .eq 25, 3) := by decide +kernel
theorem dX6_blockedToEarlier_35 : decode cX6_blockedToEarlier 35 = .ok (.iload 5, 2) := by decide +kernel
theorem dX6_blockedToEarlier_37 : decode cX6_blockedToEarlier 37 = .ok (.iload_n 2, 1) := by decide +kernel
theorem dX6_blockedToEarlier_38 : decode cX6_blockedToEarlier 38 = .ok (.if_icmp .ge 19, 3) := by decide +kernel
theorem dX6_blockedToEarlier_41 : decode cX6_blockedToEarlier 41 = .ok (.aload_n 0, 1) := by decide +kernel
theorem dX6_blockedToEarlier_42 : decode cX6_blockedToEarlier 42 = .ok (.getfield 24, 3) := by decide +kernel
theorem dX6_blockedToEarlier_45 : decode cX6_blockedToEarlier 45 = .ok (.iload_n 1, 1) := by decide +kernel
theorem dX6_blockedToEarlier_46 : decode cX6_blockedToEarlier 46 = .ok (.iload 4, 2) := by decide +kernel
theorem dX6_blockedToEarlier_48 : decode cX6_blockedToEarlier 48 = .ok (.invokevirtual 132, 3) := by decide +kernel
theorem dX6_blockedToEarlier_51 : decode cX6_blockedToEarlier 51 = .ok (.ifCond .eq 6, 3) := by decide +kernel
theorem dX6_blockedToEarlier_54 : decode cX6_blockedToEarlier 54 = .ok (.iinc 3 1, 3) := by decide +kernel
theorem dX6_blockedToEarlier_57 : decode cX6_blockedToEarlier 57 = .ok (.iinc 4 1, 3) := by decide +kernel
theorem dX6_blockedToEarlier_60 : decode cX6_blockedToEarlier 60 = .ok (.goto (-55), 3) := by decide +kernel
theorem dX6_blockedToEarlier_63 : decode cX6_blockedToEarlier 63 = .ok (.iload_n 3, 1) := by decide +kernel
theorem dX6_blockedToEarlier_64 : decode cX6_blockedToEarlier 64 = .ok (.ireturn, 1) := by decide +kernel

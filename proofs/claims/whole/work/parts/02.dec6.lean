theorem dX9_dig_50 : decode cX9_dig 50 = .ok (.iconst 3, 1) := by decide +kernel
theorem dX9_dig_51 : decode cX9_dig 51 = .ok (.aload_n 0, 1) := by decide +kernel
theorem dX9_dig_52 : decode cX9_dig 52 = .ok (.iload_n 1, 1) := by decide +kernel
theorem dX9_dig_53 : decode cX9_dig 53 = .ok (.iload_n 2, 1) := by decide +kernel
theorem dX9_dig_54 : decode cX9_dig 54 = .ok (.invokevirtual 121, 3) := by decide +kernel
theorem dX9_dig_57 : decode cX9_dig 57 = .ok (.invokevirtual 77, 3) := by decide +kernel
theorem dX9_dig_60 : decode cX9_dig 60 = .ok (.ireturn, 1) := by decide +kernel
theorem dX9_dig_61 : decode cX9_dig 61 = .ok (.aload_n 0, 1) := by decide +kernel
theorem dX9_dig_62 : decode cX9_dig 62 = .ok (.getfield 7, 3) := by decide +kernel
theorem dX9_dig_65 : decode cX9_dig 65 = .ok (.iconst 1, 1) := by decide +kernel
theorem dX9_dig_66 : decode cX9_dig 66 = .ok (.iaload, 1) := by decide +kernel
theorem dX9_dig_67 : decode cX9_dig 67 = .ok (.bipush 16, 2) := by decide +kernel
theorem dX9_dig_69 : decode cX9_dig 69 = .ok (.if_icmp .ne 12, 3) := by decide +kernel
theorem dX9_dig_72 : decode cX9_dig 72 = .ok (.aload_n 0, 1) := by decide +kernel
theorem dX9_dig_73 : decode cX9_dig 73 = .ok (.iconst 3, 1) := by decide +kernel
theorem dX9_dig_74 : decode cX9_dig 74 = .ok (.iconst 1, 1) := by decide +kernel
theorem dX9_dig_75 : decode cX9_dig 75 = .ok (.bipush 16, 2) := by decide +kernel
theorem dX9_dig_77 : decode cX9_dig 77 = .ok (.invokevirtual 77, 3) := by decide +kernel
theorem dX9_dig_80 : decode cX9_dig 80 = .ok (.ireturn, 1) := by decide +kernel
theorem dX9_dig_81 : decode cX9_dig 81 = .ok (.aload_n 0, 1) := by decide +kernel
theorem dX9_dig_82 : decode cX9_dig 82 = .ok (.aload_n 0, 1) := by decide +kernel
theorem dX9_dig_83 : decode cX9_dig 83 = .ok (.getfield 7, 3) := by decide +kernel
theorem dX9_dig_86 : decode cX9_dig 86 = .ok (.invokevirtual 85, 3) := by decide +kernel
theorem dX9_dig_89 : decode cX9_dig 89 = .ok (.aload_n 0, 1) := by decide +kernel
theorem dX9_dig_90 : decode cX9_dig 90 = .ok (.getfield 7, 3) := by decide +kernel
theorem dX9_dig_93 : decode cX9_dig 93 = .ok (.bipush 40, 2) := by decide +kernel
theorem dX9_dig_95 : decode cX9_dig 95 = .ok (.iconst 2, 1) := by decide +kernel
theorem dX9_dig_96 : decode cX9_dig 96 = .ok (.aload_n 0, 1) := by decide +kernel
theorem dX9_dig_97 : decode cX9_dig 97 = .ok (.getfield 7, 3) := by decide +kernel
theorem dX9_dig_100 : decode cX9_dig 100 = .ok (.iconst 1, 1) := by decide +kernel
theorem dX9_dig_101 : decode cX9_dig 101 = .ok (.iaload, 1) := by decide +kernel
theorem dX9_dig_102 : decode cX9_dig 102 = .ok (.imul, 1) := by decide +kernel
theorem dX9_dig_103 : decode cX9_dig 103 = .ok (.iadd, 1) := by decide +kernel
theorem dX9_dig_104 : decode cX9_dig 104 = .ok (.iconst 0, 1) := by decide +kernel
theorem dX9_dig_105 : decode cX9_dig 105 = .ok (.iadd, 1) := by decide +kernel
theorem dX9_dig_106 : decode cX9_dig 106 = .ok (.iload_n 1, 1) := by decide +kernel
theorem dX9_dig_107 : decode cX9_dig 107 = .ok (.iastore, 1) := by decide +kernel
theorem dX9_dig_108 : decode cX9_dig 108 = .ok (.aload_n 0, 1) := by decide +kernel
theorem dX9_dig_109 : decode cX9_dig 109 = .ok (.getfield 7, 3) := by decide +kernel
theorem dX9_dig_112 : decode cX9_dig 112 = .ok (.bipush 40, 2) := by decide +kernel
theorem dX9_dig_114 : decode cX9_dig 114 = .ok (.iconst 2, 1) := by decide +kernel
theorem dX9_dig_115 : decode cX9_dig 115 = .ok (.aload_n 0, 1) := by decide +kernel
theorem dX9_dig_116 : decode cX9_dig 116 = .ok (.getfield 7, 3) := by decide +kernel
theorem dX9_dig_119 : decode cX9_dig 119 = .ok (.iconst 1, 1) := by decide +kernel
theorem dX9_dig_120 : decode cX9_dig 120 = .ok (.iaload, 1) := by decide +kernel
theorem dX9_dig_121 : decode cX9_dig 121 = .ok (.imul, 1) := by decide +kernel
theorem dX9_dig_122 : decode cX9_dig 122 = .ok (.iadd, 1) := by decide +kernel
theorem dX9_dig_123 : decode cX9_dig 123 = .ok (.iconst 1, 1) := by decide +kernel
theorem dX9_dig_124 : decode cX9_dig 124 = .ok (.iadd, 1) := by decide +kernel
theorem dX9_dig_125 : decode cX9_dig 125 = .ok (.iload_n 2, 1) := by decide +kernel
theorem dX9_dig_126 : decode cX9_dig 126 = .ok (.iastore, 1) := by decide +kernel
theorem dX9_dig_127 : decode cX9_dig 127 = .ok (.aload_n 0, 1) := by decide +kernel
theorem dX9_dig_128 : decode cX9_dig 128 = .ok (.getfield 7, 3) := by decide +kernel
theorem dX9_dig_131 : decode cX9_dig 131 = .ok (.iconst 1, 1) := by decide +kernel
theorem dX9_dig_132 : decode cX9_dig 132 = .ok (.dup2, 1) := by decide +kernel
theorem dX9_dig_133 : decode cX9_dig 133 = .ok (.iaload, 1) := by decide +kernel
theorem dX9_dig_134 : decode cX9_dig 134 = .ok (.iconst 1, 1) := by decide +kernel
theorem dX9_dig_135 : decode cX9_dig 135 = .ok (.iadd, 1) := by decide +kernel
theorem dX9_dig_136 : decode cX9_dig 136 = .ok (.iastore, 1) := by decide +kernel
theorem dX9_dig_137 : decode cX9_dig 137 = .ok (.aload_n 0, 1) := by decide +kernel
theorem dX9_dig_138 : decode cX9_dig 138 = .ok (.getfield 7, 3) := by decide +kernel
theorem dX9_dig_141 : decode cX9_dig 141 = .ok (.iconst 1, 1) := by decide +kernel
theorem dX9_dig_142 : decode cX9_dig 142 = .ok (.iaload, 1) := by decide +kernel
theorem dX9_dig_143 : decode cX9_dig 143 = .ok (.iconst 1, 1) := by decide +kernel
theorem dX9_dig_144 : decode cX9_dig 144 = .ok (.isub, 1) := by decide +kernel
theorem dX9_dig_145 : decode cX9_dig 145 = .ok (.ireturn, 1) := by decide +kernel
theorem dX9_fill_0 : decode cX9_fill 0 = .ok (.aload_n 0, 1) := by decide +kernel
theorem dX9_fill_1 : decode cX9_fill 1 = .ok (.aload_n 0, 1) := by decide +kernel
theorem dX9_fill_2 : decode cX9_fill 2 = .ok (.iload_n 1, 1) := by decide +kernel
theorem dX9_fill_3 : decode cX9_fill 3 = .ok (.invokevirtual 124, 3) := by decide +kernel
theorem dX9_fill_6 : decode cX9_fill 6 = .ok (.ifCond .eq 7, 3) := by decide +kernel
theorem dX9_fill_9 : decode cX9_fill 9 = .ok (.iconst 0, 1) := by decide +kernel
theorem dX9_fill_10 : decode cX9_fill 10 = .ok (.goto 4, 3) := by decide +kernel
theorem dX9_fill_13 : decode cX9_fill 13 = .ok (.iconst 1, 1) := by decide +kernel
theorem dX9_fill_14 : decode cX9_fill 14 = .ok (.invokevirtual 70, 3) := by decide +kernel
theorem dX9_fill_17 : decode cX9_fill 17 = .ok (.ifCond .eq 5, 3) := by decide +kernel
theorem dX9_fill_20 : decode cX9_fill 20 = .ok (.iconst 0, 1) := by decide +kernel
theorem dX9_fill_21 : decode cX9_fill 21 = .ok (.ireturn, 1) := by decide +kernel
theorem dX9_fill_22 : decode cX9_fill 22 = .ok (.aload_n 0, 1) := by decide +kernel
theorem dX9_fill_23 : decode cX9_fill 23 = .ok (.aload_n 0, 1) := by decide +kernel
theorem dX9_fill_24 : decode cX9_fill 24 = .ok (.getfield 7, 3) := by decide +kernel
theorem dX9_fill_27 : decode cX9_fill 27 = .ok (.invokevirtual 85, 3) := by decide +kernel
theorem dX9_fill_30 : decode cX9_fill 30 = .ok (.aload_n 0, 1) := by decide +kernel
theorem dX9_fill_31 : decode cX9_fill 31 = .ok (.getfield 7, 3) := by decide +kernel
theorem dX9_fill_34 : decode cX9_fill 34 = .ok (.iconst 1, 1) := by decide +kernel
theorem dX9_fill_35 : decode cX9_fill 35 = .ok (.dup2, 1) := by decide +kernel
theorem dX9_fill_36 : decode cX9_fill 36 = .ok (.iaload, 1) := by decide +kernel
theorem dX9_fill_37 : decode cX9_fill 37 = .ok (.iconst 1, 1) := by decide +kernel
theorem dX9_fill_38 : decode cX9_fill 38 = .ok (.isub, 1) := by decide +kernel
theorem dX9_fill_39 : decode cX9_fill 39 = .ok (.iastore, 1) := by decide +kernel
theorem dX9_fill_40 : decode cX9_fill 40 = .ok (.bipush 40, 2) := by decide +kernel
theorem dX9_fill_42 : decode cX9_fill 42 = .ok (.iconst 2, 1) := by decide +kernel
theorem dX9_fill_43 : decode cX9_fill 43 = .ok (.iload_n 1, 1) := by decide +kernel
theorem dX9_fill_44 : decode cX9_fill 44 = .ok (.imul, 1) := by decide +kernel
theorem dX9_fill_45 : decode cX9_fill 45 = .ok (.iadd, 1) := by decide +kernel
theorem dX9_fill_46 : decode cX9_fill 46 = .ok (.istore_n 2, 1) := by decide +kernel
theorem dX9_fill_47 : decode cX9_fill 47 = .ok (.iload_n 2, 1) := by decide +kernel
theorem dX9_fill_48 : decode cX9_fill 48 = .ok (.bipush 40, 2) := by decide +kernel
theorem dX9_fill_50 : decode cX9_fill 50 = .ok (.iconst 2, 1) := by decide +kernel
theorem dX9_fill_51 : decode cX9_fill 51 = .ok (.aload_n 0, 1) := by decide +kernel
theorem dX9_fill_52 : decode cX9_fill 52 = .ok (.getfield 7, 3) := by decide +kernel
theorem dX9_fill_55 : decode cX9_fill 55 = .ok (.iconst 1, 1) := by decide +kernel
theorem dX9_fill_56 : decode cX9_fill 56 = .ok (.iaload, 1) := by decide +kernel
theorem dX9_fill_57 : decode cX9_fill 57 = .ok (.imul, 1) := by decide +kernel
theorem dX9_fill_58 : decode cX9_fill 58 = .ok (.iadd, 1) := by decide +kernel
theorem dX9_fill_59 : decode cX9_fill 59 = .ok (.if_icmp .ge 23, 3) := by decide +kernel
theorem dX9_fill_62 : decode cX9_fill 62 = .ok (.aload_n 0, 1) := by decide +kernel
theorem dX9_fill_63 : decode cX9_fill 63 = .ok (.getfield 7, 3) := by decide +kernel
theorem dX9_fill_66 : decode cX9_fill 66 = .ok (.iload_n 2, 1) := by decide +kernel
theorem dX9_fill_67 : decode cX9_fill 67 = .ok (.aload_n 0, 1) := by decide +kernel
theorem dX9_fill_68 : decode cX9_fill 68 = .ok (.getfield 7, 3) := by decide +kernel
theorem dX9_fill_71 : decode cX9_fill 71 = .ok (.iload_n 2, 1) := by decide +kernel
theorem dX9_fill_72 : decode cX9_fill 72 = .ok (.iconst 2, 1) := by decide +kernel
theorem dX9_fill_73 : decode cX9_fill 73 = .ok (.iadd, 1) := by decide +kernel
theorem dX9_fill_74 : decode cX9_fill 74 = .ok (.iaload, 1) := by decide +kernel
theorem dX9_fill_75 : decode cX9_fill 75 = .ok (.iastore, 1) := by decide +kernel
theorem dX9_fill_76 : decode cX9_fill 76 = .ok (.iinc 2 1, 3) := by decide +kernel
theorem dX9_fill_79 : decode cX9_fill 79 = .ok (.goto (-32), 3) := by decide +kernel
theorem dX9_fill_82 : decode cX9_fill 82 = .ok (.aload_n 0, 1) := by decide +kernel
theorem dX9_fill_83 : decode cX9_fill 83 = .ok (.getfield 7, 3) := by decide +kernel
theorem dX9_fill_86 : decode cX9_fill 86 = .ok (.bipush 40, 2) := by decide +kernel
theorem dX9_fill_88 : decode cX9_fill 88 = .ok (.iconst 2, 1) := by decide +kernel
theorem dX9_fill_89 : decode cX9_fill 89 = .ok (.aload_n 0, 1) := by decide +kernel
theorem dX9_fill_90 : decode cX9_fill 90 = .ok (.getfield 7, 3) := by decide +kernel
theorem dX9_fill_93 : decode cX9_fill 93 = .ok (.iconst 1, 1) := by decide +kernel
theorem dX9_fill_94 : decode cX9_fill 94 = .ok (.iaload, 1) := by decide +kernel
theorem dX9_fill_95 : decode cX9_fill 95 = .ok (.imul, 1) := by decide +kernel
theorem dX9_fill_96 : decode cX9_fill 96 = .ok (.iadd, 1) := by decide +kernel
theorem dX9_fill_97 : decode cX9_fill 97 = .ok (.iconst 0, 1) := by decide +kernel
theorem dX9_fill_98 : decode cX9_fill 98 = .ok (.iastore, 1) := by decide +kernel
theorem dX9_fill_99 : decode cX9_fill 99 = .ok (.aload_n 0, 1) := by decide +kernel
theorem dX9_fill_100 : decode cX9_fill 100 = .ok (.getfield 7, 3) := by decide +kernel
theorem dX9_fill_103 : decode cX9_fill 103 = .ok (.bipush 40, 2) := by decide +kernel
theorem dX9_fill_105 : decode cX9_fill 105 = .ok (.iconst 2, 1) := by decide +kernel
theorem dX9_fill_106 : decode cX9_fill 106 = .ok (.aload_n 0, 1) := by decide +kernel
theorem dX9_fill_107 : decode cX9_fill 107 = .ok (.getfield 7, 3) := by decide +kernel
theorem dX9_fill_110 : decode cX9_fill 110 = .ok (.iconst 1, 1) := by decide +kernel
theorem dX9_fill_111 : decode cX9_fill 111 = .ok (.iaload, 1) := by decide +kernel
theorem dX9_fill_112 : decode cX9_fill 112 = .ok (.imul, 1) := by decide +kernel
theorem dX9_fill_113 : decode cX9_fill 113 = .ok (.iadd, 1) := by decide +kernel
theorem dX9_fill_114 : decode cX9_fill 114 = .ok (.iconst 1, 1) := by decide +kernel
theorem dX9_fill_115 : decode cX9_fill 115 = .ok (.iadd, 1) := by decide +kernel
theorem dX9_fill_116 : decode cX9_fill 116 = .ok (.iconst 0, 1) := by decide +kernel
theorem dX9_fill_117 : decode cX9_fill 117 = .ok (.iastore, 1) := by decide +kernel
theorem dX9_fill_118 : decode cX9_fill 118 = .ok (.aload_n 0, 1) := by decide +kernel
theorem dX9_fill_119 : decode cX9_fill 119 = .ok (.getfield 7, 3) := by decide +kernel
theorem dX9_fill_122 : decode cX9_fill 122 = .ok (.iconst 1, 1) := by decide +kernel
theorem dX9_fill_123 : decode cX9_fill 123 = .ok (.iaload, 1) := by decide +kernel
theorem dX9_fill_124 : decode cX9_fill 124 = .ok (.ireturn, 1) := by decide +kernel
theorem dX9_best_0 : decode cX9_best 0 = .ok (.iconst (-1), 1) := by decide +kernel
theorem dX9_best_1 : decode cX9_best 1 = .ok (.istore_n 1, 1) := by decide +kernel
theorem dX9_best_2 : decode cX9_best 2 = .ok (.iconst 0, 1) := by decide +kernel
theorem dX9_best_3 : decode cX9_best 3 = .ok (.istore_n 2, 1) := by decide +kernel
theorem dX9_best_4 : decode cX9_best 4 = .ok (.iload_n 2, 1) := by decide +kernel
theorem dX9_best_5 : decode cX9_best 5 = .ok (.iconst 1, 1) := by decide +kernel
theorem dX9_best_6 : decode cX9_best 6 = .ok (.aload_n 0, 1) := by decide +kernel
theorem dX9_best_7 : decode cX9_best 7 = .ok (.getfield 7, 3) := by decide +kernel
theorem dX9_best_10 : decode cX9_best 10 = .ok (.iconst 0, 1) := by decide +kernel
theorem dX9_best_11 : decode cX9_best 11 = .ok (.iaload, 1) := by decide +kernel
theorem dX9_best_12 : decode cX9_best 12 = .ok (.ishl, 1) := by decide +kernel
theorem dX9_best_13 : decode cX9_best 13 = .ok (.if_icmp .ge 61, 3) := by decide +kernel
theorem dX9_best_16 : decode cX9_best 16 = .ok (.aload_n 0, 1) := by decide +kernel
theorem dX9_best_17 : decode cX9_best 17 = .ok (.iload_n 2, 1) := by decide +kernel
theorem dX9_best_18 : decode cX9_best 18 = .ok (.invokevirtual 100, 3) := by decide +kernel
theorem dX9_best_21 : decode cX9_best 21 = .ok (.ifCond .le 6, 3) := by decide +kernel
theorem dX9_best_24 : decode cX9_best 24 = .ok (.goto 44, 3) := by decide +kernel
theorem dX9_best_27 : decode cX9_best 27 = .ok (.iload_n 2, 1) := by decide +kernel
theorem dX9_best_28 : decode cX9_best 28 = .ok (.iload_n 1, 1) := by decide +kernel
theorem dX9_best_29 : decode cX9_best 29 = .ok (.ixor, 1) := by decide +kernel
theorem dX9_best_30 : decode cX9_best 30 = .ok (.istore_n 3, 1) := by decide +kernel
theorem dX9_best_31 : decode cX9_best 31 = .ok (.iload_n 1, 1) := by decide +kernel
theorem dX9_best_32 : decode cX9_best 32 = .ok (.ifCond .lt 34, 3) := by decide +kernel
theorem dX9_best_35 : decode cX9_best 35 = .ok (.iload_n 2, 1) := by decide +kernel
theorem dX9_best_36 : decode cX9_best 36 = .ok (.invokestatic 127, 3) := by decide +kernel
theorem dX9_best_39 : decode cX9_best 39 = .ok (.iload_n 1, 1) := by decide +kernel
theorem dX9_best_40 : decode cX9_best 40 = .ok (.invokestatic 127, 3) := by decide +kernel
theorem dX9_best_43 : decode cX9_best 43 = .ok (.if_icmp .lt 23, 3) := by decide +kernel
theorem dX9_best_46 : decode cX9_best 46 = .ok (.iload_n 2, 1) := by decide +kernel
theorem dX9_best_47 : decode cX9_best 47 = .ok (.invokestatic 127, 3) := by decide +kernel
theorem dX9_best_50 : decode cX9_best 50 = .ok (.iload_n 1, 1) := by decide +kernel
theorem dX9_best_51 : decode cX9_best 51 = .ok (.invokestatic 127, 3) := by decide +kernel
theorem dX9_best_54 : decode cX9_best 54 = .ok (.if_icmp .ne 14, 3) := by decide +kernel
theorem dX9_best_57 : decode cX9_best 57 = .ok (.iload_n 2, 1) := by decide +kernel
theorem dX9_best_58 : decode cX9_best 58 = .ok (.iload_n 3, 1) := by decide +kernel
theorem dX9_best_59 : decode cX9_best 59 = .ok (.iand, 1) := by decide +kernel
theorem dX9_best_60 : decode cX9_best 60 = .ok (.iload_n 3, 1) := by decide +kernel
theorem dX9_best_61 : decode cX9_best 61 = .ok (.ineg, 1) := by decide +kernel
theorem dX9_best_62 : decode cX9_best 62 = .ok (.iand, 1) := by decide +kernel
theorem dX9_best_63 : decode cX9_best 63 = .ok (.ifCond .eq 5, 3) := by decide +kernel
theorem dX9_best_66 : decode cX9_best 66 = .ok (.iload_n 2, 1) := by decide +kernel
theorem dX9_best_67 : decode cX9_best 67 = .ok (.istore_n 1, 1) := by decide +kernel
theorem dX9_best_68 : decode cX9_best 68 = .ok (.iinc 2 1, 3) := by decide +kernel
theorem dX9_best_71 : decode cX9_best 71 = .ok (.goto (-67), 3) := by decide +kernel
theorem dX9_best_74 : decode cX9_best 74 = .ok (.iload_n 1, 1) := by decide +kernel
theorem dX9_best_75 : decode cX9_best 75 = .ok (.ireturn, 1) := by decide +kernel
theorem dX9_settle_0 : decode cX9_settle 0 = .ok (.aload_n 0, 1) := by decide +kernel
theorem dX9_settle_1 : decode cX9_settle 1 = .ok (.iconst 0, 1) := by decide +kernel
theorem dX9_settle_2 : decode cX9_settle 2 = .ok (.invokevirtual 100, 3) := by decide +kernel
theorem dX9_settle_5 : decode cX9_settle 5 = .ok (.istore_n 1, 1) := by decide +kernel
theorem dX9_settle_6 : decode cX9_settle 6 = .ok (.iload_n 1, 1) := by decide +kernel
theorem dX9_settle_7 : decode cX9_settle 7 = .ok (.ifCond .ne 16, 3) := by decide +kernel
theorem dX9_settle_10 : decode cX9_settle 10 = .ok (.aload_n 0, 1) := by decide +kernel
theorem dX9_settle_11 : decode cX9_settle 11 = .ok (.iconst 1, 1) := by decide +kernel
theorem dX9_settle_12 : decode cX9_settle 12 = .ok (.iconst 5, 1) := by decide +kernel
theorem dX9_settle_13 : decode cX9_settle 13 = .ok (.aload_n 0, 1) := by decide +kernel
theorem dX9_settle_14 : decode cX9_settle 14 = .ok (.getfield 7, 3) := by decide +kernel
theorem dX9_settle_17 : decode cX9_settle 17 = .ok (.iconst 1, 1) := by decide +kernel
theorem dX9_settle_18 : decode cX9_settle 18 = .ok (.iaload, 1) := by decide +kernel
theorem dX9_settle_19 : decode cX9_settle 19 = .ok (.invokevirtual 77, 3) := by decide +kernel
theorem dX9_settle_22 : decode cX9_settle 22 = .ok (.ireturn, 1) := by decide +kernel
theorem dX9_settle_23 : decode cX9_settle 23 = .ok (.aload_n 0, 1) := by decide +kernel
theorem dX9_settle_24 : decode cX9_settle 24 = .ok (.invokevirtual 130, 3) := by decide +kernel
theorem dX9_settle_27 : decode cX9_settle 27 = .ok (.istore_n 2, 1) := by decide +kernel
theorem dX9_settle_28 : decode cX9_settle 28 = .ok (.iload_n 2, 1) := by decide +kernel
theorem dX9_settle_29 : decode cX9_settle 29 = .ok (.ifCond .ge 11, 3) := by decide +kernel
theorem dX9_settle_32 : decode cX9_settle 32 = .ok (.aload_n 0, 1) := by decide +kernel
theorem dX9_settle_33 : decode cX9_settle 33 = .ok (.iconst 1, 1) := by decide +kernel
theorem dX9_settle_34 : decode cX9_settle 34 = .ok (.iconst 4, 1) := by decide +kernel
theorem dX9_settle_35 : decode cX9_settle 35 = .ok (.iload_n 1, 1) := by decide +kernel
theorem dX9_settle_36 : decode cX9_settle 36 = .ok (.invokevirtual 77, 3) := by decide +kernel
theorem dX9_settle_39 : decode cX9_settle 39 = .ok (.ireturn, 1) := by decide +kernel
theorem dX9_settle_40 : decode cX9_settle 40 = .ok (.aload_n 0, 1) := by decide +kernel
theorem dX9_settle_41 : decode cX9_settle 41 = .ok (.aload_n 0, 1) := by decide +kernel
theorem dX9_settle_42 : decode cX9_settle 42 = .ok (.getfield 7, 3) := by decide +kernel
theorem dX9_settle_45 : decode cX9_settle 45 = .ok (.invokevirtual 85, 3) := by decide +kernel
theorem dX9_settle_48 : decode cX9_settle 48 = .ok (.iconst 0, 1) := by decide +kernel
theorem dX9_settle_49 : decode cX9_settle 49 = .ok (.istore_n 3, 1) := by decide +kernel
theorem dX9_settle_50 : decode cX9_settle 50 = .ok (.iload_n 3, 1) := by decide +kernel
theorem dX9_settle_51 : decode cX9_settle 51 = .ok (.aload_n 0, 1) := by decide +kernel
theorem dX9_settle_52 : decode cX9_settle 52 = .ok (.getfield 7, 3) := by decide +kernel
theorem dX9_settle_55 : decode cX9_settle 55 = .ok (.iconst 0, 1) := by decide +kernel
theorem dX9_settle_56 : decode cX9_settle 56 = .ok (.iaload, 1) := by decide +kernel
theorem dX9_settle_57 : decode cX9_settle 57 = .ok (.if_icmp .ge 23, 3) := by decide +kernel
theorem dX9_settle_60 : decode cX9_settle 60 = .ok (.iload_n 2, 1) := by decide +kernel
theorem dX9_settle_61 : decode cX9_settle 61 = .ok (.iload_n 3, 1) := by decide +kernel
theorem dX9_settle_62 : decode cX9_settle 62 = .ok (.ishr, 1) := by decide +kernel
theorem dX9_settle_63 : decode cX9_settle 63 = .ok (.iconst 1, 1) := by decide +kernel
theorem dX9_settle_64 : decode cX9_settle 64 = .ok (.iand, 1) := by decide +kernel
theorem dX9_settle_65 : decode cX9_settle 65 = .ok (.iconst 1, 1) := by decide +kernel
theorem dX9_settle_66 : decode cX9_settle 66 = .ok (.if_icmp .ne 8, 3) := by decide +kernel
theorem dX9_settle_69 : decode cX9_settle 69 = .ok (.aload_n 0, 1) := by decide +kernel
theorem dX9_settle_70 : decode cX9_settle 70 = .ok (.iload_n 3, 1) := by decide +kernel
theorem dX9_settle_71 : decode cX9_settle 71 = .ok (.invokevirtual 96, 3) := by decide +kernel
theorem dX9_settle_74 : decode cX9_settle 74 = .ok (.iinc 3 1, 3) := by decide +kernel
theorem dX9_settle_77 : decode cX9_settle 77 = .ok (.goto (-27), 3) := by decide +kernel
theorem dX9_settle_80 : decode cX9_settle 80 = .ok (.iload_n 2, 1) := by decide +kernel
theorem dX9_settle_81 : decode cX9_settle 81 = .ok (.invokestatic 127, 3) := by decide +kernel
theorem dX9_settle_84 : decode cX9_settle 84 = .ok (.ireturn, 1) := by decide +kernel
theorem dX9_tunnelCount_0 : decode cX9_tunnelCount 0 = .ok (.aload_n 0, 1) := by decide +kernel
theorem dX9_tunnelCount_1 : decode cX9_tunnelCount 1 = .ok (.iconst 0, 1) := by decide +kernel
theorem dX9_tunnelCount_2 : decode cX9_tunnelCount 2 = .ok (.putfield 36, 3) := by decide +kernel
theorem dX9_tunnelCount_5 : decode cX9_tunnelCount 5 = .ok (.aload_n 0, 1) := by decide +kernel
theorem dX9_tunnelCount_6 : decode cX9_tunnelCount 6 = .ok (.getfield 7, 3) := by decide +kernel
theorem dX9_tunnelCount_9 : decode cX9_tunnelCount 9 = .ok (.iconst 1, 1) := by decide +kernel
theorem dX9_tunnelCount_10 : decode cX9_tunnelCount 10 = .ok (.iaload, 1) := by decide +kernel
theorem dX9_tunnelCount_11 : decode cX9_tunnelCount 11 = .ok (.ireturn, 1) := by decide +kernel
theorem dX9_isOpen_0 : decode cX9_isOpen 0 = .ok (.aload_n 0, 1) := by decide +kernel
theorem dX9_isOpen_1 : decode cX9_isOpen 1 = .ok (.aload_n 0, 1) := by decide +kernel
theorem dX9_isOpen_2 : decode cX9_isOpen 2 = .ok (.iload_n 1, 1) := by decide +kernel
theorem dX9_isOpen_3 : decode cX9_isOpen 3 = .ok (.invokevirtual 124, 3) := by decide +kernel
theorem dX9_isOpen_6 : decode cX9_isOpen 6 = .ok (.ifCond .eq 7, 3) := by decide +kernel
theorem dX9_isOpen_9 : decode cX9_isOpen 9 = .ok (.iconst 0, 1) := by decide +kernel
theorem dX9_isOpen_10 : decode cX9_isOpen 10 = .ok (.goto 4, 3) := by decide +kernel
theorem dX9_isOpen_13 : decode cX9_isOpen 13 = .ok (.iconst 1, 1) := by decide +kernel
theorem dX9_isOpen_14 : decode cX9_isOpen 14 = .ok (.invokevirtual 70, 3) := by decide +kernel
theorem dX9_isOpen_17 : decode cX9_isOpen 17 = .ok (.ifCond .ne 16, 3) := by decide +kernel
theorem dX9_isOpen_20 : decode cX9_isOpen 20 = .ok (.aload_n 0, 1) := by decide +kernel
theorem dX9_isOpen_21 : decode cX9_isOpen 21 = .ok (.iload_n 1, 1) := by decide +kernel
theorem dX9_isOpen_22 : decode cX9_isOpen 22 = .ok (.iconst 0, 1) := by decide +kernel
theorem dX9_isOpen_23 : decode cX9_isOpen 23 = .ok (.invokevirtual 118, 3) := by decide +kernel
theorem dX9_isOpen_26 : decode cX9_isOpen 26 = .ok (.ifCond .eq 7, 3) := by decide +kernel
theorem dX9_isOpen_29 : decode cX9_isOpen 29 = .ok (.iconst 1, 1) := by decide +kernel
theorem dX9_isOpen_30 : decode cX9_isOpen 30 = .ok (.goto 4, 3) := by decide +kernel
theorem dX9_isOpen_33 : decode cX9_isOpen 33 = .ok (.iconst 0, 1) := by decide +kernel
theorem dX9_isOpen_34 : decode cX9_isOpen 34 = .ok (.ireturn, 1) := by decide +kernel
theorem dX9_blocked_0 : decode cX9_blocked 0 = .ok (.aload_n 0, 1) := by decide +kernel
theorem dX9_blocked_1 : decode cX9_blocked 1 = .ok (.iconst 0, 1) := by decide +kernel
theorem dX9_blocked_2 : decode cX9_blocked 2 = .ok (.putfield 36, 3) := by decide +kernel
theorem dX9_blocked_5 : decode cX9_blocked 5 = .ok (.aload_n 0, 1) := by decide +kernel
theorem dX9_blocked_6 : decode cX9_blocked 6 = .ok (.iconst 0, 1) := by decide +kernel
theorem dX9_blocked_7 : decode cX9_blocked 7 = .ok (.invokevirtual 100, 3) := by decide +kernel
theorem dX9_blocked_10 : decode cX9_blocked 10 = .ok (.ireturn, 1) := by decide +kernel
theorem dX9_part_0 : decode cX9_part 0 = .ok (.iconst 1, 1) := by decide +kernel
theorem dX9_part_1 : decode cX9_part 1 = .ok (.iload_n 1, 1) := by decide +kernel
theorem dX9_part_2 : decode cX9_part 2 = .ok (.ishl, 1) := by decide +kernel
theorem dX9_part_3 : decode cX9_part 3 = .ok (.istore_n 3, 1) := by decide +kernel
theorem dX9_part_4 : decode cX9_part 4 = .ok (.iconst 0, 1) := by decide +kernel
theorem dX9_part_5 : decode cX9_part 5 = .ok (.istore 4, 2) := by decide +kernel
theorem dX9_part_7 : decode cX9_part 7 = .ok (.iload_n 3, 1) := by decide +kernel
theorem dX9_part_8 : decode cX9_part 8 = .ok (.iload 4, 2) := by decide +kernel
theorem dX9_part_10 : decode cX9_part 10 = .ok (.if_icmp .eq 69, 3) := by decide +kernel
theorem dX9_part_13 : decode cX9_part 13 = .ok (.iload_n 3, 1) := by decide +kernel
theorem dX9_part_14 : decode cX9_part 14 = .ok (.istore 4, 2) := by decide +kernel
theorem dX9_part_16 : decode cX9_part 16 = .ok (.iconst 0, 1) := by decide +kernel
theorem dX9_part_17 : decode cX9_part 17 = .ok (.istore 5, 2) := by decide +kernel
theorem dX9_part_19 : decode cX9_part 19 = .ok (.iload 5, 2) := by decide +kernel
theorem dX9_part_21 : decode cX9_part 21 = .ok (.aload_n 0, 1) := by decide +kernel
theorem dX9_part_22 : decode cX9_part 22 = .ok (.getfield 7, 3) := by decide +kernel
theorem dX9_part_25 : decode cX9_part 25 = .ok (.iconst 1, 1) := by decide +kernel
theorem dX9_part_26 : decode cX9_part 26 = .ok (.iaload, 1) := by decide +kernel
theorem dX9_part_27 : decode cX9_part 27 = .ok (.if_icmp .ge 49, 3) := by decide +kernel
theorem dX9_part_30 : decode cX9_part 30 = .ok (.iconst 1, 1) := by decide +kernel
theorem dX9_part_31 : decode cX9_part 31 = .ok (.aload_n 0, 1) := by decide +kernel
theorem dX9_part_32 : decode cX9_part 32 = .ok (.iload 5, 2) := by decide +kernel
theorem dX9_part_34 : decode cX9_part 34 = .ok (.iconst 0, 1) := by decide +kernel
theorem dX9_part_35 : decode cX9_part 35 = .ok (.invokevirtual 115, 3) := by decide +kernel
theorem dX9_part_38 : decode cX9_part 38 = .ok (.ishl, 1) := by decide +kernel
theorem dX9_part_39 : decode cX9_part 39 = .ok (.iconst 1, 1) := by decide +kernel
theorem dX9_part_40 : decode cX9_part 40 = .ok (.aload_n 0, 1) := by decide +kernel
theorem dX9_part_41 : decode cX9_part 41 = .ok (.iload 5, 2) := by decide +kernel
theorem dX9_part_43 : decode cX9_part 43 = .ok (.iconst 1, 1) := by decide +kernel
theorem dX9_part_44 : decode cX9_part 44 = .ok (.invokevirtual 115, 3) := by decide +kernel
theorem dX9_part_47 : decode cX9_part 47 = .ok (.ishl, 1) := by decide +kernel
theorem dX9_part_48 : decode cX9_part 48 = .ok (.ior, 1) := by decide +kernel
theorem dX9_part_49 : decode cX9_part 49 = .ok (.istore 6, 2) := by decide +kernel
theorem dX9_part_51 : decode cX9_part 51 = .ok (.iload 5, 2) := by decide +kernel
theorem dX9_part_53 : decode cX9_part 53 = .ok (.iload_n 2, 1) := by decide +kernel
theorem dX9_part_54 : decode cX9_part 54 = .ok (.if_icmp .eq 16, 3) := by decide +kernel
theorem dX9_part_57 : decode cX9_part 57 = .ok (.iload 4, 2) := by decide +kernel
theorem dX9_part_59 : decode cX9_part 59 = .ok (.iload 6, 2) := by decide +kernel
theorem dX9_part_61 : decode cX9_part 61 = .ok (.iand, 1) := by decide +kernel
theorem dX9_part_62 : decode cX9_part 62 = .ok (.ifCond .eq 8, 3) := by decide +kernel
theorem dX9_part_65 : decode cX9_part 65 = .ok (.iload_n 3, 1) := by decide +kernel
theorem dX9_part_66 : decode cX9_part 66 = .ok (.iload 6, 2) := by decide +kernel
theorem dX9_part_68 : decode cX9_part 68 = .ok (.ior, 1) := by decide +kernel
theorem dX9_part_69 : decode cX9_part 69 = .ok (.istore_n 3, 1) := by decide +kernel
theorem dX9_part_70 : decode cX9_part 70 = .ok (.iinc 5 1, 3) := by decide +kernel
theorem dX9_part_73 : decode cX9_part 73 = .ok (.goto (-54), 3) := by decide +kernel
theorem dX9_part_76 : decode cX9_part 76 = .ok (.goto (-69), 3) := by decide +kernel
theorem dX9_part_79 : decode cX9_part 79 = .ok (.iload_n 3, 1) := by decide +kernel
theorem dX9_part_80 : decode cX9_part 80 = .ok (.ireturn, 1) := by decide +kernel
theorem dX9_partsWithout_0 : decode cX9_partsWithout 0 = .ok (.iconst 0, 1) := by decide +kernel
theorem dX9_partsWithout_1 : decode cX9_partsWithout 1 = .ok (.istore_n 2, 1) := by decide +kernel
theorem dX9_partsWithout_2 : decode cX9_partsWithout 2 = .ok (.iconst 0, 1) := by decide +kernel
theorem dX9_partsWithout_3 : decode cX9_partsWithout 3 = .ok (.istore_n 3, 1) := by decide +kernel
theorem dX9_partsWithout_4 : decode cX9_partsWithout 4 = .ok (.iload_n 3, 1) := by decide +kernel
theorem dX9_partsWithout_5 : decode cX9_partsWithout 5 = .ok (.aload_n 0, 1) := by decide +kernel
theorem dX9_partsWithout_6 : decode cX9_partsWithout 6 = .ok (.getfield 7, 3) := by decide +kernel
theorem dX9_partsWithout_9 : decode cX9_partsWithout 9 = .ok (.iconst 0, 1) := by decide +kernel
theorem dX9_partsWithout_10 : decode cX9_partsWithout 10 = .ok (.iaload, 1) := by decide +kernel
theorem dX9_partsWithout_11 : decode cX9_partsWithout 11 = .ok (.if_icmp .ge 32, 3) := by decide +kernel
theorem dX9_partsWithout_14 : decode cX9_partsWithout 14 = .ok (.iload_n 2, 1) := by decide +kernel
theorem dX9_partsWithout_15 : decode cX9_partsWithout 15 = .ok (.aload_n 0, 1) := by decide +kernel
theorem dX9_partsWithout_16 : decode cX9_partsWithout 16 = .ok (.iload_n 3, 1) := by decide +kernel
theorem dX9_partsWithout_17 : decode cX9_partsWithout 17 = .ok (.iload_n 1, 1) := by decide +kernel
theorem dX9_partsWithout_18 : decode cX9_partsWithout 18 = .ok (.invokevirtual 134, 3) := by decide +kernel
theorem dX9_partsWithout_21 : decode cX9_partsWithout 21 = .ok (.iconst 1, 1) := by decide +kernel
theorem dX9_partsWithout_22 : decode cX9_partsWithout 22 = .ok (.iload_n 3, 1) := by decide +kernel
theorem dX9_partsWithout_23 : decode cX9_partsWithout 23 = .ok (.ishl, 1) := by decide +kernel
theorem dX9_partsWithout_24 : decode cX9_partsWithout 24 = .ok (.iconst 1, 1) := by decide +kernel
theorem dX9_partsWithout_25 : decode cX9_partsWithout 25 = .ok (.isub, 1) := by decide +kernel
theorem dX9_partsWithout_26 : decode cX9_partsWithout 26 = .ok (.iand, 1) := by decide +kernel
theorem dX9_partsWithout_27 : decode cX9_partsWithout 27 = .ok (.ifCond .ne 7, 3) := by decide +kernel
theorem dX9_partsWithout_30 : decode cX9_partsWithout 30 = .ok (.iconst 1, 1) := by decide +kernel
theorem dX9_partsWithout_31 : decode cX9_partsWithout 31 = .ok (.goto 4, 3) := by decide +kernel
theorem dX9_partsWithout_34 : decode cX9_partsWithout 34 = .ok (.iconst 0, 1) := by decide +kernel
theorem dX9_partsWithout_35 : decode cX9_partsWithout 35 = .ok (.iadd, 1) := by decide +kernel
theorem dX9_partsWithout_36 : decode cX9_partsWithout 36 = .ok (.istore_n 2, 1) := by decide +kernel
theorem dX9_partsWithout_37 : decode cX9_partsWithout 37 = .ok (.iinc 3 1, 3) := by decide +kernel
theorem dX9_partsWithout_40 : decode cX9_partsWithout 40 = .ok (.goto (-36), 3) := by decide +kernel
theorem dX9_partsWithout_43 : decode cX9_partsWithout 43 = .ok (.iload_n 2, 1) := by decide +kernel
theorem dX9_partsWithout_44 : decode cX9_partsWithout 44 = .ok (.ireturn, 1) := by decide +kernel
theorem dX9_parts_0 : decode cX9_parts 0 = .ok (.aload_n 0, 1) := by decide +kernel
theorem dX9_parts_1 : decode cX9_parts 1 = .ok (.iconst 0, 1) := by decide +kernel
theorem dX9_parts_2 : decode cX9_parts 2 = .ok (.putfield 36, 3) := by decide +kernel
theorem dX9_parts_5 : decode cX9_parts 5 = .ok (.aload_n 0, 1) := by decide +kernel
theorem dX9_parts_6 : decode cX9_parts 6 = .ok (.iconst (-1), 1) := by decide +kernel
theorem dX9_parts_7 : decode cX9_parts 7 = .ok (.invokevirtual 137, 3) := by decide +kernel
theorem dX9_parts_10 : decode cX9_parts 10 = .ok (.ireturn, 1) := by decide +kernel
theorem dX9_walk_0 : decode cX9_walk 0 = .ok (.aload_n 0, 1) := by decide +kernel
theorem dX9_walk_1 : decode cX9_walk 1 = .ok (.aload_n 0, 1) := by decide +kernel
theorem dX9_walk_2 : decode cX9_walk 2 = .ok (.iload_n 1, 1) := by decide +kernel
theorem dX9_walk_3 : decode cX9_walk 3 = .ok (.invokevirtual 66, 3) := by decide +kernel
theorem dX9_walk_6 : decode cX9_walk 6 = .ok (.ifCond .eq 15, 3) := by decide +kernel
theorem dX9_walk_9 : decode cX9_walk 9 = .ok (.aload_n 0, 1) := by decide +kernel
theorem dX9_walk_10 : decode cX9_walk 10 = .ok (.iload_n 2, 1) := by decide +kernel
theorem dX9_walk_11 : decode cX9_walk 11 = .ok (.invokevirtual 66, 3) := by decide +kernel
theorem dX9_walk_14 : decode cX9_walk 14 = .ok (.ifCond .eq 7, 3) := by decide +kernel
theorem dX9_walk_17 : decode cX9_walk 17 = .ok (.iconst 0, 1) := by decide +kernel
theorem dX9_walk_18 : decode cX9_walk 18 = .ok (.goto 4, 3) := by decide +kernel
theorem dX9_walk_21 : decode cX9_walk 21 = .ok (.iconst 1, 1) := by decide +kernel
theorem dX9_walk_22 : decode cX9_walk 22 = .ok (.invokevirtual 70, 3) := by decide +kernel
theorem dX9_walk_25 : decode cX9_walk 25 = .ok (.ifCond .eq 5, 3) := by decide +kernel
theorem dX9_walk_28 : decode cX9_walk 28 = .ok (.iconst 0, 1) := by decide +kernel
theorem dX9_walk_29 : decode cX9_walk 29 = .ok (.ireturn, 1) := by decide +kernel
theorem dX9_walk_30 : decode cX9_walk 30 = .ok (.iconst 1, 1) := by decide +kernel
theorem dX9_walk_31 : decode cX9_walk 31 = .ok (.iload_n 1, 1) := by decide +kernel
theorem dX9_walk_32 : decode cX9_walk 32 = .ok (.ishl, 1) := by decide +kernel
theorem dX9_walk_33 : decode cX9_walk 33 = .ok (.istore_n 3, 1) := by decide +kernel
theorem dX9_walk_34 : decode cX9_walk 34 = .ok (.iconst 0, 1) := by decide +kernel
theorem dX9_walk_35 : decode cX9_walk 35 = .ok (.istore 4, 2) := by decide +kernel
theorem dX9_walk_37 : decode cX9_walk 37 = .ok (.iconst 0, 1) := by decide +kernel
theorem dX9_walk_38 : decode cX9_walk 38 = .ok (.istore 5, 2) := by decide +kernel
theorem dX9_walk_40 : decode cX9_walk 40 = .ok (.iload_n 3, 1) := by decide +kernel
theorem dX9_walk_41 : decode cX9_walk 41 = .ok (.iload 4, 2) := by decide +kernel
theorem dX9_walk_43 : decode cX9_walk 43 = .ok (.if_icmp .eq 84, 3) := by decide +kernel
theorem dX9_walk_46 : decode cX9_walk 46 = .ok (.iload_n 3, 1) := by decide +kernel
theorem dX9_walk_47 : decode cX9_walk 47 = .ok (.iload_n 2, 1) := by decide +kernel
theorem dX9_walk_48 : decode cX9_walk 48 = .ok (.ishr, 1) := by decide +kernel
theorem dX9_walk_49 : decode cX9_walk 49 = .ok (.iconst 1, 1) := by decide +kernel
theorem dX9_walk_50 : decode cX9_walk 50 = .ok (.iand, 1) := by decide +kernel
theorem dX9_walk_51 : decode cX9_walk 51 = .ok (.ifCond .ne 76, 3) := by decide +kernel
theorem dX9_walk_54 : decode cX9_walk 54 = .ok (.iload_n 3, 1) := by decide +kernel
theorem dX9_walk_55 : decode cX9_walk 55 = .ok (.istore 4, 2) := by decide +kernel
theorem dX9_walk_57 : decode cX9_walk 57 = .ok (.iinc 5 1, 3) := by decide +kernel
theorem dX9_walk_60 : decode cX9_walk 60 = .ok (.iconst 0, 1) := by decide +kernel
theorem dX9_walk_61 : decode cX9_walk 61 = .ok (.istore 6, 2) := by decide +kernel
theorem dX9_walk_63 : decode cX9_walk 63 = .ok (.iload 6, 2) := by decide +kernel
theorem dX9_walk_65 : decode cX9_walk 65 = .ok (.aload_n 0, 1) := by decide +kernel
theorem dX9_walk_66 : decode cX9_walk 66 = .ok (.getfield 7, 3) := by decide +kernel
theorem dX9_walk_69 : decode cX9_walk 69 = .ok (.iconst 1, 1) := by decide +kernel
theorem dX9_walk_70 : decode cX9_walk 70 = .ok (.iaload, 1) := by decide +kernel
theorem dX9_walk_71 : decode cX9_walk 71 = .ok (.if_icmp .ge 53, 3) := by decide +kernel
theorem dX9_walk_74 : decode cX9_walk 74 = .ok (.iconst 1, 1) := by decide +kernel
theorem dX9_walk_75 : decode cX9_walk 75 = .ok (.aload_n 0, 1) := by decide +kernel
theorem dX9_walk_76 : decode cX9_walk 76 = .ok (.iload 6, 2) := by decide +kernel
theorem dX9_walk_78 : decode cX9_walk 78 = .ok (.iconst 0, 1) := by decide +kernel
theorem dX9_walk_79 : decode cX9_walk 79 = .ok (.invokevirtual 115, 3) := by decide +kernel
theorem dX9_walk_82 : decode cX9_walk 82 = .ok (.ishl, 1) := by decide +kernel
theorem dX9_walk_83 : decode cX9_walk 83 = .ok (.iconst 1, 1) := by decide +kernel
theorem dX9_walk_84 : decode cX9_walk 84 = .ok (.aload_n 0, 1) := by decide +kernel
theorem dX9_walk_85 : decode cX9_walk 85 = .ok (.iload 6, 2) := by decide +kernel
theorem dX9_walk_87 : decode cX9_walk 87 = .ok (.iconst 1, 1) := by decide +kernel
theorem dX9_walk_88 : decode cX9_walk 88 = .ok (.invokevirtual 115, 3) := by decide +kernel
theorem dX9_walk_91 : decode cX9_walk 91 = .ok (.ishl, 1) := by decide +kernel
theorem dX9_walk_92 : decode cX9_walk 92 = .ok (.ior, 1) := by decide +kernel
theorem dX9_walk_93 : decode cX9_walk 93 = .ok (.istore 7, 2) := by decide +kernel
theorem dX9_walk_95 : decode cX9_walk 95 = .ok (.aload_n 0, 1) := by decide +kernel
theorem dX9_walk_96 : decode cX9_walk 96 = .ok (.iload 6, 2) := by decide +kernel
theorem dX9_walk_98 : decode cX9_walk 98 = .ok (.iconst 0, 1) := by decide +kernel
theorem dX9_walk_99 : decode cX9_walk 99 = .ok (.invokevirtual 118, 3) := by decide +kernel
theorem dX9_walk_102 : decode cX9_walk 102 = .ok (.ifCond .eq 16, 3) := by decide +kernel
theorem dX9_walk_105 : decode cX9_walk 105 = .ok (.iload 4, 2) := by decide +kernel
theorem dX9_walk_107 : decode cX9_walk 107 = .ok (.iload 7, 2) := by decide +kernel
theorem dX9_walk_109 : decode cX9_walk 109 = .ok (.iand, 1) := by decide +kernel
theorem dX9_walk_110 : decode cX9_walk 110 = .ok (.ifCond .eq 8, 3) := by decide +kernel
theorem dX9_walk_113 : decode cX9_walk 113 = .ok (.iload_n 3, 1) := by decide +kernel
theorem dX9_walk_114 : decode cX9_walk 114 = .ok (.iload 7, 2) := by decide +kernel
theorem dX9_walk_116 : decode cX9_walk 116 = .ok (.ior, 1) := by decide +kernel
theorem dX9_walk_117 : decode cX9_walk 117 = .ok (.istore_n 3, 1) := by decide +kernel
theorem dX9_walk_118 : decode cX9_walk 118 = .ok (.iinc 6 1, 3) := by decide +kernel
theorem dX9_walk_121 : decode cX9_walk 121 = .ok (.goto (-58), 3) := by decide +kernel
theorem dX9_walk_124 : decode cX9_walk 124 = .ok (.goto (-84), 3) := by decide +kernel
theorem dX9_walk_127 : decode cX9_walk 127 = .ok (.aload_n 0, 1) := by decide +kernel
theorem dX9_walk_128 : decode cX9_walk 128 = .ok (.iload_n 3, 1) := by decide +kernel
theorem dX9_walk_129 : decode cX9_walk 129 = .ok (.iload_n 2, 1) := by decide +kernel
theorem dX9_walk_130 : decode cX9_walk 130 = .ok (.ishr, 1) := by decide +kernel
theorem dX9_walk_131 : decode cX9_walk 131 = .ok (.iconst 1, 1) := by decide +kernel
theorem dX9_walk_132 : decode cX9_walk 132 = .ok (.iand, 1) := by decide +kernel
theorem dX9_walk_133 : decode cX9_walk 133 = .ok (.ifCond .ne 7, 3) := by decide +kernel
theorem dX9_walk_136 : decode cX9_walk 136 = .ok (.iconst 2, 1) := by decide +kernel
theorem dX9_walk_137 : decode cX9_walk 137 = .ok (.goto 4, 3) := by decide +kernel
theorem dX9_walk_140 : decode cX9_walk 140 = .ok (.iconst 0, 1) := by decide +kernel
theorem dX9_walk_141 : decode cX9_walk 141 = .ok (.invokevirtual 70, 3) := by decide +kernel
theorem dX9_walk_144 : decode cX9_walk 144 = .ok (.ifCond .eq 7, 3) := by decide +kernel
theorem dX9_walk_147 : decode cX9_walk 147 = .ok (.iconst 0, 1) := by decide +kernel
theorem dX9_walk_148 : decode cX9_walk 148 = .ok (.goto 5, 3) := by decide +kernel
theorem dX9_walk_151 : decode cX9_walk 151 = .ok (.iload 5, 2) := by decide +kernel
theorem dX9_walk_153 : decode cX9_walk 153 = .ok (.ireturn, 1) := by decide +kernel
theorem dX9_spans_0 : decode cX9_spans 0 = .ok (.iconst 0, 1) := by decide +kernel
theorem dX9_spans_1 : decode cX9_spans 1 = .ok (.istore_n 1, 1) := by decide +kernel
theorem dX9_spans_2 : decode cX9_spans 2 = .ok (.aload_n 0, 1) := by decide +kernel
theorem dX9_spans_3 : decode cX9_spans 3 = .ok (.iconst (-1), 1) := by decide +kernel
theorem dX9_spans_4 : decode cX9_spans 4 = .ok (.invokevirtual 137, 3) := by decide +kernel
theorem dX9_spans_7 : decode cX9_spans 7 = .ok (.istore_n 2, 1) := by decide +kernel
theorem dX9_spans_8 : decode cX9_spans 8 = .ok (.iconst 0, 1) := by decide +kernel
theorem dX9_spans_9 : decode cX9_spans 9 = .ok (.istore_n 3, 1) := by decide +kernel
theorem dX9_spans_10 : decode cX9_spans 10 = .ok (.iload_n 3, 1) := by decide +kernel
theorem dX9_spans_11 : decode cX9_spans 11 = .ok (.aload_n 0, 1) := by decide +kernel
theorem dX9_spans_12 : decode cX9_spans 12 = .ok (.getfield 7, 3) := by decide +kernel
theorem dX9_spans_15 : decode cX9_spans 15 = .ok (.iconst 1, 1) := by decide +kernel
theorem dX9_spans_16 : decode cX9_spans 16 = .ok (.iaload, 1) := by decide +kernel
theorem dX9_spans_17 : decode cX9_spans 17 = .ok (.if_icmp .ge 26, 3) := by decide +kernel
theorem dX9_spans_20 : decode cX9_spans 20 = .ok (.iload_n 1, 1) := by decide +kernel
theorem dX9_spans_21 : decode cX9_spans 21 = .ok (.aload_n 0, 1) := by decide +kernel
theorem dX9_spans_22 : decode cX9_spans 22 = .ok (.iload_n 3, 1) := by decide +kernel
theorem dX9_spans_23 : decode cX9_spans 23 = .ok (.invokevirtual 137, 3) := by decide +kernel
theorem dX9_spans_26 : decode cX9_spans 26 = .ok (.iload_n 2, 1) := by decide +kernel
theorem dX9_spans_27 : decode cX9_spans 27 = .ok (.if_icmp .le 7, 3) := by decide +kernel
theorem dX9_spans_30 : decode cX9_spans 30 = .ok (.iconst 1, 1) := by decide +kernel
theorem dX9_spans_31 : decode cX9_spans 31 = .ok (.goto 4, 3) := by decide +kernel
theorem dX9_spans_34 : decode cX9_spans 34 = .ok (.iconst 0, 1) := by decide +kernel
theorem dX9_spans_35 : decode cX9_spans 35 = .ok (.iadd, 1) := by decide +kernel
theorem dX9_spans_36 : decode cX9_spans 36 = .ok (.istore_n 1, 1) := by decide +kernel
theorem dX9_spans_37 : decode cX9_spans 37 = .ok (.iinc 3 1, 3) := by decide +kernel
theorem dX9_spans_40 : decode cX9_spans 40 = .ok (.goto (-30), 3) := by decide +kernel
theorem dX9_spans_43 : decode cX9_spans 43 = .ok (.iload_n 1, 1) := by decide +kernel
theorem dX9_spans_44 : decode cX9_spans 44 = .ok (.ireturn, 1) := by decide +kernel
theorem dX9_bridges_0 : decode cX9_bridges 0 = .ok (.aload_n 0, 1) := by decide +kernel
theorem dX9_bridges_1 : decode cX9_bridges 1 = .ok (.iconst 0, 1) := by decide +kernel
theorem dX9_bridges_2 : decode cX9_bridges 2 = .ok (.putfield 36, 3) := by decide +kernel
theorem dX9_bridges_5 : decode cX9_bridges 5 = .ok (.aload_n 0, 1) := by decide +kernel
theorem dX9_bridges_6 : decode cX9_bridges 6 = .ok (.invokevirtual 140, 3) := by decide +kernel
theorem dX9_bridges_9 : decode cX9_bridges 9 = .ok (.ireturn, 1) := by decide +kernel
theorem dX9_bridgesByFilling_0 : decode cX9_bridgesByFilling 0 = .ok (.aload_n 0, 1) := by decide +kernel
theorem dX9_bridgesByFilling_1 : decode cX9_bridgesByFilling 1 = .ok (.iconst 0, 1) := by decide +kernel
theorem dX9_bridgesByFilling_2 : decode cX9_bridgesByFilling 2 = .ok (.putfield 36, 3) := by decide +kernel
theorem dX9_bridgesByFilling_5 : decode cX9_bridgesByFilling 5 = .ok (.aload_n 0, 1) := by decide +kernel
theorem dX9_bridgesByFilling_6 : decode cX9_bridgesByFilling 6 = .ok (.invokevirtual 140, 3) := by decide +kernel
theorem dX9_bridgesByFilling_9 : decode cX9_bridgesByFilling 9 = .ok (.ireturn, 1) := by decide +kernel
theorem dX9_canSettle_0 : decode cX9_canSettle 0 = .ok (.aload_n 0, 1) := by decide +kernel
theorem dX9_canSettle_1 : decode cX9_canSettle 1 = .ok (.iconst 0, 1) := by decide +kernel
theorem dX9_canSettle_2 : decode cX9_canSettle 2 = .ok (.putfield 36, 3) := by decide +kernel
theorem dX9_canSettle_5 : decode cX9_canSettle 5 = .ok (.aload_n 0, 1) := by decide +kernel
theorem dX9_canSettle_6 : decode cX9_canSettle 6 = .ok (.invokevirtual 130, 3) := by decide +kernel
theorem dX9_canSettle_9 : decode cX9_canSettle 9 = .ok (.ifCond .lt 7, 3) := by decide +kernel
theorem dX9_canSettle_12 : decode cX9_canSettle 12 = .ok (.iconst 1, 1) := by decide +kernel
theorem dX9_canSettle_13 : decode cX9_canSettle 13 = .ok (.goto 4, 3) := by decide +kernel
theorem dX9_canSettle_16 : decode cX9_canSettle 16 = .ok (.iconst 0, 1) := by decide +kernel
theorem dX9_canSettle_17 : decode cX9_canSettle 17 = .ok (.ireturn, 1) := by decide +kernel
theorem dX9_canSettleByUnions_0 : decode cX9_canSettleByUnions 0 = .ok (.aload_n 0, 1) := by decide +kernel
theorem dX9_canSettleByUnions_1 : decode cX9_canSettleByUnions 1 = .ok (.iconst 0, 1) := by decide +kernel
theorem dX9_canSettleByUnions_2 : decode cX9_canSettleByUnions 2 = .ok (.putfield 36, 3) := by decide +kernel
theorem dX9_canSettleByUnions_5 : decode cX9_canSettleByUnions 5 = .ok (.aload_n 0, 1) := by decide +kernel
theorem dX9_canSettleByUnions_6 : decode cX9_canSettleByUnions 6 = .ok (.invokevirtual 130, 3) := by decide +kernel
theorem dX9_canSettleByUnions_9 : decode cX9_canSettleByUnions 9 = .ok (.ifCond .lt 7, 3) := by decide +kernel
theorem dX9_canSettleByUnions_12 : decode cX9_canSettleByUnions 12 = .ok (.iconst 1, 1) := by decide +kernel
theorem dX9_canSettleByUnions_13 : decode cX9_canSettleByUnions 13 = .ok (.goto 4, 3) := by decide +kernel
theorem dX9_canSettleByUnions_16 : decode cX9_canSettleByUnions 16 = .ok (.iconst 0, 1) := by decide +kernel
theorem dX9_canSettleByUnions_17 : decode cX9_canSettleByUnions 17 = .ok (.ireturn, 1) := by decide +kernel
theorem dX9_fewest_0 : decode cX9_fewest 0 = .ok (.aload_n 0, 1) := by decide +kernel
theorem dX9_fewest_1 : decode cX9_fewest 1 = .ok (.invokevirtual 130, 3) := by decide +kernel
theorem dX9_fewest_4 : decode cX9_fewest 4 = .ok (.istore_n 1, 1) := by decide +kernel
theorem dX9_fewest_5 : decode cX9_fewest 5 = .ok (.aload_n 0, 1) := by decide +kernel
theorem dX9_fewest_6 : decode cX9_fewest 6 = .ok (.iload_n 1, 1) := by decide +kernel
theorem dX9_fewest_7 : decode cX9_fewest 7 = .ok (.ifCond .ge 7, 3) := by decide +kernel
theorem dX9_fewest_10 : decode cX9_fewest 10 = .ok (.iconst 1, 1) := by decide +kernel
theorem dX9_fewest_11 : decode cX9_fewest 11 = .ok (.goto 4, 3) := by decide +kernel
theorem dX9_fewest_14 : decode cX9_fewest 14 = .ok (.iconst 0, 1) := by decide +kernel
theorem dX9_fewest_15 : decode cX9_fewest 15 = .ok (.invokevirtual 70, 3) := by decide +kernel
theorem dX9_fewest_18 : decode cX9_fewest 18 = .ok (.ifCond .eq 7, 3) := by decide +kernel
theorem dX9_fewest_21 : decode cX9_fewest 21 = .ok (.iconst 0, 1) := by decide +kernel
theorem dX9_fewest_22 : decode cX9_fewest 22 = .ok (.goto 7, 3) := by decide +kernel
theorem dX9_fewest_25 : decode cX9_fewest 25 = .ok (.iload_n 1, 1) := by decide +kernel
theorem dX9_fewest_26 : decode cX9_fewest 26 = .ok (.invokestatic 127, 3) := by decide +kernel
theorem dX9_fewest_29 : decode cX9_fewest 29 = .ok (.ireturn, 1) := by decide +kernel
theorem dX9_fewestTurns_0 : decode cX9_fewestTurns 0 = .ok (.aload_n 0, 1) := by decide +kernel
theorem dX9_fewestTurns_1 : decode cX9_fewestTurns 1 = .ok (.invokevirtual 143, 3) := by decide +kernel
theorem dX9_fewestTurns_4 : decode cX9_fewestTurns 4 = .ok (.ireturn, 1) := by decide +kernel
theorem dX9_fewestTurnsBySets_0 : decode cX9_fewestTurnsBySets 0 = .ok (.aload_n 0, 1) := by decide +kernel
theorem dX9_fewestTurnsBySets_1 : decode cX9_fewestTurnsBySets 1 = .ok (.invokevirtual 143, 3) := by decide +kernel
theorem dX9_fewestTurnsBySets_4 : decode cX9_fewestTurnsBySets 4 = .ok (.ireturn, 1) := by decide +kernel
theorem dX9_leastShut_0 : decode cX9_leastShut 0 = .ok (.bipush 16, 2) := by decide +kernel
theorem dX9_leastShut_2 : decode cX9_leastShut 2 = .ok (.istore_n 1, 1) := by decide +kernel
theorem dX9_leastShut_3 : decode cX9_leastShut 3 = .ok (.iconst 0, 1) := by decide +kernel
theorem dX9_leastShut_4 : decode cX9_leastShut 4 = .ok (.istore_n 2, 1) := by decide +kernel
theorem dX9_leastShut_5 : decode cX9_leastShut 5 = .ok (.iload_n 2, 1) := by decide +kernel
theorem dX9_leastShut_6 : decode cX9_leastShut 6 = .ok (.iconst 1, 1) := by decide +kernel
theorem dX9_leastShut_7 : decode cX9_leastShut 7 = .ok (.aload_n 0, 1) := by decide +kernel
theorem dX9_leastShut_8 : decode cX9_leastShut 8 = .ok (.getfield 7, 3) := by decide +kernel
theorem dX9_leastShut_11 : decode cX9_leastShut 11 = .ok (.iconst 0, 1) := by decide +kernel
theorem dX9_leastShut_12 : decode cX9_leastShut 12 = .ok (.iaload, 1) := by decide +kernel
theorem dX9_leastShut_13 : decode cX9_leastShut 13 = .ok (.ishl, 1) := by decide +kernel
theorem dX9_leastShut_14 : decode cX9_leastShut 14 = .ok (.if_icmp .ge 24, 3) := by decide +kernel
theorem dX9_leastShut_17 : decode cX9_leastShut 17 = .ok (.aload_n 0, 1) := by decide +kernel
theorem dX9_leastShut_18 : decode cX9_leastShut 18 = .ok (.iload_n 2, 1) := by decide +kernel
theorem dX9_leastShut_19 : decode cX9_leastShut 19 = .ok (.invokevirtual 100, 3) := by decide +kernel
theorem dX9_leastShut_22 : decode cX9_leastShut 22 = .ok (.iload_n 1, 1) := by decide +kernel
theorem dX9_leastShut_23 : decode cX9_leastShut 23 = .ok (.if_icmp .ge 9, 3) := by decide +kernel
theorem dX9_leastShut_26 : decode cX9_leastShut 26 = .ok (.aload_n 0, 1) := by decide +kernel
theorem dX9_leastShut_27 : decode cX9_leastShut 27 = .ok (.iload_n 2, 1) := by decide +kernel
theorem dX9_leastShut_28 : decode cX9_leastShut 28 = .ok (.invokevirtual 100, 3) := by decide +kernel
theorem dX9_leastShut_31 : decode cX9_leastShut 31 = .ok (.istore_n 1, 1) := by decide +kernel
theorem dX9_leastShut_32 : decode cX9_leastShut 32 = .ok (.iinc 2 1, 3) := by decide +kernel
theorem dX9_leastShut_35 : decode cX9_leastShut 35 = .ok (.goto (-30), 3) := by decide +kernel
theorem dX9_leastShut_38 : decode cX9_leastShut 38 = .ok (.iload_n 1, 1) := by decide +kernel
theorem dX9_leastShut_39 : decode cX9_leastShut 39 = .ok (.ireturn, 1) := by decide +kernel
theorem dX9_leastBlocked_0 : decode cX9_leastBlocked 0 = .ok (.aload_n 0, 1) := by decide +kernel
theorem dX9_leastBlocked_1 : decode cX9_leastBlocked 1 = .ok (.iconst 0, 1) := by decide +kernel
theorem dX9_leastBlocked_2 : decode cX9_leastBlocked 2 = .ok (.putfield 36, 3) := by decide +kernel
theorem dX9_leastBlocked_5 : decode cX9_leastBlocked 5 = .ok (.aload_n 0, 1) := by decide +kernel
theorem dX9_leastBlocked_6 : decode cX9_leastBlocked 6 = .ok (.invokevirtual 146, 3) := by decide +kernel
theorem dX9_leastBlocked_9 : decode cX9_leastBlocked 9 = .ok (.ireturn, 1) := by decide +kernel
theorem dX9_leastBlockedByBounds_0 : decode cX9_leastBlockedByBounds 0 = .ok (.aload_n 0, 1) := by decide +kernel
theorem dX9_leastBlockedByBounds_1 : decode cX9_leastBlockedByBounds 1 = .ok (.iconst 0, 1) := by decide +kernel
theorem dX9_leastBlockedByBounds_2 : decode cX9_leastBlockedByBounds 2 = .ok (.putfield 36, 3) := by decide +kernel
theorem dX9_leastBlockedByBounds_5 : decode cX9_leastBlockedByBounds 5 = .ok (.aload_n 0, 1) := by decide +kernel
theorem dX9_leastBlockedByBounds_6 : decode cX9_leastBlockedByBounds 6 = .ok (.invokevirtual 146, 3) := by decide +kernel
theorem dX9_leastBlockedByBounds_9 : decode cX9_leastBlockedByBounds 9 = .ok (.ireturn, 1) := by decide +kernel
theorem dX9_force_0 : decode cX9_force 0 = .ok (.aload_n 0, 1) := by decide +kernel
theorem dX9_force_1 : decode cX9_force 1 = .ok (.iload_n 1, 1) := by decide +kernel
theorem dX9_force_2 : decode cX9_force 2 = .ok (.invokevirtual 93, 3) := by decide +kernel
theorem dX9_force_5 : decode cX9_force 5 = .ok (.ifCond .eq 7, 3) := by decide +kernel
theorem dX9_force_8 : decode cX9_force 8 = .ok (.fconst 0, 1) := by decide +kernel
theorem dX9_force_9 : decode cX9_force 9 = .ok (.goto 8, 3) := by decide +kernel
theorem dX9_force_12 : decode cX9_force 12 = .ok (.aload_n 0, 1) := by decide +kernel
theorem dX9_force_13 : decode cX9_force 13 = .ok (.iload_n 1, 1) := by decide +kernel
theorem dX9_force_14 : decode cX9_force 14 = .ok (.invokevirtual 103, 3) := by decide +kernel
theorem dX9_force_17 : decode cX9_force 17 = .ok (.freturn, 1) := by decide +kernel
theorem dX9_wholeForce_0 : decode cX9_wholeForce 0 = .ok (.aload_n 0, 1) := by decide +kernel
theorem dX9_wholeForce_1 : decode cX9_wholeForce 1 = .ok (.iload_n 1, 1) := by decide +kernel
theorem dX9_wholeForce_2 : decode cX9_wholeForce 2 = .ok (.invokevirtual 93, 3) := by decide +kernel
theorem dX9_wholeForce_5 : decode cX9_wholeForce 5 = .ok (.ifCond .eq 7, 3) := by decide +kernel
theorem dX9_wholeForce_8 : decode cX9_wholeForce 8 = .ok (.iconst 0, 1) := by decide +kernel
theorem dX9_wholeForce_9 : decode cX9_wholeForce 9 = .ok (.goto 9, 3) := by decide +kernel
theorem dX9_wholeForce_12 : decode cX9_wholeForce 12 = .ok (.aload_n 0, 1) := by decide +kernel
theorem dX9_wholeForce_13 : decode cX9_wholeForce 13 = .ok (.iload_n 1, 1) := by decide +kernel
theorem dX9_wholeForce_14 : decode cX9_wholeForce 14 = .ok (.invokevirtual 103, 3) := by decide +kernel
theorem dX9_wholeForce_17 : decode cX9_wholeForce 17 = .ok (.f2i, 1) := by decide +kernel
theorem dX9_wholeForce_18 : decode cX9_wholeForce 18 = .ok (.ireturn, 1) := by decide +kernel
theorem dX9_fieldAt_0 : decode cX9_fieldAt 0 = .ok (.dconst 0, 1) := by decide +kernel
theorem dX9_fieldAt_1 : decode cX9_fieldAt 1 = .ok (.dstore_n 2, 1) := by decide +kernel
theorem dX9_fieldAt_2 : decode cX9_fieldAt 2 = .ok (.iconst 0, 1) := by decide +kernel
theorem dX9_fieldAt_3 : decode cX9_fieldAt 3 = .ok (.istore 4, 2) := by decide +kernel
theorem dX9_fieldAt_5 : decode cX9_fieldAt 5 = .ok (.iload 4, 2) := by decide +kernel
theorem dX9_fieldAt_7 : decode cX9_fieldAt 7 = .ok (.aload_n 0, 1) := by decide +kernel
theorem dX9_fieldAt_8 : decode cX9_fieldAt 8 = .ok (.getfield 7, 3) := by decide +kernel
theorem dX9_fieldAt_11 : decode cX9_fieldAt 11 = .ok (.iconst 0, 1) := by decide +kernel
theorem dX9_fieldAt_12 : decode cX9_fieldAt 12 = .ok (.iaload, 1) := by decide +kernel
theorem dX9_fieldAt_13 : decode cX9_fieldAt 13 = .ok (.if_icmp .ge 59, 3) := by decide +kernel
theorem dX9_fieldAt_16 : decode cX9_fieldAt 16 = .ok (.aload_n 0, 1) := by decide +kernel
theorem dX9_fieldAt_17 : decode cX9_fieldAt 17 = .ok (.iload 4, 2) := by decide +kernel
theorem dX9_fieldAt_19 : decode cX9_fieldAt 19 = .ok (.iconst 1, 1) := by decide +kernel
theorem dX9_fieldAt_20 : decode cX9_fieldAt 20 = .ok (.invokevirtual 73, 3) := by decide +kernel
theorem dX9_fieldAt_23 : decode cX9_fieldAt 23 = .ok (.i2d, 1) := by decide +kernel
theorem dX9_fieldAt_24 : decode cX9_fieldAt 24 = .ok (.iconst 1, 1) := by decide +kernel
theorem dX9_fieldAt_25 : decode cX9_fieldAt 25 = .ok (.aload_n 0, 1) := by decide +kernel
theorem dX9_fieldAt_26 : decode cX9_fieldAt 26 = .ok (.iload 4, 2) := by decide +kernel
theorem dX9_fieldAt_28 : decode cX9_fieldAt 28 = .ok (.iconst 0, 1) := by decide +kernel
theorem dX9_fieldAt_29 : decode cX9_fieldAt 29 = .ok (.invokevirtual 73, 3) := by decide +kernel
theorem dX9_fieldAt_32 : decode cX9_fieldAt 32 = .ok (.iload_n 1, 1) := by decide +kernel
theorem dX9_fieldAt_33 : decode cX9_fieldAt 33 = .ok (.isub, 1) := by decide +kernel
theorem dX9_fieldAt_34 : decode cX9_fieldAt 34 = .ok (.invokestatic 149, 3) := by decide +kernel
theorem dX9_fieldAt_37 : decode cX9_fieldAt 37 = .ok (.iadd, 1) := by decide +kernel
theorem dX9_fieldAt_38 : decode cX9_fieldAt 38 = .ok (.i2d, 1) := by decide +kernel
theorem dX9_fieldAt_39 : decode cX9_fieldAt 39 = .ok (.ddiv, 1) := by decide +kernel
theorem dX9_fieldAt_40 : decode cX9_fieldAt 40 = .ok (.dstore 5, 2) := by decide +kernel
theorem dX9_fieldAt_42 : decode cX9_fieldAt 42 = .ok (.aload_n 0, 1) := by decide +kernel
theorem dX9_fieldAt_43 : decode cX9_fieldAt 43 = .ok (.iload 4, 2) := by decide +kernel
theorem dX9_fieldAt_45 : decode cX9_fieldAt 45 = .ok (.iconst 2, 1) := by decide +kernel
theorem dX9_fieldAt_46 : decode cX9_fieldAt 46 = .ok (.invokevirtual 73, 3) := by decide +kernel
theorem dX9_fieldAt_49 : decode cX9_fieldAt 49 = .ok (.iconst 1, 1) := by decide +kernel
theorem dX9_fieldAt_50 : decode cX9_fieldAt 50 = .ok (.if_icmp .ne 11, 3) := by decide +kernel
theorem dX9_fieldAt_53 : decode cX9_fieldAt 53 = .ok (.dload_n 2, 1) := by decide +kernel
theorem dX9_fieldAt_54 : decode cX9_fieldAt 54 = .ok (.dload 5, 2) := by decide +kernel
theorem dX9_fieldAt_56 : decode cX9_fieldAt 56 = .ok (.dadd, 1) := by decide +kernel
theorem dX9_fieldAt_57 : decode cX9_fieldAt 57 = .ok (.dstore_n 2, 1) := by decide +kernel
theorem dX9_fieldAt_58 : decode cX9_fieldAt 58 = .ok (.goto 8, 3) := by decide +kernel
theorem dX9_fieldAt_61 : decode cX9_fieldAt 61 = .ok (.dload_n 2, 1) := by decide +kernel
theorem dX9_fieldAt_62 : decode cX9_fieldAt 62 = .ok (.dload 5, 2) := by decide +kernel
theorem dX9_fieldAt_64 : decode cX9_fieldAt 64 = .ok (.dsub, 1) := by decide +kernel
theorem dX9_fieldAt_65 : decode cX9_fieldAt 65 = .ok (.dstore_n 2, 1) := by decide +kernel
theorem dX9_fieldAt_66 : decode cX9_fieldAt 66 = .ok (.iinc 4 1, 3) := by decide +kernel
theorem dX9_fieldAt_69 : decode cX9_fieldAt 69 = .ok (.goto (-64), 3) := by decide +kernel
theorem dX9_fieldAt_72 : decode cX9_fieldAt 72 = .ok (.dload_n 2, 1) := by decide +kernel
theorem dX9_fieldAt_73 : decode cX9_fieldAt 73 = .ok (.dreturn, 1) := by decide +kernel
theorem dX9_field_0 : decode cX9_field 0 = .ok (.aload_n 0, 1) := by decide +kernel
theorem dX9_field_1 : decode cX9_field 1 = .ok (.iload_n 1, 1) := by decide +kernel
theorem dX9_field_2 : decode cX9_field 2 = .ok (.iconst 0, 1) := by decide +kernel
theorem dX9_field_3 : decode cX9_field 3 = .ok (.bipush 99, 2) := by decide +kernel
theorem dX9_field_5 : decode cX9_field 5 = .ok (.invokestatic 62, 3) := by decide +kernel
theorem dX9_field_8 : decode cX9_field 8 = .ok (.ifCond .eq 7, 3) := by decide +kernel
theorem dX9_field_11 : decode cX9_field 11 = .ok (.iconst 0, 1) := by decide +kernel
theorem dX9_field_12 : decode cX9_field 12 = .ok (.goto 4, 3) := by decide +kernel
theorem dX9_field_15 : decode cX9_field 15 = .ok (.iconst 1, 1) := by decide +kernel
theorem dX9_field_16 : decode cX9_field 16 = .ok (.invokevirtual 70, 3) := by decide +kernel
theorem dX9_field_19 : decode cX9_field 19 = .ok (.ifCond .eq 7, 3) := by decide +kernel
theorem dX9_field_22 : decode cX9_field 22 = .ok (.dconst 0, 1) := by decide +kernel
theorem dX9_field_23 : decode cX9_field 23 = .ok (.goto 8, 3) := by decide +kernel
theorem dX9_field_26 : decode cX9_field 26 = .ok (.aload_n 0, 1) := by decide +kernel
theorem dX9_field_27 : decode cX9_field 27 = .ok (.iload_n 1, 1) := by decide +kernel
theorem dX9_field_28 : decode cX9_field 28 = .ok (.invokevirtual 152, 3) := by decide +kernel
theorem dX9_field_31 : decode cX9_field 31 = .ok (.dreturn, 1) := by decide +kernel
theorem dX9_strongestPosition_0 : decode cX9_strongestPosition 0 = .ok (.aload_n 0, 1) := by decide +kernel
theorem dX9_strongestPosition_1 : decode cX9_strongestPosition 1 = .ok (.aload_n 0, 1) := by decide +kernel
theorem dX9_strongestPosition_2 : decode cX9_strongestPosition 2 = .ok (.getfield 7, 3) := by decide +kernel
theorem dX9_strongestPosition_5 : decode cX9_strongestPosition 5 = .ok (.iconst 0, 1) := by decide +kernel
theorem dX9_strongestPosition_6 : decode cX9_strongestPosition 6 = .ok (.iaload, 1) := by decide +kernel
theorem dX9_strongestPosition_7 : decode cX9_strongestPosition 7 = .ok (.ifCond .ne 7, 3) := by decide +kernel
theorem dX9_strongestPosition_10 : decode cX9_strongestPosition 10 = .ok (.iconst 1, 1) := by decide +kernel
theorem dX9_strongestPosition_11 : decode cX9_strongestPosition 11 = .ok (.goto 4, 3) := by decide +kernel
theorem dX9_strongestPosition_14 : decode cX9_strongestPosition 14 = .ok (.iconst 0, 1) := by decide +kernel
theorem dX9_strongestPosition_15 : decode cX9_strongestPosition 15 = .ok (.invokevirtual 70, 3) := by decide +kernel
theorem dX9_strongestPosition_18 : decode cX9_strongestPosition 18 = .ok (.ifCond .eq 5, 3) := by decide +kernel
theorem dX9_strongestPosition_21 : decode cX9_strongestPosition 21 = .ok (.iconst 0, 1) := by decide +kernel
theorem dX9_strongestPosition_22 : decode cX9_strongestPosition 22 = .ok (.ireturn, 1) := by decide +kernel
theorem dX9_strongestPosition_23 : decode cX9_strongestPosition 23 = .ok (.iconst 0, 1) := by decide +kernel
theorem dX9_strongestPosition_24 : decode cX9_strongestPosition 24 = .ok (.istore_n 1, 1) := by decide +kernel
theorem dX9_strongestPosition_25 : decode cX9_strongestPosition 25 = .ok (.iconst 1, 1) := by decide +kernel
theorem dX9_strongestPosition_26 : decode cX9_strongestPosition 26 = .ok (.istore_n 2, 1) := by decide +kernel
theorem dX9_strongestPosition_27 : decode cX9_strongestPosition 27 = .ok (.iload_n 2, 1) := by decide +kernel
theorem dX9_strongestPosition_28 : decode cX9_strongestPosition 28 = .ok (.bipush 99, 2) := by decide +kernel
theorem dX9_strongestPosition_30 : decode cX9_strongestPosition 30 = .ok (.if_icmp .gt 31, 3) := by decide +kernel
theorem dX9_strongestPosition_33 : decode cX9_strongestPosition 33 = .ok (.aload_n 0, 1) := by decide +kernel
theorem dX9_strongestPosition_34 : decode cX9_strongestPosition 34 = .ok (.iload_n 2, 1) := by decide +kernel
theorem dX9_strongestPosition_35 : decode cX9_strongestPosition 35 = .ok (.invokevirtual 152, 3) := by decide +kernel
theorem dX9_strongestPosition_38 : decode cX9_strongestPosition 38 = .ok (.invokestatic 156, 3) := by decide +kernel
theorem dX9_strongestPosition_41 : decode cX9_strongestPosition 41 = .ok (.aload_n 0, 1) := by decide +kernel
theorem dX9_strongestPosition_42 : decode cX9_strongestPosition 42 = .ok (.iload_n 1, 1) := by decide +kernel
theorem dX9_strongestPosition_43 : decode cX9_strongestPosition 43 = .ok (.invokevirtual 152, 3) := by decide +kernel
theorem dX9_strongestPosition_46 : decode cX9_strongestPosition 46 = .ok (.invokestatic 156, 3) := by decide +kernel
theorem dX9_strongestPosition_49 : decode cX9_strongestPosition 49 = .ok (.dcmp .l, 1) := by decide +kernel
theorem dX9_strongestPosition_50 : decode cX9_strongestPosition 50 = .ok (.ifCond .le 5, 3) := by decide +kernel
theorem dX9_strongestPosition_53 : decode cX9_strongestPosition 53 = .ok (.iload_n 2, 1) := by decide +kernel
theorem dX9_strongestPosition_54 : decode cX9_strongestPosition 54 = .ok (.istore_n 1, 1) := by decide +kernel
theorem dX9_strongestPosition_55 : decode cX9_strongestPosition 55 = .ok (.iinc 2 1, 3) := by decide +kernel
theorem dX9_strongestPosition_58 : decode cX9_strongestPosition 58 = .ok (.goto (-31), 3) := by decide +kernel
theorem dX9_strongestPosition_61 : decode cX9_strongestPosition 61 = .ok (.iload_n 1, 1) := by decide +kernel
theorem dX9_strongestPosition_62 : decode cX9_strongestPosition 62 = .ok (.ireturn, 1) := by decide +kernel
theorem dX9_queen_0 : decode cX9_queen 0 = .ok (.aload_n 0, 1) := by decide +kernel
theorem dX9_queen_1 : decode cX9_queen 1 = .ok (.aload_n 0, 1) := by decide +kernel
theorem dX9_queen_2 : decode cX9_queen 2 = .ok (.getfield 7, 3) := by decide +kernel
theorem dX9_queen_5 : decode cX9_queen 5 = .ok (.iconst 0, 1) := by decide +kernel
theorem dX9_queen_6 : decode cX9_queen 6 = .ok (.iaload, 1) := by decide +kernel
theorem dX9_queen_7 : decode cX9_queen 7 = .ok (.ifCond .ne 7, 3) := by decide +kernel
theorem dX9_queen_10 : decode cX9_queen 10 = .ok (.iconst 1, 1) := by decide +kernel
theorem dX9_queen_11 : decode cX9_queen 11 = .ok (.goto 4, 3) := by decide +kernel
theorem dX9_queen_14 : decode cX9_queen 14 = .ok (.iconst 0, 1) := by decide +kernel
theorem dX9_queen_15 : decode cX9_queen 15 = .ok (.invokevirtual 70, 3) := by decide +kernel
theorem dX9_queen_18 : decode cX9_queen 18 = .ok (.ifCond .eq 5, 3) := by decide +kernel
theorem dX9_queen_21 : decode cX9_queen 21 = .ok (.iconst 0, 1) := by decide +kernel
theorem dX9_queen_22 : decode cX9_queen 22 = .ok (.ireturn, 1) := by decide +kernel
theorem dX9_queen_23 : decode cX9_queen 23 = .ok (.iconst 0, 1) := by decide +kernel
theorem dX9_queen_24 : decode cX9_queen 24 = .ok (.istore_n 1, 1) := by decide +kernel
theorem dX9_queen_25 : decode cX9_queen 25 = .ok (.iconst 1, 1) := by decide +kernel
theorem dX9_queen_26 : decode cX9_queen 26 = .ok (.istore_n 2, 1) := by decide +kernel
theorem dX9_queen_27 : decode cX9_queen 27 = .ok (.iload_n 2, 1) := by decide +kernel
theorem dX9_queen_28 : decode cX9_queen 28 = .ok (.aload_n 0, 1) := by decide +kernel
theorem dX9_queen_29 : decode cX9_queen 29 = .ok (.getfield 7, 3) := by decide +kernel
theorem dX9_queen_32 : decode cX9_queen 32 = .ok (.iconst 0, 1) := by decide +kernel
theorem dX9_queen_33 : decode cX9_queen 33 = .ok (.iaload, 1) := by decide +kernel
theorem dX9_queen_34 : decode cX9_queen 34 = .ok (.if_icmp .ge 41, 3) := by decide +kernel
theorem dX9_queen_37 : decode cX9_queen 37 = .ok (.aload_n 0, 1) := by decide +kernel
theorem dX9_queen_38 : decode cX9_queen 38 = .ok (.aload_n 0, 1) := by decide +kernel
theorem dX9_queen_39 : decode cX9_queen 39 = .ok (.iload_n 2, 1) := by decide +kernel
theorem dX9_queen_40 : decode cX9_queen 40 = .ok (.iconst 0, 1) := by decide +kernel
theorem dX9_queen_41 : decode cX9_queen 41 = .ok (.invokevirtual 73, 3) := by decide +kernel
theorem dX9_queen_44 : decode cX9_queen 44 = .ok (.invokevirtual 152, 3) := by decide +kernel
theorem dX9_queen_47 : decode cX9_queen 47 = .ok (.invokestatic 156, 3) := by decide +kernel
theorem dX9_queen_50 : decode cX9_queen 50 = .ok (.aload_n 0, 1) := by decide +kernel
theorem dX9_queen_51 : decode cX9_queen 51 = .ok (.aload_n 0, 1) := by decide +kernel
theorem dX9_queen_52 : decode cX9_queen 52 = .ok (.iload_n 1, 1) := by decide +kernel
theorem dX9_queen_53 : decode cX9_queen 53 = .ok (.iconst 0, 1) := by decide +kernel
theorem dX9_queen_54 : decode cX9_queen 54 = .ok (.invokevirtual 73, 3) := by decide +kernel
theorem dX9_queen_57 : decode cX9_queen 57 = .ok (.invokevirtual 152, 3) := by decide +kernel
theorem dX9_queen_60 : decode cX9_queen 60 = .ok (.invokestatic 156, 3) := by decide +kernel
theorem dX9_queen_63 : decode cX9_queen 63 = .ok (.dcmp .l, 1) := by decide +kernel
theorem dX9_queen_64 : decode cX9_queen 64 = .ok (.ifCond .le 5, 3) := by decide +kernel
theorem dX9_queen_67 : decode cX9_queen 67 = .ok (.iload_n 2, 1) := by decide +kernel
theorem dX9_queen_68 : decode cX9_queen 68 = .ok (.istore_n 1, 1) := by decide +kernel
theorem dX9_queen_69 : decode cX9_queen 69 = .ok (.iinc 2 1, 3) := by decide +kernel
theorem dX9_queen_72 : decode cX9_queen 72 = .ok (.goto (-45), 3) := by decide +kernel
theorem dX9_queen_75 : decode cX9_queen 75 = .ok (.iload_n 1, 1) := by decide +kernel
theorem dX9_queen_76 : decode cX9_queen 76 = .ok (.ireturn, 1) := by decide +kernel
theorem dX9_meanStrength_0 : decode cX9_meanStrength 0 = .ok (.aload_n 0, 1) := by decide +kernel
theorem dX9_meanStrength_1 : decode cX9_meanStrength 1 = .ok (.aload_n 0, 1) := by decide +kernel
theorem dX9_meanStrength_2 : decode cX9_meanStrength 2 = .ok (.getfield 7, 3) := by decide +kernel
theorem dX9_meanStrength_5 : decode cX9_meanStrength 5 = .ok (.iconst 0, 1) := by decide +kernel
theorem dX9_meanStrength_6 : decode cX9_meanStrength 6 = .ok (.iaload, 1) := by decide +kernel
theorem dX9_meanStrength_7 : decode cX9_meanStrength 7 = .ok (.ifCond .ne 7, 3) := by decide +kernel
theorem dX9_meanStrength_10 : decode cX9_meanStrength 10 = .ok (.iconst 1, 1) := by decide +kernel
theorem dX9_meanStrength_11 : decode cX9_meanStrength 11 = .ok (.goto 4, 3) := by decide +kernel
theorem dX9_meanStrength_14 : decode cX9_meanStrength 14 = .ok (.iconst 0, 1) := by decide +kernel
theorem dX9_meanStrength_15 : decode cX9_meanStrength 15 = .ok (.invokevirtual 70, 3) := by decide +kernel
theorem dX9_meanStrength_18 : decode cX9_meanStrength 18 = .ok (.ifCond .eq 5, 3) := by decide +kernel
theorem dX9_meanStrength_21 : decode cX9_meanStrength 21 = .ok (.dconst 0, 1) := by decide +kernel
theorem dX9_meanStrength_22 : decode cX9_meanStrength 22 = .ok (.dreturn, 1) := by decide +kernel
theorem dX9_meanStrength_23 : decode cX9_meanStrength 23 = .ok (.iconst 0, 1) := by decide +kernel
theorem dX9_meanStrength_24 : decode cX9_meanStrength 24 = .ok (.istore_n 1, 1) := by decide +kernel
theorem dX9_meanStrength_25 : decode cX9_meanStrength 25 = .ok (.iconst 0, 1) := by decide +kernel
theorem dX9_meanStrength_26 : decode cX9_meanStrength 26 = .ok (.istore_n 2, 1) := by decide +kernel
theorem dX9_meanStrength_27 : decode cX9_meanStrength 27 = .ok (.iload_n 2, 1) := by decide +kernel
theorem dX9_meanStrength_28 : decode cX9_meanStrength 28 = .ok (.aload_n 0, 1) := by decide +kernel
theorem dX9_meanStrength_29 : decode cX9_meanStrength 29 = .ok (.getfield 7, 3) := by decide +kernel
theorem dX9_meanStrength_32 : decode cX9_meanStrength 32 = .ok (.iconst 0, 1) := by decide +kernel
theorem dX9_meanStrength_33 : decode cX9_meanStrength 33 = .ok (.iaload, 1) := by decide +kernel
theorem dX9_meanStrength_34 : decode cX9_meanStrength 34 = .ok (.if_icmp .ge 18, 3) := by decide +kernel
theorem dX9_meanStrength_37 : decode cX9_meanStrength 37 = .ok (.iload_n 1, 1) := by decide +kernel
theorem dX9_meanStrength_38 : decode cX9_meanStrength 38 = .ok (.aload_n 0, 1) := by decide +kernel
theorem dX9_meanStrength_39 : decode cX9_meanStrength 39 = .ok (.iload_n 2, 1) := by decide +kernel
theorem dX9_meanStrength_40 : decode cX9_meanStrength 40 = .ok (.iconst 1, 1) := by decide +kernel
theorem dX9_meanStrength_41 : decode cX9_meanStrength 41 = .ok (.invokevirtual 73, 3) := by decide +kernel
theorem dX9_meanStrength_44 : decode cX9_meanStrength 44 = .ok (.iadd, 1) := by decide +kernel
theorem dX9_meanStrength_45 : decode cX9_meanStrength 45 = .ok (.istore_n 1, 1) := by decide +kernel
theorem dX9_meanStrength_46 : decode cX9_meanStrength 46 = .ok (.iinc 2 1, 3) := by decide +kernel
theorem dX9_meanStrength_49 : decode cX9_meanStrength 49 = .ok (.goto (-22), 3) := by decide +kernel
theorem dX9_meanStrength_52 : decode cX9_meanStrength 52 = .ok (.iload_n 1, 1) := by decide +kernel
theorem dX9_meanStrength_53 : decode cX9_meanStrength 53 = .ok (.i2d, 1) := by decide +kernel
theorem dX9_meanStrength_54 : decode cX9_meanStrength 54 = .ok (.aload_n 0, 1) := by decide +kernel
theorem dX9_meanStrength_55 : decode cX9_meanStrength 55 = .ok (.getfield 7, 3) := by decide +kernel
theorem dX9_meanStrength_58 : decode cX9_meanStrength 58 = .ok (.iconst 0, 1) := by decide +kernel
theorem dX9_meanStrength_59 : decode cX9_meanStrength 59 = .ok (.iaload, 1) := by decide +kernel
theorem dX9_meanStrength_60 : decode cX9_meanStrength 60 = .ok (.i2d, 1) := by decide +kernel
theorem dX9_meanStrength_61 : decode cX9_meanStrength 61 = .ok (.ddiv, 1) := by decide +kernel
theorem dX9_meanStrength_62 : decode cX9_meanStrength 62 = .ok (.dreturn, 1) := by decide +kernel
theorem dX9_openShare_0 : decode cX9_openShare 0 = .ok (.aload_n 0, 1) := by decide +kernel
theorem dX9_openShare_1 : decode cX9_openShare 1 = .ok (.aload_n 0, 1) := by decide +kernel
theorem dX9_openShare_2 : decode cX9_openShare 2 = .ok (.getfield 7, 3) := by decide +kernel
theorem dX9_openShare_5 : decode cX9_openShare 5 = .ok (.iconst 1, 1) := by decide +kernel
theorem dX9_openShare_6 : decode cX9_openShare 6 = .ok (.iaload, 1) := by decide +kernel
theorem dX9_openShare_7 : decode cX9_openShare 7 = .ok (.ifCond .ne 7, 3) := by decide +kernel
theorem dX9_openShare_10 : decode cX9_openShare 10 = .ok (.iconst 1, 1) := by decide +kernel
theorem dX9_openShare_11 : decode cX9_openShare 11 = .ok (.goto 4, 3) := by decide +kernel
theorem dX9_openShare_14 : decode cX9_openShare 14 = .ok (.iconst 0, 1) := by decide +kernel
theorem dX9_openShare_15 : decode cX9_openShare 15 = .ok (.invokevirtual 70, 3) := by decide +kernel
theorem dX9_openShare_18 : decode cX9_openShare 18 = .ok (.ifCond .eq 7, 3) := by decide +kernel
theorem dX9_openShare_21 : decode cX9_openShare 21 = .ok (.fconst 0, 1) := by decide +kernel
theorem dX9_openShare_22 : decode cX9_openShare 22 = .ok (.goto 24, 3) := by decide +kernel
theorem dX9_openShare_25 : decode cX9_openShare 25 = .ok (.aload_n 0, 1) := by decide +kernel
theorem dX9_openShare_26 : decode cX9_openShare 26 = .ok (.getfield 7, 3) := by decide +kernel
theorem dX9_openShare_29 : decode cX9_openShare 29 = .ok (.iconst 1, 1) := by decide +kernel
theorem dX9_openShare_30 : decode cX9_openShare 30 = .ok (.iaload, 1) := by decide +kernel
theorem dX9_openShare_31 : decode cX9_openShare 31 = .ok (.aload_n 0, 1) := by decide +kernel
theorem dX9_openShare_32 : decode cX9_openShare 32 = .ok (.iconst 0, 1) := by decide +kernel
theorem dX9_openShare_33 : decode cX9_openShare 33 = .ok (.invokevirtual 100, 3) := by decide +kernel
theorem dX9_openShare_36 : decode cX9_openShare 36 = .ok (.isub, 1) := by decide +kernel
theorem dX9_openShare_37 : decode cX9_openShare 37 = .ok (.i2f, 1) := by decide +kernel
theorem dX9_openShare_38 : decode cX9_openShare 38 = .ok (.aload_n 0, 1) := by decide +kernel
theorem dX9_openShare_39 : decode cX9_openShare 39 = .ok (.getfield 7, 3) := by decide +kernel
theorem dX9_openShare_42 : decode cX9_openShare 42 = .ok (.iconst 1, 1) := by decide +kernel
theorem dX9_openShare_43 : decode cX9_openShare 43 = .ok (.iaload, 1) := by decide +kernel
theorem dX9_openShare_44 : decode cX9_openShare 44 = .ok (.i2f, 1) := by decide +kernel
theorem dX9_openShare_45 : decode cX9_openShare 45 = .ok (.fdiv, 1) := by decide +kernel
theorem dX9_openShare_46 : decode cX9_openShare 46 = .ok (.freturn, 1) := by decide +kernel
theorem dX9_turnTotal_0 : decode cX9_turnTotal 0 = .ok (.aload_n 0, 1) := by decide +kernel
theorem dX9_turnTotal_1 : decode cX9_turnTotal 1 = .ok (.iconst 0, 1) := by decide +kernel
theorem dX9_turnTotal_2 : decode cX9_turnTotal 2 = .ok (.putfield 36, 3) := by decide +kernel
theorem dX9_turnTotal_5 : decode cX9_turnTotal 5 = .ok (.aload_n 0, 1) := by decide +kernel
theorem dX9_turnTotal_6 : decode cX9_turnTotal 6 = .ok (.getfield 7, 3) := by decide +kernel
theorem dX9_turnTotal_9 : decode cX9_turnTotal 9 = .ok (.iconst 2, 1) := by decide +kernel
theorem dX9_turnTotal_10 : decode cX9_turnTotal 10 = .ok (.iaload, 1) := by decide +kernel
theorem dX9_turnTotal_11 : decode cX9_turnTotal 11 = .ok (.ireturn, 1) := by decide +kernel
theorem dX9_turnsOf_0 : decode cX9_turnsOf 0 = .ok (.aload_n 0, 1) := by decide +kernel
theorem dX9_turnsOf_1 : decode cX9_turnsOf 1 = .ok (.iload_n 1, 1) := by decide +kernel
theorem dX9_turnsOf_2 : decode cX9_turnsOf 2 = .ok (.invokevirtual 93, 3) := by decide +kernel
theorem dX9_turnsOf_5 : decode cX9_turnsOf 5 = .ok (.ifCond .eq 7, 3) := by decide +kernel
theorem dX9_turnsOf_8 : decode cX9_turnsOf 8 = .ok (.iconst 0, 1) := by decide +kernel
theorem dX9_turnsOf_9 : decode cX9_turnsOf 9 = .ok (.goto 9, 3) := by decide +kernel
theorem dX9_turnsOf_12 : decode cX9_turnsOf 12 = .ok (.aload_n 0, 1) := by decide +kernel
theorem dX9_turnsOf_13 : decode cX9_turnsOf 13 = .ok (.iload_n 1, 1) := by decide +kernel
theorem dX9_turnsOf_14 : decode cX9_turnsOf 14 = .ok (.iconst 3, 1) := by decide +kernel
theorem dX9_turnsOf_15 : decode cX9_turnsOf 15 = .ok (.invokevirtual 73, 3) := by decide +kernel
theorem dX9_turnsOf_18 : decode cX9_turnsOf 18 = .ok (.ireturn, 1) := by decide +kernel
theorem dX9_moved_0 : decode cX9_moved 0 = .ok (.aload_n 0, 1) := by decide +kernel
theorem dX9_moved_1 : decode cX9_moved 1 = .ok (.iconst 0, 1) := by decide +kernel
theorem dX9_moved_2 : decode cX9_moved 2 = .ok (.putfield 36, 3) := by decide +kernel
theorem dX9_moved_5 : decode cX9_moved 5 = .ok (.aload_n 0, 1) := by decide +kernel
theorem dX9_moved_6 : decode cX9_moved 6 = .ok (.getfield 7, 3) := by decide +kernel
theorem dX9_moved_9 : decode cX9_moved 9 = .ok (.iconst 3, 1) := by decide +kernel
theorem dX9_moved_10 : decode cX9_moved 10 = .ok (.iaload, 1) := by decide +kernel
theorem dX9_moved_11 : decode cX9_moved 11 = .ok (.ireturn, 1) := by decide +kernel
theorem dX9_feed_0 : decode cX9_feed 0 = .ok (.aload_n 0, 1) := by decide +kernel
theorem dX9_feed_1 : decode cX9_feed 1 = .ok (.aload_n 0, 1) := by decide +kernel
theorem dX9_feed_2 : decode cX9_feed 2 = .ok (.getfield 160, 3) := by decide +kernel
theorem dX9_feed_5 : decode cX9_feed 5 = .ok (.bipush 60, 2) := by decide +kernel
theorem dX9_feed_7 : decode cX9_feed 7 = .ok (.if_icmp .ne 7, 3) := by decide +kernel
theorem dX9_feed_10 : decode cX9_feed 10 = .ok (.iconst 1, 1) := by decide +kernel
theorem dX9_feed_11 : decode cX9_feed 11 = .ok (.goto 4, 3) := by decide +kernel
theorem dX9_feed_14 : decode cX9_feed 14 = .ok (.iconst 0, 1) := by decide +kernel
theorem dX9_feed_15 : decode cX9_feed 15 = .ok (.invokevirtual 70, 3) := by decide +kernel
theorem dX9_feed_18 : decode cX9_feed 18 = .ok (.ifCond .eq 5, 3) := by decide +kernel
theorem dX9_feed_21 : decode cX9_feed 21 = .ok (.iconst 0, 1) := by decide +kernel
theorem dX9_feed_22 : decode cX9_feed 22 = .ok (.ireturn, 1) := by decide +kernel
theorem dX9_feed_23 : decode cX9_feed 23 = .ok (.aload_n 0, 1) := by decide +kernel
theorem dX9_feed_24 : decode cX9_feed 24 = .ok (.getfield 22, 3) := by decide +kernel
theorem dX9_feed_27 : decode cX9_feed 27 = .ok (.aload_n 0, 1) := by decide +kernel
theorem dX9_feed_28 : decode cX9_feed 28 = .ok (.getfield 160, 3) := by decide +kernel
theorem dX9_feed_31 : decode cX9_feed 31 = .ok (.iload_n 1, 1) := by decide +kernel
theorem dX9_feed_32 : decode cX9_feed 32 = .ok (.iastore, 1) := by decide +kernel
theorem dX9_feed_33 : decode cX9_feed 33 = .ok (.aload_n 0, 1) := by decide +kernel
theorem dX9_feed_34 : decode cX9_feed 34 = .ok (.dup, 1) := by decide +kernel
theorem dX9_feed_35 : decode cX9_feed 35 = .ok (.getfield 160, 3) := by decide +kernel
theorem dX9_feed_38 : decode cX9_feed 38 = .ok (.iconst 1, 1) := by decide +kernel
theorem dX9_feed_39 : decode cX9_feed 39 = .ok (.iadd, 1) := by decide +kernel
theorem dX9_feed_40 : decode cX9_feed 40 = .ok (.putfield 160, 3) := by decide +kernel
theorem dX9_feed_43 : decode cX9_feed 43 = .ok (.aload_n 0, 1) := by decide +kernel
theorem dX9_feed_44 : decode cX9_feed 44 = .ok (.getfield 160, 3) := by decide +kernel
theorem dX9_feed_47 : decode cX9_feed 47 = .ok (.ireturn, 1) := by decide +kernel
theorem dX9_here_0 : decode cX9_here 0 = .ok (.aload_n 0, 1) := by decide +kernel
theorem dX9_here_1 : decode cX9_here 1 = .ok (.getfield 163, 3) := by decide +kernel
theorem dX9_here_4 : decode cX9_here 4 = .ok (.aload_n 0, 1) := by decide +kernel
theorem dX9_here_5 : decode cX9_here 5 = .ok (.getfield 160, 3) := by decide +kernel
theorem dX9_here_8 : decode cX9_here 8 = .ok (.if_icmp .ge 15, 3) := by decide +kernel
theorem dX9_here_11 : decode cX9_here 11 = .ok (.aload_n 0, 1) := by decide +kernel
theorem dX9_here_12 : decode cX9_here 12 = .ok (.getfield 22, 3) := by decide +kernel
theorem dX9_here_15 : decode cX9_here 15 = .ok (.aload_n 0, 1) := by decide +kernel
theorem dX9_here_16 : decode cX9_here 16 = .ok (.getfield 163, 3) := by decide +kernel
theorem dX9_here_19 : decode cX9_here 19 = .ok (.iaload, 1) := by decide +kernel
theorem dX9_here_20 : decode cX9_here 20 = .ok (.goto 4, 3) := by decide +kernel
theorem dX9_here_23 : decode cX9_here 23 = .ok (.iconst (-1), 1) := by decide +kernel
theorem dX9_here_24 : decode cX9_here 24 = .ok (.ireturn, 1) := by decide +kernel
theorem dX9_skips_0 : decode cX9_skips 0 = .ok (.aload_n 0, 1) := by decide +kernel
theorem dX9_skips_1 : decode cX9_skips 1 = .ok (.invokevirtual 166, 3) := by decide +kernel
theorem dX9_skips_4 : decode cX9_skips 4 = .ok (.iload_n 1, 1) := by decide +kernel
theorem dX9_skips_5 : decode cX9_skips 5 = .ok (.if_icmp .eq 5, 3) := by decide +kernel
theorem dX9_skips_8 : decode cX9_skips 8 = .ok (.iconst 0, 1) := by decide +kernel
theorem dX9_skips_9 : decode cX9_skips 9 = .ok (.ireturn, 1) := by decide +kernel
theorem dX9_skips_10 : decode cX9_skips 10 = .ok (.aload_n 0, 1) := by decide +kernel
theorem dX9_skips_11 : decode cX9_skips 11 = .ok (.dup, 1) := by decide +kernel
theorem dX9_skips_12 : decode cX9_skips 12 = .ok (.getfield 163, 3) := by decide +kernel
theorem dX9_skips_15 : decode cX9_skips 15 = .ok (.iconst 1, 1) := by decide +kernel
theorem dX9_skips_16 : decode cX9_skips 16 = .ok (.iadd, 1) := by decide +kernel
theorem dX9_skips_17 : decode cX9_skips 17 = .ok (.putfield 163, 3) := by decide +kernel
theorem dX9_skips_20 : decode cX9_skips 20 = .ok (.iconst 1, 1) := by decide +kernel
theorem dX9_skips_21 : decode cX9_skips 21 = .ok (.ireturn, 1) := by decide +kernel
theorem dX9_isWord_0 : decode cX9_isWord 0 = .ok (.aload_n 0, 1) := by decide +kernel
theorem dX9_isWord_1 : decode cX9_isWord 1 = .ok (.getfield 33, 3) := by decide +kernel
theorem dX9_isWord_4 : decode cX9_isWord 4 = .ok (.iconst 4, 1) := by decide +kernel
theorem dX9_isWord_5 : decode cX9_isWord 5 = .ok (.aload_n 0, 1) := by decide +kernel
theorem dX9_isWord_6 : decode cX9_isWord 6 = .ok (.getfield 169, 3) := by decide +kernel

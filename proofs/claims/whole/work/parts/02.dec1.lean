theorem dX3_init_0 : decode cX3_init 0 = .ok (.aload_n 0, 1) := by decide +kernel
theorem dX3_init_1 : decode cX3_init 1 = .ok (.invokespecial 3, 3) := by decide +kernel
theorem dX3_init_4 : decode cX3_init 4 = .ok (.aload_n 0, 1) := by decide +kernel
theorem dX3_init_5 : decode cX3_init 5 = .ok (.aload_n 1, 1) := by decide +kernel
theorem dX3_init_6 : decode cX3_init 6 = .ok (.putfield 9, 3) := by decide +kernel
theorem dX3_init_9 : decode cX3_init 9 = .ok (.return_, 1) := by decide +kernel
theorem dX3_forceOn_0 : decode cX3_forceOn 0 = .ok (.fconst 0, 1) := by decide +kernel
theorem dX3_forceOn_1 : decode cX3_forceOn 1 = .ok (.fstore_n 2, 1) := by decide +kernel
theorem dX3_forceOn_2 : decode cX3_forceOn 2 = .ok (.iconst 0, 1) := by decide +kernel
theorem dX3_forceOn_3 : decode cX3_forceOn 3 = .ok (.istore_n 3, 1) := by decide +kernel
theorem dX3_forceOn_4 : decode cX3_forceOn 4 = .ok (.iload_n 3, 1) := by decide +kernel
theorem dX3_forceOn_5 : decode cX3_forceOn 5 = .ok (.aload_n 0, 1) := by decide +kernel
theorem dX3_forceOn_6 : decode cX3_forceOn 6 = .ok (.getfield 9, 3) := by decide +kernel
theorem dX3_forceOn_9 : decode cX3_forceOn 9 = .ok (.getfield 15, 3) := by decide +kernel
theorem dX3_forceOn_12 : decode cX3_forceOn 12 = .ok (.if_icmp .ge 135, 3) := by decide +kernel
theorem dX3_forceOn_15 : decode cX3_forceOn 15 = .ok (.aload_n 0, 1) := by decide +kernel
theorem dX3_forceOn_16 : decode cX3_forceOn 16 = .ok (.getfield 9, 3) := by decide +kernel
theorem dX3_forceOn_19 : decode cX3_forceOn 19 = .ok (.getfield 21, 3) := by decide +kernel
theorem dX3_forceOn_22 : decode cX3_forceOn 22 = .ok (.iload_n 1, 1) := by decide +kernel
theorem dX3_forceOn_23 : decode cX3_forceOn 23 = .ok (.iaload, 1) := by decide +kernel
theorem dX3_forceOn_24 : decode cX3_forceOn 24 = .ok (.aload_n 0, 1) := by decide +kernel
theorem dX3_forceOn_25 : decode cX3_forceOn 25 = .ok (.getfield 9, 3) := by decide +kernel
theorem dX3_forceOn_28 : decode cX3_forceOn 28 = .ok (.getfield 21, 3) := by decide +kernel
theorem dX3_forceOn_31 : decode cX3_forceOn 31 = .ok (.iload_n 3, 1) := by decide +kernel
theorem dX3_forceOn_32 : decode cX3_forceOn 32 = .ok (.iaload, 1) := by decide +kernel
theorem dX3_forceOn_33 : decode cX3_forceOn 33 = .ok (.isub, 1) := by decide +kernel
theorem dX3_forceOn_34 : decode cX3_forceOn 34 = .ok (.istore 4, 2) := by decide +kernel
theorem dX3_forceOn_36 : decode cX3_forceOn 36 = .ok (.iload 4, 2) := by decide +kernel
theorem dX3_forceOn_38 : decode cX3_forceOn 38 = .ok (.ifCond .eq 103, 3) := by decide +kernel
theorem dX3_forceOn_41 : decode cX3_forceOn 41 = .ok (.aload_n 0, 1) := by decide +kernel
theorem dX3_forceOn_42 : decode cX3_forceOn 42 = .ok (.getfield 9, 3) := by decide +kernel
theorem dX3_forceOn_45 : decode cX3_forceOn 45 = .ok (.getfield 25, 3) := by decide +kernel
theorem dX3_forceOn_48 : decode cX3_forceOn 48 = .ok (.iload_n 1, 1) := by decide +kernel
theorem dX3_forceOn_49 : decode cX3_forceOn 49 = .ok (.iaload, 1) := by decide +kernel
theorem dX3_forceOn_50 : decode cX3_forceOn 50 = .ok (.aload_n 0, 1) := by decide +kernel
theorem dX3_forceOn_51 : decode cX3_forceOn 51 = .ok (.getfield 9, 3) := by decide +kernel
theorem dX3_forceOn_54 : decode cX3_forceOn 54 = .ok (.getfield 25, 3) := by decide +kernel
theorem dX3_forceOn_57 : decode cX3_forceOn 57 = .ok (.iload_n 3, 1) := by decide +kernel
theorem dX3_forceOn_58 : decode cX3_forceOn 58 = .ok (.iaload, 1) := by decide +kernel
theorem dX3_forceOn_59 : decode cX3_forceOn 59 = .ok (.imul, 1) := by decide +kernel
theorem dX3_forceOn_60 : decode cX3_forceOn 60 = .ok (.i2f, 1) := by decide +kernel
theorem dX3_forceOn_61 : decode cX3_forceOn 61 = .ok (.iload 4, 2) := by decide +kernel
theorem dX3_forceOn_63 : decode cX3_forceOn 63 = .ok (.iload 4, 2) := by decide +kernel
theorem dX3_forceOn_65 : decode cX3_forceOn 65 = .ok (.imul, 1) := by decide +kernel
theorem dX3_forceOn_66 : decode cX3_forceOn 66 = .ok (.i2f, 1) := by decide +kernel
theorem dX3_forceOn_67 : decode cX3_forceOn 67 = .ok (.fdiv, 1) := by decide +kernel
theorem dX3_forceOn_68 : decode cX3_forceOn 68 = .ok (.fstore 5, 2) := by decide +kernel
theorem dX3_forceOn_70 : decode cX3_forceOn 70 = .ok (.aload_n 0, 1) := by decide +kernel
theorem dX3_forceOn_71 : decode cX3_forceOn 71 = .ok (.getfield 9, 3) := by decide +kernel
theorem dX3_forceOn_74 : decode cX3_forceOn 74 = .ok (.getfield 28, 3) := by decide +kernel
theorem dX3_forceOn_77 : decode cX3_forceOn 77 = .ok (.iload_n 1, 1) := by decide +kernel
theorem dX3_forceOn_78 : decode cX3_forceOn 78 = .ok (.invokestatic 31, 3) := by decide +kernel
theorem dX3_forceOn_81 : decode cX3_forceOn 81 = .ok (.aload_n 0, 1) := by decide +kernel
theorem dX3_forceOn_82 : decode cX3_forceOn 82 = .ok (.getfield 9, 3) := by decide +kernel
theorem dX3_forceOn_85 : decode cX3_forceOn 85 = .ok (.getfield 28, 3) := by decide +kernel
theorem dX3_forceOn_88 : decode cX3_forceOn 88 = .ok (.iload_n 3, 1) := by decide +kernel
theorem dX3_forceOn_89 : decode cX3_forceOn 89 = .ok (.invokestatic 31, 3) := by decide +kernel
theorem dX3_forceOn_92 : decode cX3_forceOn 92 = .ok (.if_icmp .ne 7, 3) := by decide +kernel
theorem dX3_forceOn_95 : decode cX3_forceOn 95 = .ok (.iconst 1, 1) := by decide +kernel
theorem dX3_forceOn_96 : decode cX3_forceOn 96 = .ok (.goto 4, 3) := by decide +kernel
theorem dX3_forceOn_99 : decode cX3_forceOn 99 = .ok (.iconst 0, 1) := by decide +kernel
theorem dX3_forceOn_100 : decode cX3_forceOn 100 = .ok (.istore 6, 2) := by decide +kernel
theorem dX3_forceOn_102 : decode cX3_forceOn 102 = .ok (.iload 6, 2) := by decide +kernel
theorem dX3_forceOn_104 : decode cX3_forceOn 104 = .ok (.iload 4, 2) := by decide +kernel
theorem dX3_forceOn_106 : decode cX3_forceOn 106 = .ok (.ifCond .le 7, 3) := by decide +kernel
theorem dX3_forceOn_109 : decode cX3_forceOn 109 = .ok (.iconst 1, 1) := by decide +kernel
theorem dX3_forceOn_110 : decode cX3_forceOn 110 = .ok (.goto 4, 3) := by decide +kernel
theorem dX3_forceOn_113 : decode cX3_forceOn 113 = .ok (.iconst 0, 1) := by decide +kernel
theorem dX3_forceOn_114 : decode cX3_forceOn 114 = .ok (.if_icmp .ne 7, 3) := by decide +kernel
theorem dX3_forceOn_117 : decode cX3_forceOn 117 = .ok (.iconst 1, 1) := by decide +kernel
theorem dX3_forceOn_118 : decode cX3_forceOn 118 = .ok (.goto 4, 3) := by decide +kernel
theorem dX3_forceOn_121 : decode cX3_forceOn 121 = .ok (.iconst 0, 1) := by decide +kernel
theorem dX3_forceOn_122 : decode cX3_forceOn 122 = .ok (.istore 7, 2) := by decide +kernel
theorem dX3_forceOn_124 : decode cX3_forceOn 124 = .ok (.iload 7, 2) := by decide +kernel
theorem dX3_forceOn_126 : decode cX3_forceOn 126 = .ok (.ifCond .eq 10, 3) := by decide +kernel
theorem dX3_forceOn_129 : decode cX3_forceOn 129 = .ok (.fload_n 2, 1) := by decide +kernel
theorem dX3_forceOn_130 : decode cX3_forceOn 130 = .ok (.fload 5, 2) := by decide +kernel
theorem dX3_forceOn_132 : decode cX3_forceOn 132 = .ok (.fadd, 1) := by decide +kernel
theorem dX3_forceOn_133 : decode cX3_forceOn 133 = .ok (.goto 7, 3) := by decide +kernel
theorem dX3_forceOn_136 : decode cX3_forceOn 136 = .ok (.fload_n 2, 1) := by decide +kernel
theorem dX3_forceOn_137 : decode cX3_forceOn 137 = .ok (.fload 5, 2) := by decide +kernel
theorem dX3_forceOn_139 : decode cX3_forceOn 139 = .ok (.fsub, 1) := by decide +kernel
theorem dX3_forceOn_140 : decode cX3_forceOn 140 = .ok (.fstore_n 2, 1) := by decide +kernel
theorem dX3_forceOn_141 : decode cX3_forceOn 141 = .ok (.iinc 3 1, 3) := by decide +kernel
theorem dX3_forceOn_144 : decode cX3_forceOn 144 = .ok (.goto (-140), 3) := by decide +kernel
theorem dX3_forceOn_147 : decode cX3_forceOn 147 = .ok (.fload_n 2, 1) := by decide +kernel
theorem dX3_forceOn_148 : decode cX3_forceOn 148 = .ok (.freturn, 1) := by decide +kernel
theorem dX3_moveEach_0 : decode cX3_moveEach 0 = .ok (.iconst 0, 1) := by decide +kernel
theorem dX3_moveEach_1 : decode cX3_moveEach 1 = .ok (.istore_n 1, 1) := by decide +kernel
theorem dX3_moveEach_2 : decode cX3_moveEach 2 = .ok (.iconst 0, 1) := by decide +kernel
theorem dX3_moveEach_3 : decode cX3_moveEach 3 = .ok (.istore_n 2, 1) := by decide +kernel
theorem dX3_moveEach_4 : decode cX3_moveEach 4 = .ok (.iload_n 2, 1) := by decide +kernel
theorem dX3_moveEach_5 : decode cX3_moveEach 5 = .ok (.aload_n 0, 1) := by decide +kernel
theorem dX3_moveEach_6 : decode cX3_moveEach 6 = .ok (.getfield 9, 3) := by decide +kernel
theorem dX3_moveEach_9 : decode cX3_moveEach 9 = .ok (.getfield 15, 3) := by decide +kernel
theorem dX3_moveEach_12 : decode cX3_moveEach 12 = .ok (.if_icmp .ge 41, 3) := by decide +kernel
theorem dX3_moveEach_15 : decode cX3_moveEach 15 = .ok (.aload_n 0, 1) := by decide +kernel
theorem dX3_moveEach_16 : decode cX3_moveEach 16 = .ok (.iload_n 2, 1) := by decide +kernel
theorem dX3_moveEach_17 : decode cX3_moveEach 17 = .ok (.invokevirtual 35, 3) := by decide +kernel
theorem dX3_moveEach_20 : decode cX3_moveEach 20 = .ok (.istore_n 3, 1) := by decide +kernel
theorem dX3_moveEach_21 : decode cX3_moveEach 21 = .ok (.iload_n 3, 1) := by decide +kernel
theorem dX3_moveEach_22 : decode cX3_moveEach 22 = .ok (.aload_n 0, 1) := by decide +kernel
theorem dX3_moveEach_23 : decode cX3_moveEach 23 = .ok (.getfield 9, 3) := by decide +kernel
theorem dX3_moveEach_26 : decode cX3_moveEach 26 = .ok (.getfield 21, 3) := by decide +kernel
theorem dX3_moveEach_29 : decode cX3_moveEach 29 = .ok (.iload_n 2, 1) := by decide +kernel
theorem dX3_moveEach_30 : decode cX3_moveEach 30 = .ok (.iaload, 1) := by decide +kernel
theorem dX3_moveEach_31 : decode cX3_moveEach 31 = .ok (.if_icmp .eq 16, 3) := by decide +kernel
theorem dX3_moveEach_34 : decode cX3_moveEach 34 = .ok (.aload_n 0, 1) := by decide +kernel
theorem dX3_moveEach_35 : decode cX3_moveEach 35 = .ok (.getfield 9, 3) := by decide +kernel
theorem dX3_moveEach_38 : decode cX3_moveEach 38 = .ok (.getfield 21, 3) := by decide +kernel
theorem dX3_moveEach_41 : decode cX3_moveEach 41 = .ok (.iload_n 2, 1) := by decide +kernel
theorem dX3_moveEach_42 : decode cX3_moveEach 42 = .ok (.iload_n 3, 1) := by decide +kernel
theorem dX3_moveEach_43 : decode cX3_moveEach 43 = .ok (.iastore, 1) := by decide +kernel
theorem dX3_moveEach_44 : decode cX3_moveEach 44 = .ok (.iinc 1 1, 3) := by decide +kernel
theorem dX3_moveEach_47 : decode cX3_moveEach 47 = .ok (.iinc 2 1, 3) := by decide +kernel
theorem dX3_moveEach_50 : decode cX3_moveEach 50 = .ok (.goto (-46), 3) := by decide +kernel
theorem dX3_moveEach_53 : decode cX3_moveEach 53 = .ok (.aload_n 0, 1) := by decide +kernel
theorem dX3_moveEach_54 : decode cX3_moveEach 54 = .ok (.getfield 9, 3) := by decide +kernel
theorem dX3_moveEach_57 : decode cX3_moveEach 57 = .ok (.dup, 1) := by decide +kernel
theorem dX3_moveEach_58 : decode cX3_moveEach 58 = .ok (.getfield 39, 3) := by decide +kernel
theorem dX3_moveEach_61 : decode cX3_moveEach 61 = .ok (.iload_n 1, 1) := by decide +kernel
theorem dX3_moveEach_62 : decode cX3_moveEach 62 = .ok (.iadd, 1) := by decide +kernel
theorem dX3_moveEach_63 : decode cX3_moveEach 63 = .ok (.putfield 39, 3) := by decide +kernel
theorem dX3_moveEach_66 : decode cX3_moveEach 66 = .ok (.iload_n 1, 1) := by decide +kernel
theorem dX3_moveEach_67 : decode cX3_moveEach 67 = .ok (.ireturn, 1) := by decide +kernel
theorem dX3_targetOf_0 : decode cX3_targetOf 0 = .ok (.aload_n 0, 1) := by decide +kernel
theorem dX3_targetOf_1 : decode cX3_targetOf 1 = .ok (.getfield 9, 3) := by decide +kernel
theorem dX3_targetOf_4 : decode cX3_targetOf 4 = .ok (.getfield 21, 3) := by decide +kernel
theorem dX3_targetOf_7 : decode cX3_targetOf 7 = .ok (.iload_n 1, 1) := by decide +kernel
theorem dX3_targetOf_8 : decode cX3_targetOf 8 = .ok (.iaload, 1) := by decide +kernel
theorem dX3_targetOf_9 : decode cX3_targetOf 9 = .ok (.istore_n 2, 1) := by decide +kernel
theorem dX3_targetOf_10 : decode cX3_targetOf 10 = .ok (.aload_n 0, 1) := by decide +kernel
theorem dX3_targetOf_11 : decode cX3_targetOf 11 = .ok (.iload_n 1, 1) := by decide +kernel
theorem dX3_targetOf_12 : decode cX3_targetOf 12 = .ok (.invokevirtual 42, 3) := by decide +kernel
theorem dX3_targetOf_15 : decode cX3_targetOf 15 = .ok (.fstore_n 3, 1) := by decide +kernel
theorem dX3_targetOf_16 : decode cX3_targetOf 16 = .ok (.iload_n 2, 1) := by decide +kernel
theorem dX3_targetOf_17 : decode cX3_targetOf 17 = .ok (.istore 4, 2) := by decide +kernel
theorem dX3_targetOf_19 : decode cX3_targetOf 19 = .ok (.fload_n 3, 1) := by decide +kernel
theorem dX3_targetOf_20 : decode cX3_targetOf 20 = .ok (.fconst 0, 1) := by decide +kernel
theorem dX3_targetOf_21 : decode cX3_targetOf 21 = .ok (.fcmp .l, 1) := by decide +kernel
theorem dX3_targetOf_22 : decode cX3_targetOf 22 = .ok (.ifCond .le 11, 3) := by decide +kernel
theorem dX3_targetOf_25 : decode cX3_targetOf 25 = .ok (.iload_n 2, 1) := by decide +kernel
theorem dX3_targetOf_26 : decode cX3_targetOf 26 = .ok (.iconst 1, 1) := by decide +kernel
theorem dX3_targetOf_27 : decode cX3_targetOf 27 = .ok (.iadd, 1) := by decide +kernel
theorem dX3_targetOf_28 : decode cX3_targetOf 28 = .ok (.istore 4, 2) := by decide +kernel
theorem dX3_targetOf_30 : decode cX3_targetOf 30 = .ok (.goto 14, 3) := by decide +kernel
theorem dX3_targetOf_33 : decode cX3_targetOf 33 = .ok (.fload_n 3, 1) := by decide +kernel
theorem dX3_targetOf_34 : decode cX3_targetOf 34 = .ok (.fconst 0, 1) := by decide +kernel
theorem dX3_targetOf_35 : decode cX3_targetOf 35 = .ok (.fcmp .g, 1) := by decide +kernel
theorem dX3_targetOf_36 : decode cX3_targetOf 36 = .ok (.ifCond .ge 8, 3) := by decide +kernel
theorem dX3_targetOf_39 : decode cX3_targetOf 39 = .ok (.iload_n 2, 1) := by decide +kernel
theorem dX3_targetOf_40 : decode cX3_targetOf 40 = .ok (.iconst 1, 1) := by decide +kernel
theorem dX3_targetOf_41 : decode cX3_targetOf 41 = .ok (.isub, 1) := by decide +kernel
theorem dX3_targetOf_42 : decode cX3_targetOf 42 = .ok (.istore 4, 2) := by decide +kernel
theorem dX3_targetOf_44 : decode cX3_targetOf 44 = .ok (.iload 4, 2) := by decide +kernel
theorem dX3_targetOf_46 : decode cX3_targetOf 46 = .ok (.invokestatic 46, 3) := by decide +kernel
theorem dX3_targetOf_49 : decode cX3_targetOf 49 = .ok (.ifCond .eq 21, 3) := by decide +kernel
theorem dX3_targetOf_52 : decode cX3_targetOf 52 = .ok (.aload_n 0, 1) := by decide +kernel
theorem dX3_targetOf_53 : decode cX3_targetOf 53 = .ok (.getfield 9, 3) := by decide +kernel
theorem dX3_targetOf_56 : decode cX3_targetOf 56 = .ok (.iload 4, 2) := by decide +kernel
theorem dX3_targetOf_58 : decode cX3_targetOf 58 = .ok (.invokevirtual 50, 3) := by decide +kernel
theorem dX3_targetOf_61 : decode cX3_targetOf 61 = .ok (.iconst (-1), 1) := by decide +kernel
theorem dX3_targetOf_62 : decode cX3_targetOf 62 = .ok (.if_icmp .ne 8, 3) := by decide +kernel
theorem dX3_targetOf_65 : decode cX3_targetOf 65 = .ok (.iload 4, 2) := by decide +kernel
theorem dX3_targetOf_67 : decode cX3_targetOf 67 = .ok (.goto 4, 3) := by decide +kernel
theorem dX3_targetOf_70 : decode cX3_targetOf 70 = .ok (.iload_n 2, 1) := by decide +kernel
theorem dX3_targetOf_71 : decode cX3_targetOf 71 = .ok (.ireturn, 1) := by decide +kernel
theorem dX3_fieldAt_0 : decode cX3_fieldAt 0 = .ok (.dconst 0, 1) := by decide +kernel
theorem dX3_fieldAt_1 : decode cX3_fieldAt 1 = .ok (.dstore_n 2, 1) := by decide +kernel
theorem dX3_fieldAt_2 : decode cX3_fieldAt 2 = .ok (.iconst 0, 1) := by decide +kernel
theorem dX3_fieldAt_3 : decode cX3_fieldAt 3 = .ok (.istore 4, 2) := by decide +kernel
theorem dX3_fieldAt_5 : decode cX3_fieldAt 5 = .ok (.iload 4, 2) := by decide +kernel
theorem dX3_fieldAt_7 : decode cX3_fieldAt 7 = .ok (.aload_n 0, 1) := by decide +kernel
theorem dX3_fieldAt_8 : decode cX3_fieldAt 8 = .ok (.getfield 9, 3) := by decide +kernel
theorem dX3_fieldAt_11 : decode cX3_fieldAt 11 = .ok (.getfield 15, 3) := by decide +kernel
theorem dX3_fieldAt_14 : decode cX3_fieldAt 14 = .ok (.if_icmp .ge 72, 3) := by decide +kernel
theorem dX3_fieldAt_17 : decode cX3_fieldAt 17 = .ok (.iload_n 1, 1) := by decide +kernel
theorem dX3_fieldAt_18 : decode cX3_fieldAt 18 = .ok (.aload_n 0, 1) := by decide +kernel
theorem dX3_fieldAt_19 : decode cX3_fieldAt 19 = .ok (.getfield 9, 3) := by decide +kernel
theorem dX3_fieldAt_22 : decode cX3_fieldAt 22 = .ok (.getfield 21, 3) := by decide +kernel
theorem dX3_fieldAt_25 : decode cX3_fieldAt 25 = .ok (.iload 4, 2) := by decide +kernel
theorem dX3_fieldAt_27 : decode cX3_fieldAt 27 = .ok (.iaload, 1) := by decide +kernel
theorem dX3_fieldAt_28 : decode cX3_fieldAt 28 = .ok (.isub, 1) := by decide +kernel
theorem dX3_fieldAt_29 : decode cX3_fieldAt 29 = .ok (.invokestatic 53, 3) := by decide +kernel
theorem dX3_fieldAt_32 : decode cX3_fieldAt 32 = .ok (.istore 5, 2) := by decide +kernel
theorem dX3_fieldAt_34 : decode cX3_fieldAt 34 = .ok (.aload_n 0, 1) := by decide +kernel
theorem dX3_fieldAt_35 : decode cX3_fieldAt 35 = .ok (.getfield 9, 3) := by decide +kernel
theorem dX3_fieldAt_38 : decode cX3_fieldAt 38 = .ok (.getfield 25, 3) := by decide +kernel
theorem dX3_fieldAt_41 : decode cX3_fieldAt 41 = .ok (.iload 4, 2) := by decide +kernel
theorem dX3_fieldAt_43 : decode cX3_fieldAt 43 = .ok (.iaload, 1) := by decide +kernel
theorem dX3_fieldAt_44 : decode cX3_fieldAt 44 = .ok (.i2d, 1) := by decide +kernel
theorem dX3_fieldAt_45 : decode cX3_fieldAt 45 = .ok (.iconst 1, 1) := by decide +kernel
theorem dX3_fieldAt_46 : decode cX3_fieldAt 46 = .ok (.iload 5, 2) := by decide +kernel
theorem dX3_fieldAt_48 : decode cX3_fieldAt 48 = .ok (.iadd, 1) := by decide +kernel
theorem dX3_fieldAt_49 : decode cX3_fieldAt 49 = .ok (.i2d, 1) := by decide +kernel
theorem dX3_fieldAt_50 : decode cX3_fieldAt 50 = .ok (.ddiv, 1) := by decide +kernel
theorem dX3_fieldAt_51 : decode cX3_fieldAt 51 = .ok (.dstore 6, 2) := by decide +kernel
theorem dX3_fieldAt_53 : decode cX3_fieldAt 53 = .ok (.aload_n 0, 1) := by decide +kernel
theorem dX3_fieldAt_54 : decode cX3_fieldAt 54 = .ok (.getfield 9, 3) := by decide +kernel
theorem dX3_fieldAt_57 : decode cX3_fieldAt 57 = .ok (.getfield 28, 3) := by decide +kernel
theorem dX3_fieldAt_60 : decode cX3_fieldAt 60 = .ok (.iload 4, 2) := by decide +kernel
theorem dX3_fieldAt_62 : decode cX3_fieldAt 62 = .ok (.invokestatic 31, 3) := by decide +kernel
theorem dX3_fieldAt_65 : decode cX3_fieldAt 65 = .ok (.ifCond .eq 10, 3) := by decide +kernel
theorem dX3_fieldAt_68 : decode cX3_fieldAt 68 = .ok (.dload_n 2, 1) := by decide +kernel
theorem dX3_fieldAt_69 : decode cX3_fieldAt 69 = .ok (.dload 6, 2) := by decide +kernel
theorem dX3_fieldAt_71 : decode cX3_fieldAt 71 = .ok (.dadd, 1) := by decide +kernel
theorem dX3_fieldAt_72 : decode cX3_fieldAt 72 = .ok (.goto 7, 3) := by decide +kernel
theorem dX3_fieldAt_75 : decode cX3_fieldAt 75 = .ok (.dload_n 2, 1) := by decide +kernel
theorem dX3_fieldAt_76 : decode cX3_fieldAt 76 = .ok (.dload 6, 2) := by decide +kernel
theorem dX3_fieldAt_78 : decode cX3_fieldAt 78 = .ok (.dsub, 1) := by decide +kernel
theorem dX3_fieldAt_79 : decode cX3_fieldAt 79 = .ok (.dstore_n 2, 1) := by decide +kernel
theorem dX3_fieldAt_80 : decode cX3_fieldAt 80 = .ok (.iinc 4 1, 3) := by decide +kernel
theorem dX3_fieldAt_83 : decode cX3_fieldAt 83 = .ok (.goto (-78), 3) := by decide +kernel
theorem dX3_fieldAt_86 : decode cX3_fieldAt 86 = .ok (.dload_n 2, 1) := by decide +kernel
theorem dX3_fieldAt_87 : decode cX3_fieldAt 87 = .ok (.dreturn, 1) := by decide +kernel
theorem dX3_unsignedFieldAt_0 : decode cX3_unsignedFieldAt 0 = .ok (.aload_n 0, 1) := by decide +kernel
theorem dX3_unsignedFieldAt_1 : decode cX3_unsignedFieldAt 1 = .ok (.iload_n 1, 1) := by decide +kernel
theorem dX3_unsignedFieldAt_2 : decode cX3_unsignedFieldAt 2 = .ok (.invokevirtual 58, 3) := by decide +kernel
theorem dX3_unsignedFieldAt_5 : decode cX3_unsignedFieldAt 5 = .ok (.dstore_n 2, 1) := by decide +kernel
theorem dX3_unsignedFieldAt_6 : decode cX3_unsignedFieldAt 6 = .ok (.dload_n 2, 1) := by decide +kernel
theorem dX3_unsignedFieldAt_7 : decode cX3_unsignedFieldAt 7 = .ok (.dconst 0, 1) := by decide +kernel
theorem dX3_unsignedFieldAt_8 : decode cX3_unsignedFieldAt 8 = .ok (.dcmp .g, 1) := by decide +kernel
theorem dX3_unsignedFieldAt_9 : decode cX3_unsignedFieldAt 9 = .ok (.ifCond .ge 8, 3) := by decide +kernel
theorem dX3_unsignedFieldAt_12 : decode cX3_unsignedFieldAt 12 = .ok (.dload_n 2, 1) := by decide +kernel
theorem dX3_unsignedFieldAt_13 : decode cX3_unsignedFieldAt 13 = .ok (.dneg, 1) := by decide +kernel
theorem dX3_unsignedFieldAt_14 : decode cX3_unsignedFieldAt 14 = .ok (.goto 4, 3) := by decide +kernel
theorem dX3_unsignedFieldAt_17 : decode cX3_unsignedFieldAt 17 = .ok (.dload_n 2, 1) := by decide +kernel
theorem dX3_unsignedFieldAt_18 : decode cX3_unsignedFieldAt 18 = .ok (.dreturn, 1) := by decide +kernel
theorem dX3_positionOfStrongestField_0 : decode cX3_positionOfStrongestField 0 = .ok (.aload_n 0, 1) := by decide +kernel
theorem dX3_positionOfStrongestField_1 : decode cX3_positionOfStrongestField 1 = .ok (.getfield 9, 3) := by decide +kernel
theorem dX3_positionOfStrongestField_4 : decode cX3_positionOfStrongestField 4 = .ok (.getfield 15, 3) := by decide +kernel
theorem dX3_positionOfStrongestField_7 : decode cX3_positionOfStrongestField 7 = .ok (.ifCond .ne 5, 3) := by decide +kernel
theorem dX3_positionOfStrongestField_10 : decode cX3_positionOfStrongestField 10 = .ok (.iconst (-1), 1) := by decide +kernel
theorem dX3_positionOfStrongestField_11 : decode cX3_positionOfStrongestField 11 = .ok (.ireturn, 1) := by decide +kernel
theorem dX3_positionOfStrongestField_12 : decode cX3_positionOfStrongestField 12 = .ok (.iconst 0, 1) := by decide +kernel
theorem dX3_positionOfStrongestField_13 : decode cX3_positionOfStrongestField 13 = .ok (.istore_n 1, 1) := by decide +kernel
theorem dX3_positionOfStrongestField_14 : decode cX3_positionOfStrongestField 14 = .ok (.aload_n 0, 1) := by decide +kernel
theorem dX3_positionOfStrongestField_15 : decode cX3_positionOfStrongestField 15 = .ok (.iconst 0, 1) := by decide +kernel
theorem dX3_positionOfStrongestField_16 : decode cX3_positionOfStrongestField 16 = .ok (.invokevirtual 62, 3) := by decide +kernel
theorem dX3_positionOfStrongestField_19 : decode cX3_positionOfStrongestField 19 = .ok (.dstore_n 2, 1) := by decide +kernel
theorem dX3_positionOfStrongestField_20 : decode cX3_positionOfStrongestField 20 = .ok (.iconst 1, 1) := by decide +kernel
theorem dX3_positionOfStrongestField_21 : decode cX3_positionOfStrongestField 21 = .ok (.istore 4, 2) := by decide +kernel
theorem dX3_positionOfStrongestField_23 : decode cX3_positionOfStrongestField 23 = .ok (.iload 4, 2) := by decide +kernel
theorem dX3_positionOfStrongestField_25 : decode cX3_positionOfStrongestField 25 = .ok (.bipush 100, 2) := by decide +kernel
theorem dX3_positionOfStrongestField_27 : decode cX3_positionOfStrongestField 27 = .ok (.if_icmp .ge 30, 3) := by decide +kernel
theorem dX3_positionOfStrongestField_30 : decode cX3_positionOfStrongestField 30 = .ok (.aload_n 0, 1) := by decide +kernel
theorem dX3_positionOfStrongestField_31 : decode cX3_positionOfStrongestField 31 = .ok (.iload 4, 2) := by decide +kernel
theorem dX3_positionOfStrongestField_33 : decode cX3_positionOfStrongestField 33 = .ok (.invokevirtual 62, 3) := by decide +kernel
theorem dX3_positionOfStrongestField_36 : decode cX3_positionOfStrongestField 36 = .ok (.dstore 5, 2) := by decide +kernel
theorem dX3_positionOfStrongestField_38 : decode cX3_positionOfStrongestField 38 = .ok (.dload 5, 2) := by decide +kernel
theorem dX3_positionOfStrongestField_40 : decode cX3_positionOfStrongestField 40 = .ok (.dload_n 2, 1) := by decide +kernel
theorem dX3_positionOfStrongestField_41 : decode cX3_positionOfStrongestField 41 = .ok (.dcmp .l, 1) := by decide +kernel
theorem dX3_positionOfStrongestField_42 : decode cX3_positionOfStrongestField 42 = .ok (.ifCond .le 9, 3) := by decide +kernel
theorem dX3_positionOfStrongestField_45 : decode cX3_positionOfStrongestField 45 = .ok (.iload 4, 2) := by decide +kernel
theorem dX3_positionOfStrongestField_47 : decode cX3_positionOfStrongestField 47 = .ok (.istore_n 1, 1) := by decide +kernel
theorem dX3_positionOfStrongestField_48 : decode cX3_positionOfStrongestField 48 = .ok (.dload 5, 2) := by decide +kernel
theorem dX3_positionOfStrongestField_50 : decode cX3_positionOfStrongestField 50 = .ok (.dstore_n 2, 1) := by decide +kernel
theorem dX3_positionOfStrongestField_51 : decode cX3_positionOfStrongestField 51 = .ok (.iinc 4 1, 3) := by decide +kernel
theorem dX3_positionOfStrongestField_54 : decode cX3_positionOfStrongestField 54 = .ok (.goto (-31), 3) := by decide +kernel
theorem dX3_positionOfStrongestField_57 : decode cX3_positionOfStrongestField 57 = .ok (.iload_n 1, 1) := by decide +kernel
theorem dX3_positionOfStrongestField_58 : decode cX3_positionOfStrongestField 58 = .ok (.ireturn, 1) := by decide +kernel
theorem dX3_magnetInStrongestField_0 : decode cX3_magnetInStrongestField 0 = .ok (.iconst (-1), 1) := by decide +kernel
theorem dX3_magnetInStrongestField_1 : decode cX3_magnetInStrongestField 1 = .ok (.istore_n 1, 1) := by decide +kernel
theorem dX3_magnetInStrongestField_2 : decode cX3_magnetInStrongestField 2 = .ok (.dconst 0, 1) := by decide +kernel
theorem dX3_magnetInStrongestField_3 : decode cX3_magnetInStrongestField 3 = .ok (.dstore_n 2, 1) := by decide +kernel
theorem dX3_magnetInStrongestField_4 : decode cX3_magnetInStrongestField 4 = .ok (.iconst 0, 1) := by decide +kernel
theorem dX3_magnetInStrongestField_5 : decode cX3_magnetInStrongestField 5 = .ok (.istore 4, 2) := by decide +kernel
theorem dX3_magnetInStrongestField_7 : decode cX3_magnetInStrongestField 7 = .ok (.iload 4, 2) := by decide +kernel
theorem dX3_magnetInStrongestField_9 : decode cX3_magnetInStrongestField 9 = .ok (.aload_n 0, 1) := by decide +kernel
theorem dX3_magnetInStrongestField_10 : decode cX3_magnetInStrongestField 10 = .ok (.getfield 9, 3) := by decide +kernel
theorem dX3_magnetInStrongestField_13 : decode cX3_magnetInStrongestField 13 = .ok (.getfield 15, 3) := by decide +kernel
theorem dX3_magnetInStrongestField_16 : decode cX3_magnetInStrongestField 16 = .ok (.if_icmp .ge 43, 3) := by decide +kernel
theorem dX3_magnetInStrongestField_19 : decode cX3_magnetInStrongestField 19 = .ok (.aload_n 0, 1) := by decide +kernel
theorem dX3_magnetInStrongestField_20 : decode cX3_magnetInStrongestField 20 = .ok (.aload_n 0, 1) := by decide +kernel
theorem dX3_magnetInStrongestField_21 : decode cX3_magnetInStrongestField 21 = .ok (.getfield 9, 3) := by decide +kernel
theorem dX3_magnetInStrongestField_24 : decode cX3_magnetInStrongestField 24 = .ok (.getfield 21, 3) := by decide +kernel
theorem dX3_magnetInStrongestField_27 : decode cX3_magnetInStrongestField 27 = .ok (.iload 4, 2) := by decide +kernel
theorem dX3_magnetInStrongestField_29 : decode cX3_magnetInStrongestField 29 = .ok (.iaload, 1) := by decide +kernel
theorem dX3_magnetInStrongestField_30 : decode cX3_magnetInStrongestField 30 = .ok (.invokevirtual 62, 3) := by decide +kernel
theorem dX3_magnetInStrongestField_33 : decode cX3_magnetInStrongestField 33 = .ok (.dstore 5, 2) := by decide +kernel
theorem dX3_magnetInStrongestField_35 : decode cX3_magnetInStrongestField 35 = .ok (.iload_n 1, 1) := by decide +kernel
theorem dX3_magnetInStrongestField_36 : decode cX3_magnetInStrongestField 36 = .ok (.iconst (-1), 1) := by decide +kernel
theorem dX3_magnetInStrongestField_37 : decode cX3_magnetInStrongestField 37 = .ok (.if_icmp .eq 10, 3) := by decide +kernel
theorem dX3_magnetInStrongestField_40 : decode cX3_magnetInStrongestField 40 = .ok (.dload 5, 2) := by decide +kernel
theorem dX3_magnetInStrongestField_42 : decode cX3_magnetInStrongestField 42 = .ok (.dload_n 2, 1) := by decide +kernel
theorem dX3_magnetInStrongestField_43 : decode cX3_magnetInStrongestField 43 = .ok (.dcmp .l, 1) := by decide +kernel
theorem dX3_magnetInStrongestField_44 : decode cX3_magnetInStrongestField 44 = .ok (.ifCond .le 9, 3) := by decide +kernel
theorem dX3_magnetInStrongestField_47 : decode cX3_magnetInStrongestField 47 = .ok (.iload 4, 2) := by decide +kernel
theorem dX3_magnetInStrongestField_49 : decode cX3_magnetInStrongestField 49 = .ok (.istore_n 1, 1) := by decide +kernel
theorem dX3_magnetInStrongestField_50 : decode cX3_magnetInStrongestField 50 = .ok (.dload 5, 2) := by decide +kernel
theorem dX3_magnetInStrongestField_52 : decode cX3_magnetInStrongestField 52 = .ok (.dstore_n 2, 1) := by decide +kernel
theorem dX3_magnetInStrongestField_53 : decode cX3_magnetInStrongestField 53 = .ok (.iinc 4 1, 3) := by decide +kernel
theorem dX3_magnetInStrongestField_56 : decode cX3_magnetInStrongestField 56 = .ok (.goto (-49), 3) := by decide +kernel
theorem dX3_magnetInStrongestField_59 : decode cX3_magnetInStrongestField 59 = .ok (.iload_n 1, 1) := by decide +kernel
theorem dX3_magnetInStrongestField_60 : decode cX3_magnetInStrongestField 60 = .ok (.ireturn, 1) := by decide +kernel
theorem dX4_init_0 : decode cX4_init 0 = .ok (.aload_n 0, 1) := by decide +kernel
theorem dX4_init_1 : decode cX4_init 1 = .ok (.invokespecial 3, 3) := by decide +kernel
theorem dX4_init_4 : decode cX4_init 4 = .ok (.aload_n 0, 1) := by decide +kernel
theorem dX4_init_5 : decode cX4_init 5 = .ok (.bipush 8, 2) := by decide +kernel
theorem dX4_init_7 : decode cX4_init 7 = .ok (.anewarray 9, 3) := by decide +kernel
theorem dX4_init_10 : decode cX4_init 10 = .ok (.putfield 11, 3) := by decide +kernel
theorem dX4_init_13 : decode cX4_init 13 = .ok (.iconst 0, 1) := by decide +kernel
theorem dX4_init_14 : decode cX4_init 14 = .ok (.istore_n 1, 1) := by decide +kernel
theorem dX4_init_15 : decode cX4_init 15 = .ok (.iload_n 1, 1) := by decide +kernel
theorem dX4_init_16 : decode cX4_init 16 = .ok (.bipush 8, 2) := by decide +kernel
theorem dX4_init_18 : decode cX4_init 18 = .ok (.if_icmp .ge 22, 3) := by decide +kernel
theorem dX4_init_21 : decode cX4_init 21 = .ok (.aload_n 0, 1) := by decide +kernel
theorem dX4_init_22 : decode cX4_init 22 = .ok (.getfield 11, 3) := by decide +kernel
theorem dX4_init_25 : decode cX4_init 25 = .ok (.iload_n 1, 1) := by decide +kernel
theorem dX4_init_26 : decode cX4_init 26 = .ok (.new 9, 3) := by decide +kernel
theorem dX4_init_29 : decode cX4_init 29 = .ok (.dup, 1) := by decide +kernel
theorem dX4_init_30 : decode cX4_init 30 = .ok (.invokespecial 17, 3) := by decide +kernel
theorem dX4_init_33 : decode cX4_init 33 = .ok (.aastore, 1) := by decide +kernel
theorem dX4_init_34 : decode cX4_init 34 = .ok (.iinc 1 1, 3) := by decide +kernel
theorem dX4_init_37 : decode cX4_init 37 = .ok (.goto (-22), 3) := by decide +kernel
theorem dX4_init_40 : decode cX4_init 40 = .ok (.return_, 1) := by decide +kernel
theorem dX4_push_0 : decode cX4_push 0 = .ok (.aload_n 0, 1) := by decide +kernel
theorem dX4_push_1 : decode cX4_push 1 = .ok (.getfield 11, 3) := by decide +kernel
theorem dX4_push_4 : decode cX4_push 4 = .ok (.aload_n 0, 1) := by decide +kernel
theorem dX4_push_5 : decode cX4_push 5 = .ok (.getfield 18, 3) := by decide +kernel
theorem dX4_push_8 : decode cX4_push 8 = .ok (.aaload, 1) := by decide +kernel
theorem dX4_push_9 : decode cX4_push 9 = .ok (.aload_n 1, 1) := by decide +kernel
theorem dX4_push_10 : decode cX4_push 10 = .ok (.invokevirtual 22, 3) := by decide +kernel
theorem dX4_push_13 : decode cX4_push 13 = .ok (.aload_n 0, 1) := by decide +kernel
theorem dX4_push_14 : decode cX4_push 14 = .ok (.aload_n 0, 1) := by decide +kernel
theorem dX4_push_15 : decode cX4_push 15 = .ok (.getfield 18, 3) := by decide +kernel
theorem dX4_push_18 : decode cX4_push 18 = .ok (.iconst 1, 1) := by decide +kernel
theorem dX4_push_19 : decode cX4_push 19 = .ok (.iadd, 1) := by decide +kernel
theorem dX4_push_20 : decode cX4_push 20 = .ok (.bipush 8, 2) := by decide +kernel
theorem dX4_push_22 : decode cX4_push 22 = .ok (.irem, 1) := by decide +kernel
theorem dX4_push_23 : decode cX4_push 23 = .ok (.putfield 18, 3) := by decide +kernel
theorem dX4_push_26 : decode cX4_push 26 = .ok (.aload_n 0, 1) := by decide +kernel
theorem dX4_push_27 : decode cX4_push 27 = .ok (.aload_n 0, 1) := by decide +kernel
theorem dX4_push_28 : decode cX4_push 28 = .ok (.getfield 26, 3) := by decide +kernel
theorem dX4_push_31 : decode cX4_push 31 = .ok (.iconst 1, 1) := by decide +kernel
theorem dX4_push_32 : decode cX4_push 32 = .ok (.iadd, 1) := by decide +kernel
theorem dX4_push_33 : decode cX4_push 33 = .ok (.bipush 8, 2) := by decide +kernel
theorem dX4_push_35 : decode cX4_push 35 = .ok (.invokestatic 29, 3) := by decide +kernel
theorem dX4_push_38 : decode cX4_push 38 = .ok (.putfield 26, 3) := by decide +kernel
theorem dX4_push_41 : decode cX4_push 41 = .ok (.return_, 1) := by decide +kernel
theorem dX4_popInto_0 : decode cX4_popInto 0 = .ok (.aload_n 0, 1) := by decide +kernel
theorem dX4_popInto_1 : decode cX4_popInto 1 = .ok (.aload_n 0, 1) := by decide +kernel
theorem dX4_popInto_2 : decode cX4_popInto 2 = .ok (.getfield 18, 3) := by decide +kernel
theorem dX4_popInto_5 : decode cX4_popInto 5 = .ok (.bipush 8, 2) := by decide +kernel
theorem dX4_popInto_7 : decode cX4_popInto 7 = .ok (.iadd, 1) := by decide +kernel
theorem dX4_popInto_8 : decode cX4_popInto 8 = .ok (.iconst 1, 1) := by decide +kernel
theorem dX4_popInto_9 : decode cX4_popInto 9 = .ok (.isub, 1) := by decide +kernel
theorem dX4_popInto_10 : decode cX4_popInto 10 = .ok (.bipush 8, 2) := by decide +kernel
theorem dX4_popInto_12 : decode cX4_popInto 12 = .ok (.irem, 1) := by decide +kernel
theorem dX4_popInto_13 : decode cX4_popInto 13 = .ok (.putfield 18, 3) := by decide +kernel
theorem dX4_popInto_16 : decode cX4_popInto 16 = .ok (.aload_n 0, 1) := by decide +kernel
theorem dX4_popInto_17 : decode cX4_popInto 17 = .ok (.dup, 1) := by decide +kernel
theorem dX4_popInto_18 : decode cX4_popInto 18 = .ok (.getfield 26, 3) := by decide +kernel
theorem dX4_popInto_21 : decode cX4_popInto 21 = .ok (.iconst 1, 1) := by decide +kernel
theorem dX4_popInto_22 : decode cX4_popInto 22 = .ok (.isub, 1) := by decide +kernel
theorem dX4_popInto_23 : decode cX4_popInto 23 = .ok (.putfield 26, 3) := by decide +kernel
theorem dX4_popInto_26 : decode cX4_popInto 26 = .ok (.aload_n 1, 1) := by decide +kernel
theorem dX4_popInto_27 : decode cX4_popInto 27 = .ok (.aload_n 0, 1) := by decide +kernel
theorem dX4_popInto_28 : decode cX4_popInto 28 = .ok (.getfield 11, 3) := by decide +kernel
theorem dX4_popInto_31 : decode cX4_popInto 31 = .ok (.aload_n 0, 1) := by decide +kernel
theorem dX4_popInto_32 : decode cX4_popInto 32 = .ok (.getfield 18, 3) := by decide +kernel
theorem dX4_popInto_35 : decode cX4_popInto 35 = .ok (.aaload, 1) := by decide +kernel
theorem dX4_popInto_36 : decode cX4_popInto 36 = .ok (.invokevirtual 22, 3) := by decide +kernel
theorem dX4_popInto_39 : decode cX4_popInto 39 = .ok (.return_, 1) := by decide +kernel
theorem dX4_forgetAll_0 : decode cX4_forgetAll 0 = .ok (.aload_n 0, 1) := by decide +kernel
theorem dX4_forgetAll_1 : decode cX4_forgetAll 1 = .ok (.iconst 0, 1) := by decide +kernel
theorem dX4_forgetAll_2 : decode cX4_forgetAll 2 = .ok (.putfield 26, 3) := by decide +kernel
theorem dX4_forgetAll_5 : decode cX4_forgetAll 5 = .ok (.return_, 1) := by decide +kernel
theorem dX5_init_0 : decode cX5_init 0 = .ok (.aload_n 0, 1) := by decide +kernel
theorem dX5_init_1 : decode cX5_init 1 = .ok (.invokespecial 3, 3) := by decide +kernel
theorem dX5_init_4 : decode cX5_init 4 = .ok (.aload_n 0, 1) := by decide +kernel
theorem dX5_init_5 : decode cX5_init 5 = .ok (.bipush 23, 2) := by decide +kernel
theorem dX5_init_7 : decode cX5_init 7 = .ok (.newarray .char, 2) := by decide +kernel
theorem dX5_init_9 : decode cX5_init 9 = .ok (.putfield 9, 3) := by decide +kernel
theorem dX5_init_12 : decode cX5_init 12 = .ok (.return_, 1) := by decide +kernel
theorem dX5_describe_0 : decode cX5_describe 0 = .ok (.aload_n 0, 1) := by decide +kernel
theorem dX5_describe_1 : decode cX5_describe 1 = .ok (.iconst 0, 1) := by decide +kernel
theorem dX5_describe_2 : decode cX5_describe 2 = .ok (.putfield 15, 3) := by decide +kernel
theorem dX5_describe_5 : decode cX5_describe 5 = .ok (.aload_n 0, 1) := by decide +kernel
theorem dX5_describe_6 : decode cX5_describe 6 = .ok (.iload_n 2, 1) := by decide +kernel
theorem dX5_describe_7 : decode cX5_describe 7 = .ok (.invokevirtual 19, 3) := by decide +kernel
theorem dX5_describe_10 : decode cX5_describe 10 = .ok (.aload_n 0, 1) := by decide +kernel
theorem dX5_describe_11 : decode cX5_describe 11 = .ok (.bipush 64, 2) := by decide +kernel
theorem dX5_describe_13 : decode cX5_describe 13 = .ok (.invokevirtual 23, 3) := by decide +kernel
theorem dX5_describe_16 : decode cX5_describe 16 = .ok (.aload_n 0, 1) := by decide +kernel
theorem dX5_describe_17 : decode cX5_describe 17 = .ok (.aload_n 1, 1) := by decide +kernel
theorem dX5_describe_18 : decode cX5_describe 18 = .ok (.getfield 27, 3) := by decide +kernel
theorem dX5_describe_21 : decode cX5_describe 21 = .ok (.iload_n 2, 1) := by decide +kernel
theorem dX5_describe_22 : decode cX5_describe 22 = .ok (.iaload, 1) := by decide +kernel
theorem dX5_describe_23 : decode cX5_describe 23 = .ok (.invokevirtual 19, 3) := by decide +kernel
theorem dX5_describe_26 : decode cX5_describe 26 = .ok (.aload_n 0, 1) := by decide +kernel
theorem dX5_describe_27 : decode cX5_describe 27 = .ok (.aload_n 1, 1) := by decide +kernel
theorem dX5_describe_28 : decode cX5_describe 28 = .ok (.iload_n 2, 1) := by decide +kernel
theorem dX5_describe_29 : decode cX5_describe 29 = .ok (.invokevirtual 33, 3) := by decide +kernel
theorem dX5_describe_32 : decode cX5_describe 32 = .ok (.invokevirtual 23, 3) := by decide +kernel
theorem dX5_describe_35 : decode cX5_describe 35 = .ok (.aload_n 0, 1) := by decide +kernel
theorem dX5_describe_36 : decode cX5_describe 36 = .ok (.aload_n 1, 1) := by decide +kernel
theorem dX5_describe_37 : decode cX5_describe 37 = .ok (.getfield 37, 3) := by decide +kernel
theorem dX5_describe_40 : decode cX5_describe 40 = .ok (.iload_n 2, 1) := by decide +kernel
theorem dX5_describe_41 : decode cX5_describe 41 = .ok (.iaload, 1) := by decide +kernel
theorem dX5_describe_42 : decode cX5_describe 42 = .ok (.invokevirtual 19, 3) := by decide +kernel
theorem dX5_describe_45 : decode cX5_describe 45 = .ok (.iconst 0, 1) := by decide +kernel
theorem dX5_describe_46 : decode cX5_describe 46 = .ok (.istore_n 3, 1) := by decide +kernel
theorem dX5_describe_47 : decode cX5_describe 47 = .ok (.iload_n 3, 1) := by decide +kernel
theorem dX5_describe_48 : decode cX5_describe 48 = .ok (.aload_n 1, 1) := by decide +kernel
theorem dX5_describe_49 : decode cX5_describe 49 = .ok (.getfield 40, 3) := by decide +kernel
theorem dX5_describe_52 : decode cX5_describe 52 = .ok (.if_icmp .ge 48, 3) := by decide +kernel
theorem dX5_describe_55 : decode cX5_describe 55 = .ok (.aload_n 1, 1) := by decide +kernel
theorem dX5_describe_56 : decode cX5_describe 56 = .ok (.iload_n 3, 1) := by decide +kernel
theorem dX5_describe_57 : decode cX5_describe 57 = .ok (.iload_n 2, 1) := by decide +kernel
theorem dX5_describe_58 : decode cX5_describe 58 = .ok (.invokevirtual 43, 3) := by decide +kernel
theorem dX5_describe_61 : decode cX5_describe 61 = .ok (.istore 4, 2) := by decide +kernel
theorem dX5_describe_63 : decode cX5_describe 63 = .ok (.iload 4, 2) := by decide +kernel
theorem dX5_describe_65 : decode cX5_describe 65 = .ok (.iconst (-1), 1) := by decide +kernel
theorem dX5_describe_66 : decode cX5_describe 66 = .ok (.if_icmp .eq 28, 3) := by decide +kernel
theorem dX5_describe_69 : decode cX5_describe 69 = .ok (.aload_n 0, 1) := by decide +kernel
theorem dX5_describe_70 : decode cX5_describe 70 = .ok (.aload_n 1, 1) := by decide +kernel
theorem dX5_describe_71 : decode cX5_describe 71 = .ok (.iload_n 3, 1) := by decide +kernel
theorem dX5_describe_72 : decode cX5_describe 72 = .ok (.invokevirtual 47, 3) := by decide +kernel
theorem dX5_describe_75 : decode cX5_describe 75 = .ok (.ifCond .eq 8, 3) := by decide +kernel
theorem dX5_describe_78 : decode cX5_describe 78 = .ok (.bipush 61, 2) := by decide +kernel
theorem dX5_describe_80 : decode cX5_describe 80 = .ok (.goto 5, 3) := by decide +kernel
theorem dX5_describe_83 : decode cX5_describe 83 = .ok (.bipush 35, 2) := by decide +kernel
theorem dX5_describe_85 : decode cX5_describe 85 = .ok (.invokevirtual 23, 3) := by decide +kernel
theorem dX5_describe_88 : decode cX5_describe 88 = .ok (.aload_n 0, 1) := by decide +kernel
theorem dX5_describe_89 : decode cX5_describe 89 = .ok (.iload 4, 2) := by decide +kernel
theorem dX5_describe_91 : decode cX5_describe 91 = .ok (.invokevirtual 19, 3) := by decide +kernel
theorem dX5_describe_94 : decode cX5_describe 94 = .ok (.iinc 3 1, 3) := by decide +kernel
theorem dX5_describe_97 : decode cX5_describe 97 = .ok (.goto (-50), 3) := by decide +kernel
theorem dX5_describe_100 : decode cX5_describe 100 = .ok (.return_, 1) := by decide +kernel
theorem dX5_putNumber_0 : decode cX5_putNumber 0 = .ok (.iload_n 1, 1) := by decide +kernel
theorem dX5_putNumber_1 : decode cX5_putNumber 1 = .ok (.bipush 10, 2) := by decide +kernel
theorem dX5_putNumber_3 : decode cX5_putNumber 3 = .ok (.if_icmp .lt 15, 3) := by decide +kernel
theorem dX5_putNumber_6 : decode cX5_putNumber 6 = .ok (.aload_n 0, 1) := by decide +kernel
theorem dX5_putNumber_7 : decode cX5_putNumber 7 = .ok (.bipush 48, 2) := by decide +kernel
theorem dX5_putNumber_9 : decode cX5_putNumber 9 = .ok (.iload_n 1, 1) := by decide +kernel
theorem dX5_putNumber_10 : decode cX5_putNumber 10 = .ok (.bipush 10, 2) := by decide +kernel
theorem dX5_putNumber_12 : decode cX5_putNumber 12 = .ok (.idiv, 1) := by decide +kernel
theorem dX5_putNumber_13 : decode cX5_putNumber 13 = .ok (.iadd, 1) := by decide +kernel
theorem dX5_putNumber_14 : decode cX5_putNumber 14 = .ok (.i2c, 1) := by decide +kernel
theorem dX5_putNumber_15 : decode cX5_putNumber 15 = .ok (.invokevirtual 23, 3) := by decide +kernel
theorem dX5_putNumber_18 : decode cX5_putNumber 18 = .ok (.aload_n 0, 1) := by decide +kernel
theorem dX5_putNumber_19 : decode cX5_putNumber 19 = .ok (.bipush 48, 2) := by decide +kernel
theorem dX5_putNumber_21 : decode cX5_putNumber 21 = .ok (.iload_n 1, 1) := by decide +kernel
theorem dX5_putNumber_22 : decode cX5_putNumber 22 = .ok (.bipush 10, 2) := by decide +kernel
theorem dX5_putNumber_24 : decode cX5_putNumber 24 = .ok (.irem, 1) := by decide +kernel
theorem dX5_putNumber_25 : decode cX5_putNumber 25 = .ok (.iadd, 1) := by decide +kernel
theorem dX5_putNumber_26 : decode cX5_putNumber 26 = .ok (.i2c, 1) := by decide +kernel
theorem dX5_putNumber_27 : decode cX5_putNumber 27 = .ok (.invokevirtual 23, 3) := by decide +kernel
theorem dX5_putNumber_30 : decode cX5_putNumber 30 = .ok (.return_, 1) := by decide +kernel
theorem dX5_put_0 : decode cX5_put 0 = .ok (.aload_n 0, 1) := by decide +kernel
theorem dX5_put_1 : decode cX5_put 1 = .ok (.getfield 15, 3) := by decide +kernel
theorem dX5_put_4 : decode cX5_put 4 = .ok (.bipush 23, 2) := by decide +kernel
theorem dX5_put_6 : decode cX5_put 6 = .ok (.if_icmp .ge 23, 3) := by decide +kernel
theorem dX5_put_9 : decode cX5_put 9 = .ok (.aload_n 0, 1) := by decide +kernel
theorem dX5_put_10 : decode cX5_put 10 = .ok (.getfield 9, 3) := by decide +kernel
theorem dX5_put_13 : decode cX5_put 13 = .ok (.aload_n 0, 1) := by decide +kernel
theorem dX5_put_14 : decode cX5_put 14 = .ok (.getfield 15, 3) := by decide +kernel
theorem dX5_put_17 : decode cX5_put 17 = .ok (.iload_n 1, 1) := by decide +kernel
theorem dX5_put_18 : decode cX5_put 18 = .ok (.castore, 1) := by decide +kernel
theorem dX5_put_19 : decode cX5_put 19 = .ok (.aload_n 0, 1) := by decide +kernel
theorem dX5_put_20 : decode cX5_put 20 = .ok (.dup, 1) := by decide +kernel
theorem dX5_put_21 : decode cX5_put 21 = .ok (.getfield 15, 3) := by decide +kernel
theorem dX5_put_24 : decode cX5_put 24 = .ok (.iconst 1, 1) := by decide +kernel
theorem dX5_put_25 : decode cX5_put 25 = .ok (.iadd, 1) := by decide +kernel
theorem dX5_put_26 : decode cX5_put 26 = .ok (.putfield 15, 3) := by decide +kernel
theorem dX5_put_29 : decode cX5_put 29 = .ok (.return_, 1) := by decide +kernel

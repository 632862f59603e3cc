theorem dX9_isWord_9 : decode cX9_isWord 9 = .ok (.imul, 1) := by decide +kernel
theorem dX9_isWord_10 : decode cX9_isWord 10 = .ok (.iload_n 1, 1) := by decide +kernel
theorem dX9_isWord_11 : decode cX9_isWord 11 = .ok (.iastore, 1) := by decide +kernel
theorem dX9_isWord_12 : decode cX9_isWord 12 = .ok (.iconst 0, 1) := by decide +kernel
theorem dX9_isWord_13 : decode cX9_isWord 13 = .ok (.istore_n 3, 1) := by decide +kernel
theorem dX9_isWord_14 : decode cX9_isWord 14 = .ok (.iload_n 3, 1) := by decide +kernel
theorem dX9_isWord_15 : decode cX9_isWord 15 = .ok (.aload_n 2, 1) := by decide +kernel
theorem dX9_isWord_16 : decode cX9_isWord 16 = .ok (.invokevirtual 172, 3) := by decide +kernel
theorem dX9_isWord_19 : decode cX9_isWord 19 = .ok (.if_icmp .ge 23, 3) := by decide +kernel
theorem dX9_isWord_22 : decode cX9_isWord 22 = .ok (.aload_n 0, 1) := by decide +kernel
theorem dX9_isWord_23 : decode cX9_isWord 23 = .ok (.aload_n 2, 1) := by decide +kernel
theorem dX9_isWord_24 : decode cX9_isWord 24 = .ok (.iload_n 3, 1) := by decide +kernel
theorem dX9_isWord_25 : decode cX9_isWord 25 = .ok (.invokevirtual 176, 3) := by decide +kernel
theorem dX9_isWord_28 : decode cX9_isWord 28 = .ok (.invokevirtual 179, 3) := by decide +kernel
theorem dX9_isWord_31 : decode cX9_isWord 31 = .ok (.ifCond .ne 5, 3) := by decide +kernel
theorem dX9_isWord_34 : decode cX9_isWord 34 = .ok (.iconst 0, 1) := by decide +kernel
theorem dX9_isWord_35 : decode cX9_isWord 35 = .ok (.ireturn, 1) := by decide +kernel
theorem dX9_isWord_36 : decode cX9_isWord 36 = .ok (.iinc 3 1, 3) := by decide +kernel
theorem dX9_isWord_39 : decode cX9_isWord 39 = .ok (.goto (-25), 3) := by decide +kernel
theorem dX9_isWord_42 : decode cX9_isWord 42 = .ok (.iconst 1, 1) := by decide +kernel
theorem dX9_isWord_43 : decode cX9_isWord 43 = .ok (.ireturn, 1) := by decide +kernel
theorem dX9_figures_0 : decode cX9_figures 0 = .ok (.aload_n 0, 1) := by decide +kernel
theorem dX9_figures_1 : decode cX9_figures 1 = .ok (.iload_n 1, 1) := by decide +kernel
theorem dX9_figures_2 : decode cX9_figures 2 = .ok (.invokevirtual 179, 3) := by decide +kernel
theorem dX9_figures_5 : decode cX9_figures 5 = .ok (.ifCond .eq 17, 3) := by decide +kernel
theorem dX9_figures_8 : decode cX9_figures 8 = .ok (.aload_n 0, 1) := by decide +kernel
theorem dX9_figures_9 : decode cX9_figures 9 = .ok (.invokevirtual 166, 3) := by decide +kernel
theorem dX9_figures_12 : decode cX9_figures 12 = .ok (.bipush 48, 2) := by decide +kernel
theorem dX9_figures_14 : decode cX9_figures 14 = .ok (.bipush 57, 2) := by decide +kernel
theorem dX9_figures_16 : decode cX9_figures 16 = .ok (.invokestatic 62, 3) := by decide +kernel
theorem dX9_figures_19 : decode cX9_figures 19 = .ok (.ifCond .ne 5, 3) := by decide +kernel
theorem dX9_figures_22 : decode cX9_figures 22 = .ok (.iconst 0, 1) := by decide +kernel
theorem dX9_figures_23 : decode cX9_figures 23 = .ok (.ireturn, 1) := by decide +kernel
theorem dX9_figures_24 : decode cX9_figures 24 = .ok (.aload_n 0, 1) := by decide +kernel
theorem dX9_figures_25 : decode cX9_figures 25 = .ok (.getfield 33, 3) := by decide +kernel
theorem dX9_figures_28 : decode cX9_figures 28 = .ok (.iload_n 2, 1) := by decide +kernel
theorem dX9_figures_29 : decode cX9_figures 29 = .ok (.iconst 0, 1) := by decide +kernel
theorem dX9_figures_30 : decode cX9_figures 30 = .ok (.iastore, 1) := by decide +kernel
theorem dX9_figures_31 : decode cX9_figures 31 = .ok (.iconst 0, 1) := by decide +kernel
theorem dX9_figures_32 : decode cX9_figures 32 = .ok (.istore 4, 2) := by decide +kernel
theorem dX9_figures_34 : decode cX9_figures 34 = .ok (.iload 4, 2) := by decide +kernel
theorem dX9_figures_36 : decode cX9_figures 36 = .ok (.iload_n 3, 1) := by decide +kernel
theorem dX9_figures_37 : decode cX9_figures 37 = .ok (.if_icmp .ge 56, 3) := by decide +kernel
theorem dX9_figures_40 : decode cX9_figures 40 = .ok (.aload_n 0, 1) := by decide +kernel
theorem dX9_figures_41 : decode cX9_figures 41 = .ok (.invokevirtual 166, 3) := by decide +kernel
theorem dX9_figures_44 : decode cX9_figures 44 = .ok (.bipush 48, 2) := by decide +kernel
theorem dX9_figures_46 : decode cX9_figures 46 = .ok (.bipush 57, 2) := by decide +kernel
theorem dX9_figures_48 : decode cX9_figures 48 = .ok (.invokestatic 62, 3) := by decide +kernel
theorem dX9_figures_51 : decode cX9_figures 51 = .ok (.ifCond .eq 42, 3) := by decide +kernel
theorem dX9_figures_54 : decode cX9_figures 54 = .ok (.aload_n 0, 1) := by decide +kernel
theorem dX9_figures_55 : decode cX9_figures 55 = .ok (.getfield 33, 3) := by decide +kernel
theorem dX9_figures_58 : decode cX9_figures 58 = .ok (.iload_n 2, 1) := by decide +kernel
theorem dX9_figures_59 : decode cX9_figures 59 = .ok (.bipush 10, 2) := by decide +kernel
theorem dX9_figures_61 : decode cX9_figures 61 = .ok (.aload_n 0, 1) := by decide +kernel
theorem dX9_figures_62 : decode cX9_figures 62 = .ok (.getfield 33, 3) := by decide +kernel
theorem dX9_figures_65 : decode cX9_figures 65 = .ok (.iload_n 2, 1) := by decide +kernel
theorem dX9_figures_66 : decode cX9_figures 66 = .ok (.iaload, 1) := by decide +kernel
theorem dX9_figures_67 : decode cX9_figures 67 = .ok (.imul, 1) := by decide +kernel
theorem dX9_figures_68 : decode cX9_figures 68 = .ok (.aload_n 0, 1) := by decide +kernel
theorem dX9_figures_69 : decode cX9_figures 69 = .ok (.invokevirtual 166, 3) := by decide +kernel
theorem dX9_figures_72 : decode cX9_figures 72 = .ok (.iadd, 1) := by decide +kernel
theorem dX9_figures_73 : decode cX9_figures 73 = .ok (.bipush 48, 2) := by decide +kernel
theorem dX9_figures_75 : decode cX9_figures 75 = .ok (.isub, 1) := by decide +kernel
theorem dX9_figures_76 : decode cX9_figures 76 = .ok (.iastore, 1) := by decide +kernel
theorem dX9_figures_77 : decode cX9_figures 77 = .ok (.aload_n 0, 1) := by decide +kernel
theorem dX9_figures_78 : decode cX9_figures 78 = .ok (.dup, 1) := by decide +kernel
theorem dX9_figures_79 : decode cX9_figures 79 = .ok (.getfield 163, 3) := by decide +kernel
theorem dX9_figures_82 : decode cX9_figures 82 = .ok (.iconst 1, 1) := by decide +kernel
theorem dX9_figures_83 : decode cX9_figures 83 = .ok (.iadd, 1) := by decide +kernel
theorem dX9_figures_84 : decode cX9_figures 84 = .ok (.putfield 163, 3) := by decide +kernel
theorem dX9_figures_87 : decode cX9_figures 87 = .ok (.iinc 4 1, 3) := by decide +kernel
theorem dX9_figures_90 : decode cX9_figures 90 = .ok (.goto (-56), 3) := by decide +kernel
theorem dX9_figures_93 : decode cX9_figures 93 = .ok (.iconst 1, 1) := by decide +kernel
theorem dX9_figures_94 : decode cX9_figures 94 = .ok (.ireturn, 1) := by decide +kernel
theorem dX9_poleHere_0 : decode cX9_poleHere 0 = .ok (.aload_n 0, 1) := by decide +kernel
theorem dX9_poleHere_1 : decode cX9_poleHere 1 = .ok (.getfield 33, 3) := by decide +kernel
theorem dX9_poleHere_4 : decode cX9_poleHere 4 = .ok (.iload_n 1, 1) := by decide +kernel
theorem dX9_poleHere_5 : decode cX9_poleHere 5 = .ok (.aload_n 0, 1) := by decide +kernel
theorem dX9_poleHere_6 : decode cX9_poleHere 6 = .ok (.invokevirtual 166, 3) := by decide +kernel
theorem dX9_poleHere_9 : decode cX9_poleHere 9 = .ok (.bipush 110, 2) := by decide +kernel
theorem dX9_poleHere_11 : decode cX9_poleHere 11 = .ok (.if_icmp .ne 7, 3) := by decide +kernel
theorem dX9_poleHere_14 : decode cX9_poleHere 14 = .ok (.iconst 1, 1) := by decide +kernel
theorem dX9_poleHere_15 : decode cX9_poleHere 15 = .ok (.goto 4, 3) := by decide +kernel
theorem dX9_poleHere_18 : decode cX9_poleHere 18 = .ok (.iconst 0, 1) := by decide +kernel
theorem dX9_poleHere_19 : decode cX9_poleHere 19 = .ok (.iastore, 1) := by decide +kernel
theorem dX9_poleHere_20 : decode cX9_poleHere 20 = .ok (.aload_n 0, 1) := by decide +kernel
theorem dX9_poleHere_21 : decode cX9_poleHere 21 = .ok (.bipush 110, 2) := by decide +kernel
theorem dX9_poleHere_23 : decode cX9_poleHere 23 = .ok (.invokevirtual 179, 3) := by decide +kernel
theorem dX9_poleHere_26 : decode cX9_poleHere 26 = .ok (.ifCond .ne 12, 3) := by decide +kernel
theorem dX9_poleHere_29 : decode cX9_poleHere 29 = .ok (.aload_n 0, 1) := by decide +kernel
theorem dX9_poleHere_30 : decode cX9_poleHere 30 = .ok (.bipush 115, 2) := by decide +kernel
theorem dX9_poleHere_32 : decode cX9_poleHere 32 = .ok (.invokevirtual 179, 3) := by decide +kernel
theorem dX9_poleHere_35 : decode cX9_poleHere 35 = .ok (.ifCond .eq 7, 3) := by decide +kernel
theorem dX9_poleHere_38 : decode cX9_poleHere 38 = .ok (.iconst 1, 1) := by decide +kernel
theorem dX9_poleHere_39 : decode cX9_poleHere 39 = .ok (.goto 4, 3) := by decide +kernel
theorem dX9_poleHere_42 : decode cX9_poleHere 42 = .ok (.iconst 0, 1) := by decide +kernel
theorem dX9_poleHere_43 : decode cX9_poleHere 43 = .ok (.ireturn, 1) := by decide +kernel
theorem dX9_commandHere_0 : decode cX9_commandHere 0 = .ok (.iconst 4, 1) := by decide +kernel
theorem dX9_commandHere_1 : decode cX9_commandHere 1 = .ok (.aload_n 0, 1) := by decide +kernel
theorem dX9_commandHere_2 : decode cX9_commandHere 2 = .ok (.getfield 169, 3) := by decide +kernel
theorem dX9_commandHere_5 : decode cX9_commandHere 5 = .ok (.imul, 1) := by decide +kernel
theorem dX9_commandHere_6 : decode cX9_commandHere 6 = .ok (.iconst 1, 1) := by decide +kernel
theorem dX9_commandHere_7 : decode cX9_commandHere 7 = .ok (.iadd, 1) := by decide +kernel
theorem dX9_commandHere_8 : decode cX9_commandHere 8 = .ok (.istore_n 1, 1) := by decide +kernel
theorem dX9_commandHere_9 : decode cX9_commandHere 9 = .ok (.aload_n 0, 1) := by decide +kernel
theorem dX9_commandHere_10 : decode cX9_commandHere 10 = .ok (.bipush 116, 2) := by decide +kernel
theorem dX9_commandHere_12 : decode cX9_commandHere 12 = .ok (.invokevirtual 179, 3) := by decide +kernel
theorem dX9_commandHere_15 : decode cX9_commandHere 15 = .ok (.ifCond .eq 30, 3) := by decide +kernel
theorem dX9_commandHere_18 : decode cX9_commandHere 18 = .ok (.aload_n 0, 1) := by decide +kernel
theorem dX9_commandHere_19 : decode cX9_commandHere 19 = .ok (.iconst 1, 1) := by decide +kernel
theorem dX9_commandHere_20 : decode cX9_commandHere 20 = .ok (.ldc 182, 2) := by decide +kernel
theorem dX9_commandHere_22 : decode cX9_commandHere 22 = .ok (.invokevirtual 184, 3) := by decide +kernel
theorem dX9_commandHere_25 : decode cX9_commandHere 25 = .ok (.ifCond .eq 18, 3) := by decide +kernel
theorem dX9_commandHere_28 : decode cX9_commandHere 28 = .ok (.aload_n 0, 1) := by decide +kernel
theorem dX9_commandHere_29 : decode cX9_commandHere 29 = .ok (.bipush 32, 2) := by decide +kernel
theorem dX9_commandHere_31 : decode cX9_commandHere 31 = .ok (.iload_n 1, 1) := by decide +kernel
theorem dX9_commandHere_32 : decode cX9_commandHere 32 = .ok (.iconst 1, 1) := by decide +kernel
theorem dX9_commandHere_33 : decode cX9_commandHere 33 = .ok (.invokevirtual 188, 3) := by decide +kernel
theorem dX9_commandHere_36 : decode cX9_commandHere 36 = .ok (.ifCond .eq 7, 3) := by decide +kernel
theorem dX9_commandHere_39 : decode cX9_commandHere 39 = .ok (.iconst 1, 1) := by decide +kernel
theorem dX9_commandHere_40 : decode cX9_commandHere 40 = .ok (.goto 4, 3) := by decide +kernel
theorem dX9_commandHere_43 : decode cX9_commandHere 43 = .ok (.iconst 0, 1) := by decide +kernel
theorem dX9_commandHere_44 : decode cX9_commandHere 44 = .ok (.ireturn, 1) := by decide +kernel
theorem dX9_commandHere_45 : decode cX9_commandHere 45 = .ok (.aload_n 0, 1) := by decide +kernel
theorem dX9_commandHere_46 : decode cX9_commandHere 46 = .ok (.bipush 100, 2) := by decide +kernel
theorem dX9_commandHere_48 : decode cX9_commandHere 48 = .ok (.invokevirtual 179, 3) := by decide +kernel
theorem dX9_commandHere_51 : decode cX9_commandHere 51 = .ok (.ifCond .eq 43, 3) := by decide +kernel
theorem dX9_commandHere_54 : decode cX9_commandHere 54 = .ok (.aload_n 0, 1) := by decide +kernel
theorem dX9_commandHere_55 : decode cX9_commandHere 55 = .ok (.iconst 2, 1) := by decide +kernel
theorem dX9_commandHere_56 : decode cX9_commandHere 56 = .ok (.ldc 191, 2) := by decide +kernel
theorem dX9_commandHere_58 : decode cX9_commandHere 58 = .ok (.invokevirtual 184, 3) := by decide +kernel
theorem dX9_commandHere_61 : decode cX9_commandHere 61 = .ok (.ifCond .eq 31, 3) := by decide +kernel
theorem dX9_commandHere_64 : decode cX9_commandHere 64 = .ok (.aload_n 0, 1) := by decide +kernel
theorem dX9_commandHere_65 : decode cX9_commandHere 65 = .ok (.bipush 32, 2) := by decide +kernel
theorem dX9_commandHere_67 : decode cX9_commandHere 67 = .ok (.iload_n 1, 1) := by decide +kernel
theorem dX9_commandHere_68 : decode cX9_commandHere 68 = .ok (.iconst 1, 1) := by decide +kernel
theorem dX9_commandHere_69 : decode cX9_commandHere 69 = .ok (.invokevirtual 188, 3) := by decide +kernel
theorem dX9_commandHere_72 : decode cX9_commandHere 72 = .ok (.ifCond .eq 20, 3) := by decide +kernel
theorem dX9_commandHere_75 : decode cX9_commandHere 75 = .ok (.aload_n 0, 1) := by decide +kernel
theorem dX9_commandHere_76 : decode cX9_commandHere 76 = .ok (.bipush 45, 2) := by decide +kernel
theorem dX9_commandHere_78 : decode cX9_commandHere 78 = .ok (.iload_n 1, 1) := by decide +kernel
theorem dX9_commandHere_79 : decode cX9_commandHere 79 = .ok (.iconst 1, 1) := by decide +kernel
theorem dX9_commandHere_80 : decode cX9_commandHere 80 = .ok (.iadd, 1) := by decide +kernel
theorem dX9_commandHere_81 : decode cX9_commandHere 81 = .ok (.iconst 1, 1) := by decide +kernel
theorem dX9_commandHere_82 : decode cX9_commandHere 82 = .ok (.invokevirtual 188, 3) := by decide +kernel
theorem dX9_commandHere_85 : decode cX9_commandHere 85 = .ok (.ifCond .eq 7, 3) := by decide +kernel
theorem dX9_commandHere_88 : decode cX9_commandHere 88 = .ok (.iconst 1, 1) := by decide +kernel
theorem dX9_commandHere_89 : decode cX9_commandHere 89 = .ok (.goto 4, 3) := by decide +kernel
theorem dX9_commandHere_92 : decode cX9_commandHere 92 = .ok (.iconst 0, 1) := by decide +kernel
theorem dX9_commandHere_93 : decode cX9_commandHere 93 = .ok (.ireturn, 1) := by decide +kernel
theorem dX9_commandHere_94 : decode cX9_commandHere 94 = .ok (.aload_n 0, 1) := by decide +kernel
theorem dX9_commandHere_95 : decode cX9_commandHere 95 = .ok (.bipush 102, 2) := by decide +kernel
theorem dX9_commandHere_97 : decode cX9_commandHere 97 = .ok (.invokevirtual 179, 3) := by decide +kernel
theorem dX9_commandHere_100 : decode cX9_commandHere 100 = .ok (.ifCond .eq 30, 3) := by decide +kernel
theorem dX9_commandHere_103 : decode cX9_commandHere 103 = .ok (.aload_n 0, 1) := by decide +kernel
theorem dX9_commandHere_104 : decode cX9_commandHere 104 = .ok (.iconst 3, 1) := by decide +kernel
theorem dX9_commandHere_105 : decode cX9_commandHere 105 = .ok (.ldc 193, 2) := by decide +kernel
theorem dX9_commandHere_107 : decode cX9_commandHere 107 = .ok (.invokevirtual 184, 3) := by decide +kernel
theorem dX9_commandHere_110 : decode cX9_commandHere 110 = .ok (.ifCond .eq 18, 3) := by decide +kernel
theorem dX9_commandHere_113 : decode cX9_commandHere 113 = .ok (.aload_n 0, 1) := by decide +kernel
theorem dX9_commandHere_114 : decode cX9_commandHere 114 = .ok (.bipush 32, 2) := by decide +kernel
theorem dX9_commandHere_116 : decode cX9_commandHere 116 = .ok (.iload_n 1, 1) := by decide +kernel
theorem dX9_commandHere_117 : decode cX9_commandHere 117 = .ok (.iconst 2, 1) := by decide +kernel
theorem dX9_commandHere_118 : decode cX9_commandHere 118 = .ok (.invokevirtual 188, 3) := by decide +kernel
theorem dX9_commandHere_121 : decode cX9_commandHere 121 = .ok (.ifCond .eq 7, 3) := by decide +kernel
theorem dX9_commandHere_124 : decode cX9_commandHere 124 = .ok (.iconst 1, 1) := by decide +kernel
theorem dX9_commandHere_125 : decode cX9_commandHere 125 = .ok (.goto 4, 3) := by decide +kernel
theorem dX9_commandHere_128 : decode cX9_commandHere 128 = .ok (.iconst 0, 1) := by decide +kernel
theorem dX9_commandHere_129 : decode cX9_commandHere 129 = .ok (.ireturn, 1) := by decide +kernel
theorem dX9_commandHere_130 : decode cX9_commandHere 130 = .ok (.aload_n 0, 1) := by decide +kernel
theorem dX9_commandHere_131 : decode cX9_commandHere 131 = .ok (.bipush 109, 2) := by decide +kernel
theorem dX9_commandHere_133 : decode cX9_commandHere 133 = .ok (.invokevirtual 179, 3) := by decide +kernel
theorem dX9_commandHere_136 : decode cX9_commandHere 136 = .ok (.ifCond .eq 73, 3) := by decide +kernel
theorem dX9_commandHere_139 : decode cX9_commandHere 139 = .ok (.aload_n 0, 1) := by decide +kernel
theorem dX9_commandHere_140 : decode cX9_commandHere 140 = .ok (.bipush 111, 2) := by decide +kernel
theorem dX9_commandHere_142 : decode cX9_commandHere 142 = .ok (.invokevirtual 179, 3) := by decide +kernel
theorem dX9_commandHere_145 : decode cX9_commandHere 145 = .ok (.ifCond .eq 14, 3) := by decide +kernel
theorem dX9_commandHere_148 : decode cX9_commandHere 148 = .ok (.aload_n 0, 1) := by decide +kernel
theorem dX9_commandHere_149 : decode cX9_commandHere 149 = .ok (.bipush 6, 2) := by decide +kernel
theorem dX9_commandHere_151 : decode cX9_commandHere 151 = .ok (.ldc 195, 2) := by decide +kernel
theorem dX9_commandHere_153 : decode cX9_commandHere 153 = .ok (.invokevirtual 184, 3) := by decide +kernel
theorem dX9_commandHere_156 : decode cX9_commandHere 156 = .ok (.goto 52, 3) := by decide +kernel
theorem dX9_commandHere_159 : decode cX9_commandHere 159 = .ok (.aload_n 0, 1) := by decide +kernel
theorem dX9_commandHere_160 : decode cX9_commandHere 160 = .ok (.iconst 0, 1) := by decide +kernel
theorem dX9_commandHere_161 : decode cX9_commandHere 161 = .ok (.ldc 197, 2) := by decide +kernel
theorem dX9_commandHere_163 : decode cX9_commandHere 163 = .ok (.invokevirtual 184, 3) := by decide +kernel
theorem dX9_commandHere_166 : decode cX9_commandHere 166 = .ok (.ifCond .eq 41, 3) := by decide +kernel
theorem dX9_commandHere_169 : decode cX9_commandHere 169 = .ok (.aload_n 0, 1) := by decide +kernel
theorem dX9_commandHere_170 : decode cX9_commandHere 170 = .ok (.bipush 32, 2) := by decide +kernel
theorem dX9_commandHere_172 : decode cX9_commandHere 172 = .ok (.iload_n 1, 1) := by decide +kernel
theorem dX9_commandHere_173 : decode cX9_commandHere 173 = .ok (.iconst 2, 1) := by decide +kernel
theorem dX9_commandHere_174 : decode cX9_commandHere 174 = .ok (.invokevirtual 188, 3) := by decide +kernel
theorem dX9_commandHere_177 : decode cX9_commandHere 177 = .ok (.ifCond .eq 30, 3) := by decide +kernel
theorem dX9_commandHere_180 : decode cX9_commandHere 180 = .ok (.aload_n 0, 1) := by decide +kernel
theorem dX9_commandHere_181 : decode cX9_commandHere 181 = .ok (.bipush 32, 2) := by decide +kernel
theorem dX9_commandHere_183 : decode cX9_commandHere 183 = .ok (.iload_n 1, 1) := by decide +kernel
theorem dX9_commandHere_184 : decode cX9_commandHere 184 = .ok (.iconst 1, 1) := by decide +kernel
theorem dX9_commandHere_185 : decode cX9_commandHere 185 = .ok (.iadd, 1) := by decide +kernel
theorem dX9_commandHere_186 : decode cX9_commandHere 186 = .ok (.iconst 2, 1) := by decide +kernel
theorem dX9_commandHere_187 : decode cX9_commandHere 187 = .ok (.invokevirtual 188, 3) := by decide +kernel
theorem dX9_commandHere_190 : decode cX9_commandHere 190 = .ok (.ifCond .eq 17, 3) := by decide +kernel
theorem dX9_commandHere_193 : decode cX9_commandHere 193 = .ok (.aload_n 0, 1) := by decide +kernel
theorem dX9_commandHere_194 : decode cX9_commandHere 194 = .ok (.iload_n 1, 1) := by decide +kernel
theorem dX9_commandHere_195 : decode cX9_commandHere 195 = .ok (.iconst 2, 1) := by decide +kernel
theorem dX9_commandHere_196 : decode cX9_commandHere 196 = .ok (.iadd, 1) := by decide +kernel
theorem dX9_commandHere_197 : decode cX9_commandHere 197 = .ok (.invokevirtual 199, 3) := by decide +kernel
theorem dX9_commandHere_200 : decode cX9_commandHere 200 = .ok (.ifCond .eq 7, 3) := by decide +kernel
theorem dX9_commandHere_203 : decode cX9_commandHere 203 = .ok (.iconst 1, 1) := by decide +kernel
theorem dX9_commandHere_204 : decode cX9_commandHere 204 = .ok (.goto 4, 3) := by decide +kernel
theorem dX9_commandHere_207 : decode cX9_commandHere 207 = .ok (.iconst 0, 1) := by decide +kernel
theorem dX9_commandHere_208 : decode cX9_commandHere 208 = .ok (.ireturn, 1) := by decide +kernel
theorem dX9_commandHere_209 : decode cX9_commandHere 209 = .ok (.aload_n 0, 1) := by decide +kernel
theorem dX9_commandHere_210 : decode cX9_commandHere 210 = .ok (.bipush 115, 2) := by decide +kernel
theorem dX9_commandHere_212 : decode cX9_commandHere 212 = .ok (.invokevirtual 179, 3) := by decide +kernel
theorem dX9_commandHere_215 : decode cX9_commandHere 215 = .ok (.ifCond .ne 5, 3) := by decide +kernel
theorem dX9_commandHere_218 : decode cX9_commandHere 218 = .ok (.iconst 0, 1) := by decide +kernel
theorem dX9_commandHere_219 : decode cX9_commandHere 219 = .ok (.ireturn, 1) := by decide +kernel
theorem dX9_commandHere_220 : decode cX9_commandHere 220 = .ok (.aload_n 0, 1) := by decide +kernel
theorem dX9_commandHere_221 : decode cX9_commandHere 221 = .ok (.bipush 101, 2) := by decide +kernel
theorem dX9_commandHere_223 : decode cX9_commandHere 223 = .ok (.invokevirtual 179, 3) := by decide +kernel
theorem dX9_commandHere_226 : decode cX9_commandHere 226 = .ok (.ifCond .eq 11, 3) := by decide +kernel
theorem dX9_commandHere_229 : decode cX9_commandHere 229 = .ok (.aload_n 0, 1) := by decide +kernel
theorem dX9_commandHere_230 : decode cX9_commandHere 230 = .ok (.iconst 4, 1) := by decide +kernel
theorem dX9_commandHere_231 : decode cX9_commandHere 231 = .ok (.ldc 202, 2) := by decide +kernel
theorem dX9_commandHere_233 : decode cX9_commandHere 233 = .ok (.invokevirtual 184, 3) := by decide +kernel
theorem dX9_commandHere_236 : decode cX9_commandHere 236 = .ok (.ireturn, 1) := by decide +kernel
theorem dX9_commandHere_237 : decode cX9_commandHere 237 = .ok (.aload_n 0, 1) := by decide +kernel
theorem dX9_commandHere_238 : decode cX9_commandHere 238 = .ok (.bipush 104, 2) := by decide +kernel
theorem dX9_commandHere_240 : decode cX9_commandHere 240 = .ok (.invokevirtual 179, 3) := by decide +kernel
theorem dX9_commandHere_243 : decode cX9_commandHere 243 = .ok (.ifCond .eq 30, 3) := by decide +kernel
theorem dX9_commandHere_246 : decode cX9_commandHere 246 = .ok (.aload_n 0, 1) := by decide +kernel
theorem dX9_commandHere_247 : decode cX9_commandHere 247 = .ok (.iconst 5, 1) := by decide +kernel
theorem dX9_commandHere_248 : decode cX9_commandHere 248 = .ok (.ldc 204, 2) := by decide +kernel
theorem dX9_commandHere_250 : decode cX9_commandHere 250 = .ok (.invokevirtual 184, 3) := by decide +kernel
theorem dX9_commandHere_253 : decode cX9_commandHere 253 = .ok (.ifCond .eq 18, 3) := by decide +kernel
theorem dX9_commandHere_256 : decode cX9_commandHere 256 = .ok (.aload_n 0, 1) := by decide +kernel
theorem dX9_commandHere_257 : decode cX9_commandHere 257 = .ok (.bipush 32, 2) := by decide +kernel
theorem dX9_commandHere_259 : decode cX9_commandHere 259 = .ok (.iload_n 1, 1) := by decide +kernel
theorem dX9_commandHere_260 : decode cX9_commandHere 260 = .ok (.iconst 2, 1) := by decide +kernel
theorem dX9_commandHere_261 : decode cX9_commandHere 261 = .ok (.invokevirtual 188, 3) := by decide +kernel
theorem dX9_commandHere_264 : decode cX9_commandHere 264 = .ok (.ifCond .eq 7, 3) := by decide +kernel
theorem dX9_commandHere_267 : decode cX9_commandHere 267 = .ok (.iconst 1, 1) := by decide +kernel
theorem dX9_commandHere_268 : decode cX9_commandHere 268 = .ok (.goto 4, 3) := by decide +kernel
theorem dX9_commandHere_271 : decode cX9_commandHere 271 = .ok (.iconst 0, 1) := by decide +kernel
theorem dX9_commandHere_272 : decode cX9_commandHere 272 = .ok (.ireturn, 1) := by decide +kernel
theorem dX9_commandHere_273 : decode cX9_commandHere 273 = .ok (.aload_n 0, 1) := by decide +kernel
theorem dX9_commandHere_274 : decode cX9_commandHere 274 = .ok (.bipush 7, 2) := by decide +kernel
theorem dX9_commandHere_276 : decode cX9_commandHere 276 = .ok (.ldc 206, 2) := by decide +kernel
theorem dX9_commandHere_278 : decode cX9_commandHere 278 = .ok (.invokevirtual 184, 3) := by decide +kernel
theorem dX9_commandHere_281 : decode cX9_commandHere 281 = .ok (.ifCond .eq 31, 3) := by decide +kernel
theorem dX9_commandHere_284 : decode cX9_commandHere 284 = .ok (.aload_n 0, 1) := by decide +kernel
theorem dX9_commandHere_285 : decode cX9_commandHere 285 = .ok (.bipush 32, 2) := by decide +kernel
theorem dX9_commandHere_287 : decode cX9_commandHere 287 = .ok (.iload_n 1, 1) := by decide +kernel
theorem dX9_commandHere_288 : decode cX9_commandHere 288 = .ok (.iconst 1, 1) := by decide +kernel
theorem dX9_commandHere_289 : decode cX9_commandHere 289 = .ok (.invokevirtual 188, 3) := by decide +kernel
theorem dX9_commandHere_292 : decode cX9_commandHere 292 = .ok (.ifCond .eq 20, 3) := by decide +kernel
theorem dX9_commandHere_295 : decode cX9_commandHere 295 = .ok (.aload_n 0, 1) := by decide +kernel
theorem dX9_commandHere_296 : decode cX9_commandHere 296 = .ok (.bipush 61, 2) := by decide +kernel
theorem dX9_commandHere_298 : decode cX9_commandHere 298 = .ok (.iload_n 1, 1) := by decide +kernel
theorem dX9_commandHere_299 : decode cX9_commandHere 299 = .ok (.iconst 1, 1) := by decide +kernel
theorem dX9_commandHere_300 : decode cX9_commandHere 300 = .ok (.iadd, 1) := by decide +kernel
theorem dX9_commandHere_301 : decode cX9_commandHere 301 = .ok (.iconst 2, 1) := by decide +kernel
theorem dX9_commandHere_302 : decode cX9_commandHere 302 = .ok (.invokevirtual 188, 3) := by decide +kernel
theorem dX9_commandHere_305 : decode cX9_commandHere 305 = .ok (.ifCond .eq 7, 3) := by decide +kernel
theorem dX9_commandHere_308 : decode cX9_commandHere 308 = .ok (.iconst 1, 1) := by decide +kernel
theorem dX9_commandHere_309 : decode cX9_commandHere 309 = .ok (.goto 4, 3) := by decide +kernel
theorem dX9_commandHere_312 : decode cX9_commandHere 312 = .ok (.iconst 0, 1) := by decide +kernel
theorem dX9_commandHere_313 : decode cX9_commandHere 313 = .ok (.ireturn, 1) := by decide +kernel
theorem dX9_isText_0 : decode cX9_isText 0 = .ok (.aload_n 0, 1) := by decide +kernel
theorem dX9_isText_1 : decode cX9_isText 1 = .ok (.iconst 0, 1) := by decide +kernel
theorem dX9_isText_2 : decode cX9_isText 2 = .ok (.putfield 163, 3) := by decide +kernel
theorem dX9_isText_5 : decode cX9_isText 5 = .ok (.aload_n 0, 1) := by decide +kernel
theorem dX9_isText_6 : decode cX9_isText 6 = .ok (.iconst 0, 1) := by decide +kernel
theorem dX9_isText_7 : decode cX9_isText 7 = .ok (.putfield 169, 3) := by decide +kernel
theorem dX9_isText_10 : decode cX9_isText 10 = .ok (.aload_n 0, 1) := by decide +kernel
theorem dX9_isText_11 : decode cX9_isText 11 = .ok (.invokevirtual 208, 3) := by decide +kernel
theorem dX9_isText_14 : decode cX9_isText 14 = .ok (.ifCond .ne 5, 3) := by decide +kernel
theorem dX9_isText_17 : decode cX9_isText 17 = .ok (.iconst 0, 1) := by decide +kernel
theorem dX9_isText_18 : decode cX9_isText 18 = .ok (.ireturn, 1) := by decide +kernel
theorem dX9_isText_19 : decode cX9_isText 19 = .ok (.aload_n 0, 1) := by decide +kernel
theorem dX9_isText_20 : decode cX9_isText 20 = .ok (.dup, 1) := by decide +kernel
theorem dX9_isText_21 : decode cX9_isText 21 = .ok (.getfield 169, 3) := by decide +kernel
theorem dX9_isText_24 : decode cX9_isText 24 = .ok (.iconst 1, 1) := by decide +kernel
theorem dX9_isText_25 : decode cX9_isText 25 = .ok (.iadd, 1) := by decide +kernel
theorem dX9_isText_26 : decode cX9_isText 26 = .ok (.putfield 169, 3) := by decide +kernel
theorem dX9_isText_29 : decode cX9_isText 29 = .ok (.aload_n 0, 1) := by decide +kernel
theorem dX9_isText_30 : decode cX9_isText 30 = .ok (.bipush 59, 2) := by decide +kernel
theorem dX9_isText_32 : decode cX9_isText 32 = .ok (.invokevirtual 179, 3) := by decide +kernel
theorem dX9_isText_35 : decode cX9_isText 35 = .ok (.ifCond .ne (-25), 3) := by decide +kernel
theorem dX9_isText_38 : decode cX9_isText 38 = .ok (.aload_n 0, 1) := by decide +kernel
theorem dX9_isText_39 : decode cX9_isText 39 = .ok (.getfield 163, 3) := by decide +kernel
theorem dX9_isText_42 : decode cX9_isText 42 = .ok (.aload_n 0, 1) := by decide +kernel
theorem dX9_isText_43 : decode cX9_isText 43 = .ok (.getfield 160, 3) := by decide +kernel
theorem dX9_isText_46 : decode cX9_isText 46 = .ok (.if_icmp .ne 7, 3) := by decide +kernel
theorem dX9_isText_49 : decode cX9_isText 49 = .ok (.iconst 1, 1) := by decide +kernel
theorem dX9_isText_50 : decode cX9_isText 50 = .ok (.goto 4, 3) := by decide +kernel
theorem dX9_isText_53 : decode cX9_isText 53 = .ok (.iconst 0, 1) := by decide +kernel
theorem dX9_isText_54 : decode cX9_isText 54 = .ok (.ireturn, 1) := by decide +kernel
theorem dX9_carries_0 : decode cX9_carries 0 = .ok (.aload_n 0, 1) := by decide +kernel
theorem dX9_carries_1 : decode cX9_carries 1 = .ok (.getfield 33, 3) := by decide +kernel
theorem dX9_carries_4 : decode cX9_carries 4 = .ok (.iload_n 1, 1) := by decide +kernel
theorem dX9_carries_5 : decode cX9_carries 5 = .ok (.iconst 1, 1) := by decide +kernel
theorem dX9_carries_6 : decode cX9_carries 6 = .ok (.iadd, 1) := by decide +kernel
theorem dX9_carries_7 : decode cX9_carries 7 = .ok (.iaload, 1) := by decide +kernel
theorem dX9_carries_8 : decode cX9_carries 8 = .ok (.istore_n 2, 1) := by decide +kernel
theorem dX9_carries_9 : decode cX9_carries 9 = .ok (.aload_n 0, 1) := by decide +kernel
theorem dX9_carries_10 : decode cX9_carries 10 = .ok (.getfield 33, 3) := by decide +kernel
theorem dX9_carries_13 : decode cX9_carries 13 = .ok (.iload_n 1, 1) := by decide +kernel
theorem dX9_carries_14 : decode cX9_carries 14 = .ok (.iconst 2, 1) := by decide +kernel
theorem dX9_carries_15 : decode cX9_carries 15 = .ok (.iadd, 1) := by decide +kernel
theorem dX9_carries_16 : decode cX9_carries 16 = .ok (.iaload, 1) := by decide +kernel
theorem dX9_carries_17 : decode cX9_carries 17 = .ok (.istore_n 3, 1) := by decide +kernel
theorem dX9_carries_18 : decode cX9_carries 18 = .ok (.aload_n 0, 1) := by decide +kernel
theorem dX9_carries_19 : decode cX9_carries 19 = .ok (.getfield 33, 3) := by decide +kernel
theorem dX9_carries_22 : decode cX9_carries 22 = .ok (.iload_n 1, 1) := by decide +kernel
theorem dX9_carries_23 : decode cX9_carries 23 = .ok (.iaload, 1) := by decide +kernel
theorem dX9_carries_24 : decode cX9_carries 24 = .ok (.tableswitch 103 0 6 #[44, 68, 74, 81, 87, 92, 98], 44) := by decide +kernel
theorem dX9_carries_68 : decode cX9_carries 68 = .ok (.aload_n 0, 1) := by decide +kernel
theorem dX9_carries_69 : decode cX9_carries 69 = .ok (.iload_n 2, 1) := by decide +kernel
theorem dX9_carries_70 : decode cX9_carries 70 = .ok (.iload_n 3, 1) := by decide +kernel
theorem dX9_carries_71 : decode cX9_carries 71 = .ok (.aload_n 0, 1) := by decide +kernel
theorem dX9_carries_72 : decode cX9_carries 72 = .ok (.getfield 33, 3) := by decide +kernel
theorem dX9_carries_75 : decode cX9_carries 75 = .ok (.iload_n 1, 1) := by decide +kernel
theorem dX9_carries_76 : decode cX9_carries 76 = .ok (.iconst 3, 1) := by decide +kernel
theorem dX9_carries_77 : decode cX9_carries 77 = .ok (.iadd, 1) := by decide +kernel
theorem dX9_carries_78 : decode cX9_carries 78 = .ok (.iaload, 1) := by decide +kernel
theorem dX9_carries_79 : decode cX9_carries 79 = .ok (.iconst 1, 1) := by decide +kernel
theorem dX9_carries_80 : decode cX9_carries 80 = .ok (.if_icmp .ne 7, 3) := by decide +kernel
theorem dX9_carries_83 : decode cX9_carries 83 = .ok (.iconst 1, 1) := by decide +kernel
theorem dX9_carries_84 : decode cX9_carries 84 = .ok (.goto 4, 3) := by decide +kernel
theorem dX9_carries_87 : decode cX9_carries 87 = .ok (.iconst 0, 1) := by decide +kernel
theorem dX9_carries_88 : decode cX9_carries 88 = .ok (.invokevirtual 212, 3) := by decide +kernel
theorem dX9_carries_91 : decode cX9_carries 91 = .ok (.ireturn, 1) := by decide +kernel
theorem dX9_carries_92 : decode cX9_carries 92 = .ok (.aload_n 0, 1) := by decide +kernel
theorem dX9_carries_93 : decode cX9_carries 93 = .ok (.iload_n 2, 1) := by decide +kernel
theorem dX9_carries_94 : decode cX9_carries 94 = .ok (.invokevirtual 216, 3) := by decide +kernel
theorem dX9_carries_97 : decode cX9_carries 97 = .ok (.ireturn, 1) := by decide +kernel
theorem dX9_carries_98 : decode cX9_carries 98 = .ok (.aload_n 0, 1) := by decide +kernel
theorem dX9_carries_99 : decode cX9_carries 99 = .ok (.iload_n 2, 1) := by decide +kernel
theorem dX9_carries_100 : decode cX9_carries 100 = .ok (.iload_n 3, 1) := by decide +kernel
theorem dX9_carries_101 : decode cX9_carries 101 = .ok (.invokevirtual 219, 3) := by decide +kernel
theorem dX9_carries_104 : decode cX9_carries 104 = .ok (.ireturn, 1) := by decide +kernel
theorem dX9_carries_105 : decode cX9_carries 105 = .ok (.aload_n 0, 1) := by decide +kernel
theorem dX9_carries_106 : decode cX9_carries 106 = .ok (.iload_n 2, 1) := by decide +kernel
theorem dX9_carries_107 : decode cX9_carries 107 = .ok (.invokevirtual 222, 3) := by decide +kernel
theorem dX9_carries_110 : decode cX9_carries 110 = .ok (.ireturn, 1) := by decide +kernel
theorem dX9_carries_111 : decode cX9_carries 111 = .ok (.aload_n 0, 1) := by decide +kernel
theorem dX9_carries_112 : decode cX9_carries 112 = .ok (.invokevirtual 225, 3) := by decide +kernel
theorem dX9_carries_115 : decode cX9_carries 115 = .ok (.ireturn, 1) := by decide +kernel
theorem dX9_carries_116 : decode cX9_carries 116 = .ok (.aload_n 0, 1) := by decide +kernel
theorem dX9_carries_117 : decode cX9_carries 117 = .ok (.iload_n 2, 1) := by decide +kernel
theorem dX9_carries_118 : decode cX9_carries 118 = .ok (.invokevirtual 228, 3) := by decide +kernel
theorem dX9_carries_121 : decode cX9_carries 121 = .ok (.ireturn, 1) := by decide +kernel
theorem dX9_carries_122 : decode cX9_carries 122 = .ok (.aload_n 0, 1) := by decide +kernel
theorem dX9_carries_123 : decode cX9_carries 123 = .ok (.invokevirtual 231, 3) := by decide +kernel
theorem dX9_carries_126 : decode cX9_carries 126 = .ok (.ireturn, 1) := by decide +kernel
theorem dX9_carries_127 : decode cX9_carries 127 = .ok (.aload_n 0, 1) := by decide +kernel
theorem dX9_carries_128 : decode cX9_carries 128 = .ok (.iload_n 2, 1) := by decide +kernel
theorem dX9_carries_129 : decode cX9_carries 129 = .ok (.iload_n 3, 1) := by decide +kernel
theorem dX9_carries_130 : decode cX9_carries 130 = .ok (.invokevirtual 234, 3) := by decide +kernel
theorem dX9_carries_133 : decode cX9_carries 133 = .ok (.ireturn, 1) := by decide +kernel
theorem dX9_deniesText_0 : decode cX9_deniesText 0 = .ok (.aload_n 0, 1) := by decide +kernel
theorem dX9_deniesText_1 : decode cX9_deniesText 1 = .ok (.getfield 39, 3) := by decide +kernel
theorem dX9_deniesText_4 : decode cX9_deniesText 4 = .ok (.ifCond .eq 10, 3) := by decide +kernel
theorem dX9_deniesText_7 : decode cX9_deniesText 7 = .ok (.aload_n 0, 1) := by decide +kernel
theorem dX9_deniesText_8 : decode cX9_deniesText 8 = .ok (.getfield 43, 3) := by decide +kernel
theorem dX9_deniesText_11 : decode cX9_deniesText 11 = .ok (.goto 5, 3) := by decide +kernel
theorem dX9_deniesText_14 : decode cX9_deniesText 14 = .ok (.bipush 7, 2) := by decide +kernel
theorem dX9_deniesText_16 : decode cX9_deniesText 16 = .ok (.istore_n 2, 1) := by decide +kernel
theorem dX9_deniesText_17 : decode cX9_deniesText 17 = .ok (.aload_n 0, 1) := by decide +kernel
theorem dX9_deniesText_18 : decode cX9_deniesText 18 = .ok (.iconst 2, 1) := by decide +kernel
theorem dX9_deniesText_19 : decode cX9_deniesText 19 = .ok (.bipush 6, 2) := by decide +kernel
theorem dX9_deniesText_21 : decode cX9_deniesText 21 = .ok (.iload_n 1, 1) := by decide +kernel
theorem dX9_deniesText_22 : decode cX9_deniesText 22 = .ok (.invokevirtual 77, 3) := by decide +kernel
theorem dX9_deniesText_25 : decode cX9_deniesText 25 = .ok (.pop, 1) := by decide +kernel
theorem dX9_deniesText_26 : decode cX9_deniesText 26 = .ok (.aload_n 0, 1) := by decide +kernel
theorem dX9_deniesText_27 : decode cX9_deniesText 27 = .ok (.iload_n 2, 1) := by decide +kernel
theorem dX9_deniesText_28 : decode cX9_deniesText 28 = .ok (.putfield 49, 3) := by decide +kernel
theorem dX9_deniesText_31 : decode cX9_deniesText 31 = .ok (.iconst 0, 1) := by decide +kernel
theorem dX9_deniesText_32 : decode cX9_deniesText 32 = .ok (.ireturn, 1) := by decide +kernel
theorem dX9_execute_0 : decode cX9_execute 0 = .ok (.aload_n 0, 1) := by decide +kernel
theorem dX9_execute_1 : decode cX9_execute 1 = .ok (.invokevirtual 237, 3) := by decide +kernel
theorem dX9_execute_4 : decode cX9_execute 4 = .ok (.istore_n 1, 1) := by decide +kernel
theorem dX9_execute_5 : decode cX9_execute 5 = .ok (.iload_n 1, 1) := by decide +kernel
theorem dX9_execute_6 : decode cX9_execute 6 = .ok (.ifCond .ne 11, 3) := by decide +kernel
theorem dX9_execute_9 : decode cX9_execute 9 = .ok (.aload_n 0, 1) := by decide +kernel
theorem dX9_execute_10 : decode cX9_execute 10 = .ok (.aload_n 0, 1) := by decide +kernel
theorem dX9_execute_11 : decode cX9_execute 11 = .ok (.getfield 163, 3) := by decide +kernel
theorem dX9_execute_14 : decode cX9_execute 14 = .ok (.putfield 25, 3) := by decide +kernel
theorem dX9_execute_17 : decode cX9_execute 17 = .ok (.aload_n 0, 1) := by decide +kernel
theorem dX9_execute_18 : decode cX9_execute 18 = .ok (.iconst 0, 1) := by decide +kernel
theorem dX9_execute_19 : decode cX9_execute 19 = .ok (.putfield 160, 3) := by decide +kernel
theorem dX9_execute_22 : decode cX9_execute 22 = .ok (.aload_n 0, 1) := by decide +kernel
theorem dX9_execute_23 : decode cX9_execute 23 = .ok (.iload_n 1, 1) := by decide +kernel
theorem dX9_execute_24 : decode cX9_execute 24 = .ok (.ifCond .eq 7, 3) := by decide +kernel
theorem dX9_execute_27 : decode cX9_execute 27 = .ok (.iconst 0, 1) := by decide +kernel
theorem dX9_execute_28 : decode cX9_execute 28 = .ok (.goto 4, 3) := by decide +kernel
theorem dX9_execute_31 : decode cX9_execute 31 = .ok (.iconst 1, 1) := by decide +kernel
theorem dX9_execute_32 : decode cX9_execute 32 = .ok (.invokevirtual 70, 3) := by decide +kernel
theorem dX9_execute_35 : decode cX9_execute 35 = .ok (.ifCond .eq 5, 3) := by decide +kernel
theorem dX9_execute_38 : decode cX9_execute 38 = .ok (.iconst 0, 1) := by decide +kernel
theorem dX9_execute_39 : decode cX9_execute 39 = .ok (.ireturn, 1) := by decide +kernel
theorem dX9_execute_40 : decode cX9_execute 40 = .ok (.aload_n 0, 1) := by decide +kernel
theorem dX9_execute_41 : decode cX9_execute 41 = .ok (.getfield 7, 3) := by decide +kernel
theorem dX9_execute_44 : decode cX9_execute 44 = .ok (.iconst 0, 1) := by decide +kernel
theorem dX9_execute_45 : decode cX9_execute 45 = .ok (.aload_n 0, 1) := by decide +kernel
theorem dX9_execute_46 : decode cX9_execute 46 = .ok (.getfield 19, 3) := by decide +kernel
theorem dX9_execute_49 : decode cX9_execute 49 = .ok (.iconst 0, 1) := by decide +kernel
theorem dX9_execute_50 : decode cX9_execute 50 = .ok (.invokestatic 58, 3) := by decide +kernel
theorem dX9_execute_53 : decode cX9_execute 53 = .ok (.aload_n 0, 1) := by decide +kernel
theorem dX9_execute_54 : decode cX9_execute 54 = .ok (.iconst 1, 1) := by decide +kernel
theorem dX9_execute_55 : decode cX9_execute 55 = .ok (.putfield 52, 3) := by decide +kernel
theorem dX9_execute_58 : decode cX9_execute 58 = .ok (.iconst 0, 1) := by decide +kernel
theorem dX9_execute_59 : decode cX9_execute 59 = .ok (.istore_n 2, 1) := by decide +kernel
theorem dX9_execute_60 : decode cX9_execute 60 = .ok (.iconst 0, 1) := by decide +kernel
theorem dX9_execute_61 : decode cX9_execute 61 = .ok (.istore_n 3, 1) := by decide +kernel
theorem dX9_execute_62 : decode cX9_execute 62 = .ok (.iload_n 2, 1) := by decide +kernel
theorem dX9_execute_63 : decode cX9_execute 63 = .ok (.aload_n 0, 1) := by decide +kernel
theorem dX9_execute_64 : decode cX9_execute 64 = .ok (.getfield 169, 3) := by decide +kernel
theorem dX9_execute_67 : decode cX9_execute 67 = .ok (.if_icmp .ge 31, 3) := by decide +kernel
theorem dX9_execute_70 : decode cX9_execute 70 = .ok (.aload_n 0, 1) := by decide +kernel
theorem dX9_execute_71 : decode cX9_execute 71 = .ok (.getfield 36, 3) := by decide +kernel
theorem dX9_execute_74 : decode cX9_execute 74 = .ok (.ifCond .ne 24, 3) := by decide +kernel
theorem dX9_execute_77 : decode cX9_execute 77 = .ok (.aload_n 0, 1) := by decide +kernel
theorem dX9_execute_78 : decode cX9_execute 78 = .ok (.iconst 4, 1) := by decide +kernel
theorem dX9_execute_79 : decode cX9_execute 79 = .ok (.iload_n 2, 1) := by decide +kernel
theorem dX9_execute_80 : decode cX9_execute 80 = .ok (.imul, 1) := by decide +kernel
theorem dX9_execute_81 : decode cX9_execute 81 = .ok (.invokevirtual 240, 3) := by decide +kernel
theorem dX9_execute_84 : decode cX9_execute 84 = .ok (.istore_n 3, 1) := by decide +kernel
theorem dX9_execute_85 : decode cX9_execute 85 = .ok (.aload_n 0, 1) := by decide +kernel
theorem dX9_execute_86 : decode cX9_execute 86 = .ok (.getfield 36, 3) := by decide +kernel
theorem dX9_execute_89 : decode cX9_execute 89 = .ok (.ifCond .ne (-27), 3) := by decide +kernel
theorem dX9_execute_92 : decode cX9_execute 92 = .ok (.iinc 2 1, 3) := by decide +kernel
theorem dX9_execute_95 : decode cX9_execute 95 = .ok (.goto (-33), 3) := by decide +kernel
theorem dX9_execute_98 : decode cX9_execute 98 = .ok (.aload_n 0, 1) := by decide +kernel
theorem dX9_execute_99 : decode cX9_execute 99 = .ok (.iconst 0, 1) := by decide +kernel
theorem dX9_execute_100 : decode cX9_execute 100 = .ok (.putfield 52, 3) := by decide +kernel
theorem dX9_execute_103 : decode cX9_execute 103 = .ok (.aload_n 0, 1) := by decide +kernel
theorem dX9_execute_104 : decode cX9_execute 104 = .ok (.getfield 36, 3) := by decide +kernel
theorem dX9_execute_107 : decode cX9_execute 107 = .ok (.ifCond .le 32, 3) := by decide +kernel
theorem dX9_execute_110 : decode cX9_execute 110 = .ok (.aload_n 0, 1) := by decide +kernel
theorem dX9_execute_111 : decode cX9_execute 111 = .ok (.getfield 19, 3) := by decide +kernel
theorem dX9_execute_114 : decode cX9_execute 114 = .ok (.iconst 0, 1) := by decide +kernel
theorem dX9_execute_115 : decode cX9_execute 115 = .ok (.aload_n 0, 1) := by decide +kernel
theorem dX9_execute_116 : decode cX9_execute 116 = .ok (.getfield 7, 3) := by decide +kernel
theorem dX9_execute_119 : decode cX9_execute 119 = .ok (.iconst 0, 1) := by decide +kernel
theorem dX9_execute_120 : decode cX9_execute 120 = .ok (.invokestatic 58, 3) := by decide +kernel
theorem dX9_execute_123 : decode cX9_execute 123 = .ok (.aload_n 0, 1) := by decide +kernel
theorem dX9_execute_124 : decode cX9_execute 124 = .ok (.iload_n 2, 1) := by decide +kernel
theorem dX9_execute_125 : decode cX9_execute 125 = .ok (.invokevirtual 243, 3) := by decide +kernel
theorem dX9_execute_128 : decode cX9_execute 128 = .ok (.iload_n 3, 1) := by decide +kernel
theorem dX9_execute_129 : decode cX9_execute 129 = .ok (.ifCond .le 7, 3) := by decide +kernel
theorem dX9_execute_132 : decode cX9_execute 132 = .ok (.iconst 0, 1) := by decide +kernel
theorem dX9_execute_133 : decode cX9_execute 133 = .ok (.goto 4, 3) := by decide +kernel
theorem dX9_execute_136 : decode cX9_execute 136 = .ok (.iload_n 3, 1) := by decide +kernel
theorem dX9_execute_137 : decode cX9_execute 137 = .ok (.iadd, 1) := by decide +kernel
theorem dX9_execute_138 : decode cX9_execute 138 = .ok (.ireturn, 1) := by decide +kernel
theorem dX9_execute_139 : decode cX9_execute 139 = .ok (.aload_n 0, 1) := by decide +kernel
theorem dX9_execute_140 : decode cX9_execute 140 = .ok (.aload_n 0, 1) := by decide +kernel
theorem dX9_execute_141 : decode cX9_execute 141 = .ok (.getfield 19, 3) := by decide +kernel
theorem dX9_execute_144 : decode cX9_execute 144 = .ok (.invokevirtual 85, 3) := by decide +kernel
theorem dX9_execute_147 : decode cX9_execute 147 = .ok (.aload_n 0, 1) := by decide +kernel
theorem dX9_execute_148 : decode cX9_execute 148 = .ok (.getfield 169, 3) := by decide +kernel
theorem dX9_execute_151 : decode cX9_execute 151 = .ok (.ireturn, 1) := by decide +kernel
theorem dX9_faultPosition_0 : decode cX9_faultPosition 0 = .ok (.aload_n 0, 1) := by decide +kernel
theorem dX9_faultPosition_1 : decode cX9_faultPosition 1 = .ok (.aload_n 0, 1) := by decide +kernel
theorem dX9_faultPosition_2 : decode cX9_faultPosition 2 = .ok (.getfield 25, 3) := by decide +kernel
theorem dX9_faultPosition_5 : decode cX9_faultPosition 5 = .ok (.ifCond .ge 7, 3) := by decide +kernel
theorem dX9_faultPosition_8 : decode cX9_faultPosition 8 = .ok (.iconst 1, 1) := by decide +kernel
theorem dX9_faultPosition_9 : decode cX9_faultPosition 9 = .ok (.goto 4, 3) := by decide +kernel
theorem dX9_faultPosition_12 : decode cX9_faultPosition 12 = .ok (.iconst 0, 1) := by decide +kernel
theorem dX9_faultPosition_13 : decode cX9_faultPosition 13 = .ok (.invokevirtual 70, 3) := by decide +kernel
theorem dX9_faultPosition_16 : decode cX9_faultPosition 16 = .ok (.ifCond .eq 7, 3) := by decide +kernel
theorem dX9_faultPosition_19 : decode cX9_faultPosition 19 = .ok (.iconst 0, 1) := by decide +kernel
theorem dX9_faultPosition_20 : decode cX9_faultPosition 20 = .ok (.goto 7, 3) := by decide +kernel
theorem dX9_faultPosition_23 : decode cX9_faultPosition 23 = .ok (.aload_n 0, 1) := by decide +kernel
theorem dX9_faultPosition_24 : decode cX9_faultPosition 24 = .ok (.getfield 25, 3) := by decide +kernel
theorem dX9_faultPosition_27 : decode cX9_faultPosition 27 = .ok (.ireturn, 1) := by decide +kernel
theorem dX9_writes_0 : decode cX9_writes 0 = .ok (.aload_n 0, 1) := by decide +kernel
theorem dX9_writes_1 : decode cX9_writes 1 = .ok (.getfield 29, 3) := by decide +kernel
theorem dX9_writes_4 : decode cX9_writes 4 = .ok (.aload_n 0, 1) := by decide +kernel
theorem dX9_writes_5 : decode cX9_writes 5 = .ok (.getfield 246, 3) := by decide +kernel
theorem dX9_writes_8 : decode cX9_writes 8 = .ok (.iload_n 1, 1) := by decide +kernel
theorem dX9_writes_9 : decode cX9_writes 9 = .ok (.i2c, 1) := by decide +kernel
theorem dX9_writes_10 : decode cX9_writes 10 = .ok (.castore, 1) := by decide +kernel
theorem dX9_writes_11 : decode cX9_writes 11 = .ok (.aload_n 0, 1) := by decide +kernel
theorem dX9_writes_12 : decode cX9_writes 12 = .ok (.dup, 1) := by decide +kernel
theorem dX9_writes_13 : decode cX9_writes 13 = .ok (.getfield 246, 3) := by decide +kernel
theorem dX9_writes_16 : decode cX9_writes 16 = .ok (.iconst 1, 1) := by decide +kernel
theorem dX9_writes_17 : decode cX9_writes 17 = .ok (.iadd, 1) := by decide +kernel
theorem dX9_writes_18 : decode cX9_writes 18 = .ok (.putfield 246, 3) := by decide +kernel
theorem dX9_writes_21 : decode cX9_writes 21 = .ok (.return_, 1) := by decide +kernel
theorem dX9_writesNumber_0 : decode cX9_writesNumber 0 = .ok (.iload_n 1, 1) := by decide +kernel
theorem dX9_writesNumber_1 : decode cX9_writesNumber 1 = .ok (.bipush 9, 2) := by decide +kernel
theorem dX9_writesNumber_3 : decode cX9_writesNumber 3 = .ok (.if_icmp .le 11, 3) := by decide +kernel
theorem dX9_writesNumber_6 : decode cX9_writesNumber 6 = .ok (.aload_n 0, 1) := by decide +kernel
theorem dX9_writesNumber_7 : decode cX9_writesNumber 7 = .ok (.iload_n 1, 1) := by decide +kernel
theorem dX9_writesNumber_8 : decode cX9_writesNumber 8 = .ok (.bipush 10, 2) := by decide +kernel
theorem dX9_writesNumber_10 : decode cX9_writesNumber 10 = .ok (.idiv, 1) := by decide +kernel
theorem dX9_writesNumber_11 : decode cX9_writesNumber 11 = .ok (.invokevirtual 249, 3) := by decide +kernel
theorem dX9_writesNumber_14 : decode cX9_writesNumber 14 = .ok (.aload_n 0, 1) := by decide +kernel
theorem dX9_writesNumber_15 : decode cX9_writesNumber 15 = .ok (.bipush 48, 2) := by decide +kernel
theorem dX9_writesNumber_17 : decode cX9_writesNumber 17 = .ok (.iload_n 1, 1) := by decide +kernel
theorem dX9_writesNumber_18 : decode cX9_writesNumber 18 = .ok (.bipush 10, 2) := by decide +kernel
theorem dX9_writesNumber_20 : decode cX9_writesNumber 20 = .ok (.irem, 1) := by decide +kernel
theorem dX9_writesNumber_21 : decode cX9_writesNumber 21 = .ok (.iadd, 1) := by decide +kernel
theorem dX9_writesNumber_22 : decode cX9_writesNumber 22 = .ok (.invokevirtual 252, 3) := by decide +kernel
theorem dX9_writesNumber_25 : decode cX9_writesNumber 25 = .ok (.return_, 1) := by decide +kernel
theorem dX9_writesBehind_0 : decode cX9_writesBehind 0 = .ok (.aload_n 0, 1) := by decide +kernel
theorem dX9_writesBehind_1 : decode cX9_writesBehind 1 = .ok (.iload_n 1, 1) := by decide +kernel
theorem dX9_writesBehind_2 : decode cX9_writesBehind 2 = .ok (.invokevirtual 252, 3) := by decide +kernel
theorem dX9_writesBehind_5 : decode cX9_writesBehind 5 = .ok (.aload_n 0, 1) := by decide +kernel
theorem dX9_writesBehind_6 : decode cX9_writesBehind 6 = .ok (.iload_n 2, 1) := by decide +kernel
theorem dX9_writesBehind_7 : decode cX9_writesBehind 7 = .ok (.invokevirtual 249, 3) := by decide +kernel
theorem dX9_writesBehind_10 : decode cX9_writesBehind 10 = .ok (.return_, 1) := by decide +kernel
theorem dX9_writeMagnet_0 : decode cX9_writeMagnet 0 = .ok (.aload_n 0, 1) := by decide +kernel
theorem dX9_writeMagnet_1 : decode cX9_writeMagnet 1 = .ok (.iload_n 1, 1) := by decide +kernel
theorem dX9_writeMagnet_2 : decode cX9_writeMagnet 2 = .ok (.invokevirtual 93, 3) := by decide +kernel
theorem dX9_writeMagnet_5 : decode cX9_writeMagnet 5 = .ok (.ifCond .eq 5, 3) := by decide +kernel
theorem dX9_writeMagnet_8 : decode cX9_writeMagnet 8 = .ok (.iconst 0, 1) := by decide +kernel
theorem dX9_writeMagnet_9 : decode cX9_writeMagnet 9 = .ok (.ireturn, 1) := by decide +kernel
theorem dX9_writeMagnet_10 : decode cX9_writeMagnet 10 = .ok (.aload_n 0, 1) := by decide +kernel
theorem dX9_writeMagnet_11 : decode cX9_writeMagnet 11 = .ok (.iconst 0, 1) := by decide +kernel
theorem dX9_writeMagnet_12 : decode cX9_writeMagnet 12 = .ok (.putfield 246, 3) := by decide +kernel
theorem dX9_writeMagnet_15 : decode cX9_writeMagnet 15 = .ok (.aload_n 0, 1) := by decide +kernel
theorem dX9_writeMagnet_16 : decode cX9_writeMagnet 16 = .ok (.iload_n 1, 1) := by decide +kernel
theorem dX9_writeMagnet_17 : decode cX9_writeMagnet 17 = .ok (.invokevirtual 249, 3) := by decide +kernel
theorem dX9_writeMagnet_20 : decode cX9_writeMagnet 20 = .ok (.aload_n 0, 1) := by decide +kernel
theorem dX9_writeMagnet_21 : decode cX9_writeMagnet 21 = .ok (.bipush 64, 2) := by decide +kernel
theorem dX9_writeMagnet_23 : decode cX9_writeMagnet 23 = .ok (.aload_n 0, 1) := by decide +kernel
theorem dX9_writeMagnet_24 : decode cX9_writeMagnet 24 = .ok (.iload_n 1, 1) := by decide +kernel
theorem dX9_writeMagnet_25 : decode cX9_writeMagnet 25 = .ok (.iconst 0, 1) := by decide +kernel
theorem dX9_writeMagnet_26 : decode cX9_writeMagnet 26 = .ok (.invokevirtual 73, 3) := by decide +kernel
theorem dX9_writeMagnet_29 : decode cX9_writeMagnet 29 = .ok (.invokevirtual 255, 3) := by decide +kernel
theorem dX9_writeMagnet_32 : decode cX9_writeMagnet 32 = .ok (.aload_n 0, 1) := by decide +kernel
theorem dX9_writeMagnet_33 : decode cX9_writeMagnet 33 = .ok (.aload_n 0, 1) := by decide +kernel
theorem dX9_writeMagnet_34 : decode cX9_writeMagnet 34 = .ok (.iload_n 1, 1) := by decide +kernel
theorem dX9_writeMagnet_35 : decode cX9_writeMagnet 35 = .ok (.invokevirtual 107, 3) := by decide +kernel
theorem dX9_writeMagnet_38 : decode cX9_writeMagnet 38 = .ok (.aload_n 0, 1) := by decide +kernel
theorem dX9_writeMagnet_39 : decode cX9_writeMagnet 39 = .ok (.iload_n 1, 1) := by decide +kernel
theorem dX9_writeMagnet_40 : decode cX9_writeMagnet 40 = .ok (.iconst 1, 1) := by decide +kernel
theorem dX9_writeMagnet_41 : decode cX9_writeMagnet 41 = .ok (.invokevirtual 73, 3) := by decide +kernel
theorem dX9_writeMagnet_44 : decode cX9_writeMagnet 44 = .ok (.invokevirtual 255, 3) := by decide +kernel
theorem dX9_writeMagnet_47 : decode cX9_writeMagnet 47 = .ok (.iconst 0, 1) := by decide +kernel
theorem dX9_writeMagnet_48 : decode cX9_writeMagnet 48 = .ok (.istore_n 2, 1) := by decide +kernel
theorem dX9_writeMagnet_49 : decode cX9_writeMagnet 49 = .ok (.iload_n 2, 1) := by decide +kernel
theorem dX9_writeMagnet_50 : decode cX9_writeMagnet 50 = .ok (.aload_n 0, 1) := by decide +kernel
theorem dX9_writeMagnet_51 : decode cX9_writeMagnet 51 = .ok (.getfield 7, 3) := by decide +kernel
theorem dX9_writeMagnet_54 : decode cX9_writeMagnet 54 = .ok (.iconst 1, 1) := by decide +kernel
theorem dX9_writeMagnet_55 : decode cX9_writeMagnet 55 = .ok (.iaload, 1) := by decide +kernel
theorem dX9_writeMagnet_56 : decode cX9_writeMagnet 56 = .ok (.if_icmp .ge 66, 3) := by decide +kernel
theorem dX9_writeMagnet_59 : decode cX9_writeMagnet 59 = .ok (.aload_n 0, 1) := by decide +kernel
theorem dX9_writeMagnet_60 : decode cX9_writeMagnet 60 = .ok (.iload_n 2, 1) := by decide +kernel
theorem dX9_writeMagnet_61 : decode cX9_writeMagnet 61 = .ok (.iconst 0, 1) := by decide +kernel
theorem dX9_writeMagnet_62 : decode cX9_writeMagnet 62 = .ok (.invokevirtual 115, 3) := by decide +kernel
theorem dX9_writeMagnet_65 : decode cX9_writeMagnet 65 = .ok (.istore_n 3, 1) := by decide +kernel
theorem dX9_writeMagnet_66 : decode cX9_writeMagnet 66 = .ok (.aload_n 0, 1) := by decide +kernel
theorem dX9_writeMagnet_67 : decode cX9_writeMagnet 67 = .ok (.iload_n 2, 1) := by decide +kernel
theorem dX9_writeMagnet_68 : decode cX9_writeMagnet 68 = .ok (.iconst 1, 1) := by decide +kernel
theorem dX9_writeMagnet_69 : decode cX9_writeMagnet 69 = .ok (.invokevirtual 115, 3) := by decide +kernel
theorem dX9_writeMagnet_72 : decode cX9_writeMagnet 72 = .ok (.istore 4, 2) := by decide +kernel
theorem dX9_writeMagnet_74 : decode cX9_writeMagnet 74 = .ok (.iload_n 3, 1) := by decide +kernel
theorem dX9_writeMagnet_75 : decode cX9_writeMagnet 75 = .ok (.iload_n 1, 1) := by decide +kernel
theorem dX9_writeMagnet_76 : decode cX9_writeMagnet 76 = .ok (.if_icmp .eq 9, 3) := by decide +kernel
theorem dX9_writeMagnet_79 : decode cX9_writeMagnet 79 = .ok (.iload 4, 2) := by decide +kernel
theorem dX9_writeMagnet_81 : decode cX9_writeMagnet 81 = .ok (.iload_n 1, 1) := by decide +kernel
theorem dX9_writeMagnet_82 : decode cX9_writeMagnet 82 = .ok (.if_icmp .ne 34, 3) := by decide +kernel
theorem dX9_writeMagnet_85 : decode cX9_writeMagnet 85 = .ok (.aload_n 0, 1) := by decide +kernel
theorem dX9_writeMagnet_86 : decode cX9_writeMagnet 86 = .ok (.aload_n 0, 1) := by decide +kernel
theorem dX9_writeMagnet_87 : decode cX9_writeMagnet 87 = .ok (.iload_n 2, 1) := by decide +kernel
theorem dX9_writeMagnet_88 : decode cX9_writeMagnet 88 = .ok (.iconst 0, 1) := by decide +kernel
theorem dX9_writeMagnet_89 : decode cX9_writeMagnet 89 = .ok (.invokevirtual 118, 3) := by decide +kernel
theorem dX9_writeMagnet_92 : decode cX9_writeMagnet 92 = .ok (.ifCond .eq 8, 3) := by decide +kernel
theorem dX9_writeMagnet_95 : decode cX9_writeMagnet 95 = .ok (.bipush 61, 2) := by decide +kernel
theorem dX9_writeMagnet_97 : decode cX9_writeMagnet 97 = .ok (.goto 5, 3) := by decide +kernel
theorem dX9_writeMagnet_100 : decode cX9_writeMagnet 100 = .ok (.bipush 35, 2) := by decide +kernel
theorem dX9_writeMagnet_102 : decode cX9_writeMagnet 102 = .ok (.iload_n 3, 1) := by decide +kernel
theorem dX9_writeMagnet_103 : decode cX9_writeMagnet 103 = .ok (.iload_n 1, 1) := by decide +kernel
theorem dX9_writeMagnet_104 : decode cX9_writeMagnet 104 = .ok (.if_icmp .ne 8, 3) := by decide +kernel
theorem dX9_writeMagnet_107 : decode cX9_writeMagnet 107 = .ok (.iload 4, 2) := by decide +kernel
theorem dX9_writeMagnet_109 : decode cX9_writeMagnet 109 = .ok (.goto 4, 3) := by decide +kernel
theorem dX9_writeMagnet_112 : decode cX9_writeMagnet 112 = .ok (.iload_n 3, 1) := by decide +kernel
theorem dX9_writeMagnet_113 : decode cX9_writeMagnet 113 = .ok (.invokevirtual 255, 3) := by decide +kernel
theorem dX9_writeMagnet_116 : decode cX9_writeMagnet 116 = .ok (.iinc 2 1, 3) := by decide +kernel
theorem dX9_writeMagnet_119 : decode cX9_writeMagnet 119 = .ok (.goto (-70), 3) := by decide +kernel
theorem dX9_writeMagnet_122 : decode cX9_writeMagnet 122 = .ok (.aload_n 0, 1) := by decide +kernel
theorem dX9_writeMagnet_123 : decode cX9_writeMagnet 123 = .ok (.getfield 246, 3) := by decide +kernel
theorem dX9_writeMagnet_126 : decode cX9_writeMagnet 126 = .ok (.ireturn, 1) := by decide +kernel
theorem dX9_lineCharacter_0 : decode cX9_lineCharacter 0 = .ok (.aload_n 0, 1) := by decide +kernel
theorem dX9_lineCharacter_1 : decode cX9_lineCharacter 1 = .ok (.iload_n 1, 1) := by decide +kernel
theorem dX9_lineCharacter_2 : decode cX9_lineCharacter 2 = .ok (.iconst 0, 1) := by decide +kernel
theorem dX9_lineCharacter_3 : decode cX9_lineCharacter 3 = .ok (.aload_n 0, 1) := by decide +kernel
theorem dX9_lineCharacter_4 : decode cX9_lineCharacter 4 = .ok (.getfield 246, 3) := by decide +kernel
theorem dX9_lineCharacter_7 : decode cX9_lineCharacter 7 = .ok (.iconst 1, 1) := by decide +kernel
theorem dX9_lineCharacter_8 : decode cX9_lineCharacter 8 = .ok (.isub, 1) := by decide +kernel
theorem dX9_lineCharacter_9 : decode cX9_lineCharacter 9 = .ok (.invokestatic 62, 3) := by decide +kernel
theorem dX9_lineCharacter_12 : decode cX9_lineCharacter 12 = .ok (.ifCond .eq 7, 3) := by decide +kernel
theorem dX9_lineCharacter_15 : decode cX9_lineCharacter 15 = .ok (.iconst 0, 1) := by decide +kernel
theorem dX9_lineCharacter_16 : decode cX9_lineCharacter 16 = .ok (.goto 4, 3) := by decide +kernel
theorem dX9_lineCharacter_19 : decode cX9_lineCharacter 19 = .ok (.iconst 1, 1) := by decide +kernel
theorem dX9_lineCharacter_20 : decode cX9_lineCharacter 20 = .ok (.invokevirtual 70, 3) := by decide +kernel
theorem dX9_lineCharacter_23 : decode cX9_lineCharacter 23 = .ok (.ifCond .eq 8, 3) := by decide +kernel
theorem dX9_lineCharacter_26 : decode cX9_lineCharacter 26 = .ok (.bipush 32, 2) := by decide +kernel
theorem dX9_lineCharacter_28 : decode cX9_lineCharacter 28 = .ok (.goto 9, 3) := by decide +kernel
theorem dX9_lineCharacter_31 : decode cX9_lineCharacter 31 = .ok (.aload_n 0, 1) := by decide +kernel
theorem dX9_lineCharacter_32 : decode cX9_lineCharacter 32 = .ok (.getfield 29, 3) := by decide +kernel
theorem dX9_lineCharacter_35 : decode cX9_lineCharacter 35 = .ok (.iload_n 1, 1) := by decide +kernel
theorem dX9_lineCharacter_36 : decode cX9_lineCharacter 36 = .ok (.caload, 1) := by decide +kernel
theorem dX9_lineCharacter_37 : decode cX9_lineCharacter 37 = .ok (.ireturn, 1) := by decide +kernel
theorem dX9_denial_0 : decode cX9_denial 0 = .ok (.aload_n 0, 1) := by decide +kernel
theorem dX9_denial_1 : decode cX9_denial 1 = .ok (.aload_n 0, 1) := by decide +kernel
theorem dX9_denial_2 : decode cX9_denial 2 = .ok (.getfield 43, 3) := by decide +kernel
theorem dX9_denial_5 : decode cX9_denial 5 = .ok (.ifCond .ne 7, 3) := by decide +kernel
theorem dX9_denial_8 : decode cX9_denial 8 = .ok (.iconst 1, 1) := by decide +kernel
theorem dX9_denial_9 : decode cX9_denial 9 = .ok (.goto 4, 3) := by decide +kernel
theorem dX9_denial_12 : decode cX9_denial 12 = .ok (.iconst 0, 1) := by decide +kernel
theorem dX9_denial_13 : decode cX9_denial 13 = .ok (.invokevirtual 70, 3) := by decide +kernel
theorem dX9_denial_16 : decode cX9_denial 16 = .ok (.ifCond .eq 7, 3) := by decide +kernel
theorem dX9_denial_19 : decode cX9_denial 19 = .ok (.iconst 0, 1) := by decide +kernel
theorem dX9_denial_20 : decode cX9_denial 20 = .ok (.goto 7, 3) := by decide +kernel
theorem dX9_denial_23 : decode cX9_denial 23 = .ok (.aload_n 0, 1) := by decide +kernel
theorem dX9_denial_24 : decode cX9_denial 24 = .ok (.getfield 43, 3) := by decide +kernel
theorem dX9_denial_27 : decode cX9_denial 27 = .ok (.ireturn, 1) := by decide +kernel
theorem dX9_denialDetail_0 : decode cX9_denialDetail 0 = .ok (.aload_n 0, 1) := by decide +kernel
theorem dX9_denialDetail_1 : decode cX9_denialDetail 1 = .ok (.aload_n 0, 1) := by decide +kernel
theorem dX9_denialDetail_2 : decode cX9_denialDetail 2 = .ok (.getfield 43, 3) := by decide +kernel
theorem dX9_denialDetail_5 : decode cX9_denialDetail 5 = .ok (.ifCond .ne 7, 3) := by decide +kernel
theorem dX9_denialDetail_8 : decode cX9_denialDetail 8 = .ok (.iconst 1, 1) := by decide +kernel
theorem dX9_denialDetail_9 : decode cX9_denialDetail 9 = .ok (.goto 4, 3) := by decide +kernel
theorem dX9_denialDetail_12 : decode cX9_denialDetail 12 = .ok (.iconst 0, 1) := by decide +kernel
theorem dX9_denialDetail_13 : decode cX9_denialDetail 13 = .ok (.invokevirtual 70, 3) := by decide +kernel
theorem dX9_denialDetail_16 : decode cX9_denialDetail 16 = .ok (.ifCond .eq 7, 3) := by decide +kernel
theorem dX9_denialDetail_19 : decode cX9_denialDetail 19 = .ok (.iconst 0, 1) := by decide +kernel
theorem dX9_denialDetail_20 : decode cX9_denialDetail 20 = .ok (.goto 7, 3) := by decide +kernel
theorem dX9_denialDetail_23 : decode cX9_denialDetail 23 = .ok (.aload_n 0, 1) := by decide +kernel
theorem dX9_denialDetail_24 : decode cX9_denialDetail 24 = .ok (.getfield 46, 3) := by decide +kernel
theorem dX9_denialDetail_27 : decode cX9_denialDetail 27 = .ok (.ireturn, 1) := by decide +kernel
theorem dX9_denialCause_0 : decode cX9_denialCause 0 = .ok (.aload_n 0, 1) := by decide +kernel
theorem dX9_denialCause_1 : decode cX9_denialCause 1 = .ok (.aload_n 0, 1) := by decide +kernel
theorem dX9_denialCause_2 : decode cX9_denialCause 2 = .ok (.getfield 49, 3) := by decide +kernel
theorem dX9_denialCause_5 : decode cX9_denialCause 5 = .ok (.ifCond .ne 7, 3) := by decide +kernel
theorem dX9_denialCause_8 : decode cX9_denialCause 8 = .ok (.iconst 1, 1) := by decide +kernel
theorem dX9_denialCause_9 : decode cX9_denialCause 9 = .ok (.goto 4, 3) := by decide +kernel
theorem dX9_denialCause_12 : decode cX9_denialCause 12 = .ok (.iconst 0, 1) := by decide +kernel
theorem dX9_denialCause_13 : decode cX9_denialCause 13 = .ok (.invokevirtual 70, 3) := by decide +kernel
theorem dX9_denialCause_16 : decode cX9_denialCause 16 = .ok (.ifCond .eq 7, 3) := by decide +kernel
theorem dX9_denialCause_19 : decode cX9_denialCause 19 = .ok (.iconst 0, 1) := by decide +kernel
theorem dX9_denialCause_20 : decode cX9_denialCause 20 = .ok (.goto 7, 3) := by decide +kernel
theorem dX9_denialCause_23 : decode cX9_denialCause 23 = .ok (.aload_n 0, 1) := by decide +kernel
theorem dX9_denialCause_24 : decode cX9_denialCause 24 = .ok (.getfield 49, 3) := by decide +kernel
theorem dX9_denialCause_27 : decode cX9_denialCause 27 = .ok (.ireturn, 1) := by decide +kernel
theorem dX9_undo_0 : decode cX9_undo 0 = .ok (.aload_n 0, 1) := by decide +kernel
theorem dX9_undo_1 : decode cX9_undo 1 = .ok (.aload_n 0, 1) := by decide +kernel
theorem dX9_undo_2 : decode cX9_undo 2 = .ok (.getfield 55, 3) := by decide +kernel
theorem dX9_undo_5 : decode cX9_undo 5 = .ok (.ifCond .ne 7, 3) := by decide +kernel
theorem dX9_undo_8 : decode cX9_undo 8 = .ok (.iconst 1, 1) := by decide +kernel
theorem dX9_undo_9 : decode cX9_undo 9 = .ok (.goto 4, 3) := by decide +kernel
theorem dX9_undo_12 : decode cX9_undo 12 = .ok (.iconst 0, 1) := by decide +kernel
theorem dX9_undo_13 : decode cX9_undo 13 = .ok (.invokevirtual 70, 3) := by decide +kernel
theorem dX9_undo_16 : decode cX9_undo 16 = .ok (.ifCond .eq 5, 3) := by decide +kernel
theorem dX9_undo_19 : decode cX9_undo 19 = .ok (.iconst 0, 1) := by decide +kernel
theorem dX9_undo_20 : decode cX9_undo 20 = .ok (.ireturn, 1) := by decide +kernel
theorem dX9_undo_21 : decode cX9_undo 21 = .ok (.aload_n 0, 1) := by decide +kernel
theorem dX9_undo_22 : decode cX9_undo 22 = .ok (.dup, 1) := by decide +kernel
theorem dX9_undo_23 : decode cX9_undo 23 = .ok (.getfield 55, 3) := by decide +kernel
theorem dX9_undo_26 : decode cX9_undo 26 = .ok (.iconst 1, 1) := by decide +kernel
theorem dX9_undo_27 : decode cX9_undo 27 = .ok (.isub, 1) := by decide +kernel
theorem dX9_undo_28 : decode cX9_undo 28 = .ok (.putfield 55, 3) := by decide +kernel
theorem dX9_undo_31 : decode cX9_undo 31 = .ok (.aload_n 0, 1) := by decide +kernel
theorem dX9_undo_32 : decode cX9_undo 32 = .ok (.getfield 13, 3) := by decide +kernel
theorem dX9_undo_35 : decode cX9_undo 35 = .ok (.bipush 72, 2) := by decide +kernel
theorem dX9_undo_37 : decode cX9_undo 37 = .ok (.aload_n 0, 1) := by decide +kernel
theorem dX9_undo_38 : decode cX9_undo 38 = .ok (.getfield 55, 3) := by decide +kernel
theorem dX9_undo_41 : decode cX9_undo 41 = .ok (.imul, 1) := by decide +kernel
theorem dX9_undo_42 : decode cX9_undo 42 = .ok (.aload_n 0, 1) := by decide +kernel
theorem dX9_undo_43 : decode cX9_undo 43 = .ok (.getfield 7, 3) := by decide +kernel
theorem dX9_undo_46 : decode cX9_undo 46 = .ok (.iconst 0, 1) := by decide +kernel
theorem dX9_undo_47 : decode cX9_undo 47 = .ok (.invokestatic 58, 3) := by decide +kernel
theorem dX9_undo_50 : decode cX9_undo 50 = .ok (.aload_n 0, 1) := by decide +kernel
theorem dX9_undo_51 : decode cX9_undo 51 = .ok (.getfield 55, 3) := by decide +kernel
theorem dX9_undo_54 : decode cX9_undo 54 = .ok (.ireturn, 1) := by decide +kernel
theorem dX9_undoCount_0 : decode cX9_undoCount 0 = .ok (.aload_n 0, 1) := by decide +kernel
theorem dX9_undoCount_1 : decode cX9_undoCount 1 = .ok (.iconst 0, 1) := by decide +kernel
theorem dX9_undoCount_2 : decode cX9_undoCount 2 = .ok (.putfield 36, 3) := by decide +kernel
theorem dX9_undoCount_5 : decode cX9_undoCount 5 = .ok (.aload_n 0, 1) := by decide +kernel
theorem dX9_undoCount_6 : decode cX9_undoCount 6 = .ok (.getfield 55, 3) := by decide +kernel
theorem dX9_undoCount_9 : decode cX9_undoCount 9 = .ok (.ireturn, 1) := by decide +kernel
theorem dX9_saveSnapshot_0 : decode cX9_saveSnapshot 0 = .ok (.aload_n 0, 1) := by decide +kernel
theorem dX9_saveSnapshot_1 : decode cX9_saveSnapshot 1 = .ok (.iconst 0, 1) := by decide +kernel
theorem dX9_saveSnapshot_2 : decode cX9_saveSnapshot 2 = .ok (.putfield 36, 3) := by decide +kernel
theorem dX9_saveSnapshot_5 : decode cX9_saveSnapshot 5 = .ok (.aload_n 0, 1) := by decide +kernel
theorem dX9_saveSnapshot_6 : decode cX9_saveSnapshot 6 = .ok (.iconst 1, 1) := by decide +kernel
theorem dX9_saveSnapshot_7 : decode cX9_saveSnapshot 7 = .ok (.putfield 259, 3) := by decide +kernel
theorem dX9_saveSnapshot_10 : decode cX9_saveSnapshot 10 = .ok (.aload_n 0, 1) := by decide +kernel
theorem dX9_saveSnapshot_11 : decode cX9_saveSnapshot 11 = .ok (.getfield 7, 3) := by decide +kernel
theorem dX9_saveSnapshot_14 : decode cX9_saveSnapshot 14 = .ok (.iconst 0, 1) := by decide +kernel
theorem dX9_saveSnapshot_15 : decode cX9_saveSnapshot 15 = .ok (.aload_n 0, 1) := by decide +kernel
theorem dX9_saveSnapshot_16 : decode cX9_saveSnapshot 16 = .ok (.getfield 16, 3) := by decide +kernel
theorem dX9_saveSnapshot_19 : decode cX9_saveSnapshot 19 = .ok (.iconst 0, 1) := by decide +kernel
theorem dX9_saveSnapshot_20 : decode cX9_saveSnapshot 20 = .ok (.invokestatic 58, 3) := by decide +kernel
theorem dX9_saveSnapshot_23 : decode cX9_saveSnapshot 23 = .ok (.aload_n 0, 1) := by decide +kernel
theorem dX9_saveSnapshot_24 : decode cX9_saveSnapshot 24 = .ok (.getfield 7, 3) := by decide +kernel
theorem dX9_saveSnapshot_27 : decode cX9_saveSnapshot 27 = .ok (.iconst 0, 1) := by decide +kernel
theorem dX9_saveSnapshot_28 : decode cX9_saveSnapshot 28 = .ok (.iaload, 1) := by decide +kernel
theorem dX9_saveSnapshot_29 : decode cX9_saveSnapshot 29 = .ok (.ireturn, 1) := by decide +kernel
theorem dX9_restoreSnapshot_0 : decode cX9_restoreSnapshot 0 = .ok (.aload_n 0, 1) := by decide +kernel
theorem dX9_restoreSnapshot_1 : decode cX9_restoreSnapshot 1 = .ok (.aload_n 0, 1) := by decide +kernel
theorem dX9_restoreSnapshot_2 : decode cX9_restoreSnapshot 2 = .ok (.getfield 259, 3) := by decide +kernel
theorem dX9_restoreSnapshot_5 : decode cX9_restoreSnapshot 5 = .ok (.ifCond .eq 7, 3) := by decide +kernel
theorem dX9_restoreSnapshot_8 : decode cX9_restoreSnapshot 8 = .ok (.iconst 0, 1) := by decide +kernel
theorem dX9_restoreSnapshot_9 : decode cX9_restoreSnapshot 9 = .ok (.goto 4, 3) := by decide +kernel
theorem dX9_restoreSnapshot_12 : decode cX9_restoreSnapshot 12 = .ok (.iconst 1, 1) := by decide +kernel
theorem dX9_restoreSnapshot_13 : decode cX9_restoreSnapshot 13 = .ok (.invokevirtual 70, 3) := by decide +kernel
theorem dX9_restoreSnapshot_16 : decode cX9_restoreSnapshot 16 = .ok (.ifCond .eq 5, 3) := by decide +kernel
theorem dX9_restoreSnapshot_19 : decode cX9_restoreSnapshot 19 = .ok (.iconst 0, 1) := by decide +kernel
theorem dX9_restoreSnapshot_20 : decode cX9_restoreSnapshot 20 = .ok (.ireturn, 1) := by decide +kernel
theorem dX9_restoreSnapshot_21 : decode cX9_restoreSnapshot 21 = .ok (.aload_n 0, 1) := by decide +kernel
theorem dX9_restoreSnapshot_22 : decode cX9_restoreSnapshot 22 = .ok (.getfield 16, 3) := by decide +kernel
theorem dX9_restoreSnapshot_25 : decode cX9_restoreSnapshot 25 = .ok (.iconst 0, 1) := by decide +kernel
theorem dX9_restoreSnapshot_26 : decode cX9_restoreSnapshot 26 = .ok (.aload_n 0, 1) := by decide +kernel
theorem dX9_restoreSnapshot_27 : decode cX9_restoreSnapshot 27 = .ok (.getfield 7, 3) := by decide +kernel
theorem dX9_restoreSnapshot_30 : decode cX9_restoreSnapshot 30 = .ok (.iconst 0, 1) := by decide +kernel
theorem dX9_restoreSnapshot_31 : decode cX9_restoreSnapshot 31 = .ok (.invokestatic 58, 3) := by decide +kernel
theorem dX9_restoreSnapshot_34 : decode cX9_restoreSnapshot 34 = .ok (.aload_n 0, 1) := by decide +kernel
theorem dX9_restoreSnapshot_35 : decode cX9_restoreSnapshot 35 = .ok (.iconst 0, 1) := by decide +kernel
theorem dX9_restoreSnapshot_36 : decode cX9_restoreSnapshot 36 = .ok (.putfield 55, 3) := by decide +kernel
theorem dX9_restoreSnapshot_39 : decode cX9_restoreSnapshot 39 = .ok (.aload_n 0, 1) := by decide +kernel
theorem dX9_restoreSnapshot_40 : decode cX9_restoreSnapshot 40 = .ok (.getfield 7, 3) := by decide +kernel
theorem dX9_restoreSnapshot_43 : decode cX9_restoreSnapshot 43 = .ok (.iconst 0, 1) := by decide +kernel
theorem dX9_restoreSnapshot_44 : decode cX9_restoreSnapshot 44 = .ok (.iaload, 1) := by decide +kernel
theorem dX9_restoreSnapshot_45 : decode cX9_restoreSnapshot 45 = .ok (.ireturn, 1) := by decide +kernel
theorem dJx00060_init_a7421_0 : decode cJx00060_init_a7421 0 = .ok (.aload_n 0, 1) := by decide +kernel
theorem dJx00060_init_a7421_1 : decode cJx00060_init_a7421 1 = .ok (.aload_n 1, 1) := by decide +kernel
theorem dJx00060_init_a7421_2 : decode cJx00060_init_a7421 2 = .ok (.invokespecial 7, 3) := by decide +kernel
theorem dJx00060_init_a7421_5 : decode cJx00060_init_a7421 5 = .ok (.return_, 1) := by decide +kernel
theorem dJ6_bitCount_0f7a4_0 : decode cJ6_bitCount_0f7a4 0 = .ok (.iload_n 0, 1) := by decide +kernel
theorem dJ6_bitCount_0f7a4_1 : decode cJ6_bitCount_0f7a4 1 = .ok (.iload_n 0, 1) := by decide +kernel
theorem dJ6_bitCount_0f7a4_2 : decode cJ6_bitCount_0f7a4 2 = .ok (.iconst 1, 1) := by decide +kernel
theorem dJ6_bitCount_0f7a4_3 : decode cJ6_bitCount_0f7a4 3 = .ok (.iushr, 1) := by decide +kernel
theorem dJ6_bitCount_0f7a4_4 : decode cJ6_bitCount_0f7a4 4 = .ok (.ldc_w 265, 3) := by decide +kernel
theorem dJ6_bitCount_0f7a4_7 : decode cJ6_bitCount_0f7a4 7 = .ok (.iand, 1) := by decide +kernel
theorem dJ6_bitCount_0f7a4_8 : decode cJ6_bitCount_0f7a4 8 = .ok (.isub, 1) := by decide +kernel
theorem dJ6_bitCount_0f7a4_9 : decode cJ6_bitCount_0f7a4 9 = .ok (.istore_n 0, 1) := by decide +kernel
theorem dJ6_bitCount_0f7a4_10 : decode cJ6_bitCount_0f7a4 10 = .ok (.iload_n 0, 1) := by decide +kernel
theorem dJ6_bitCount_0f7a4_11 : decode cJ6_bitCount_0f7a4 11 = .ok (.ldc_w 266, 3) := by decide +kernel
theorem dJ6_bitCount_0f7a4_14 : decode cJ6_bitCount_0f7a4 14 = .ok (.iand, 1) := by decide +kernel
theorem dJ6_bitCount_0f7a4_15 : decode cJ6_bitCount_0f7a4 15 = .ok (.iload_n 0, 1) := by decide +kernel
theorem dJ6_bitCount_0f7a4_16 : decode cJ6_bitCount_0f7a4 16 = .ok (.iconst 2, 1) := by decide +kernel
theorem dJ6_bitCount_0f7a4_17 : decode cJ6_bitCount_0f7a4 17 = .ok (.iushr, 1) := by decide +kernel
theorem dJ6_bitCount_0f7a4_18 : decode cJ6_bitCount_0f7a4 18 = .ok (.ldc_w 266, 3) := by decide +kernel
theorem dJ6_bitCount_0f7a4_21 : decode cJ6_bitCount_0f7a4 21 = .ok (.iand, 1) := by decide +kernel
theorem dJ6_bitCount_0f7a4_22 : decode cJ6_bitCount_0f7a4 22 = .ok (.iadd, 1) := by decide +kernel
theorem dJ6_bitCount_0f7a4_23 : decode cJ6_bitCount_0f7a4 23 = .ok (.istore_n 0, 1) := by decide +kernel
theorem dJ6_bitCount_0f7a4_24 : decode cJ6_bitCount_0f7a4 24 = .ok (.iload_n 0, 1) := by decide +kernel
theorem dJ6_bitCount_0f7a4_25 : decode cJ6_bitCount_0f7a4 25 = .ok (.iload_n 0, 1) := by decide +kernel
theorem dJ6_bitCount_0f7a4_26 : decode cJ6_bitCount_0f7a4 26 = .ok (.iconst 4, 1) := by decide +kernel
theorem dJ6_bitCount_0f7a4_27 : decode cJ6_bitCount_0f7a4 27 = .ok (.iushr, 1) := by decide +kernel
theorem dJ6_bitCount_0f7a4_28 : decode cJ6_bitCount_0f7a4 28 = .ok (.iadd, 1) := by decide +kernel
theorem dJ6_bitCount_0f7a4_29 : decode cJ6_bitCount_0f7a4 29 = .ok (.ldc_w 267, 3) := by decide +kernel
theorem dJ6_bitCount_0f7a4_32 : decode cJ6_bitCount_0f7a4 32 = .ok (.iand, 1) := by decide +kernel
theorem dJ6_bitCount_0f7a4_33 : decode cJ6_bitCount_0f7a4 33 = .ok (.istore_n 0, 1) := by decide +kernel
theorem dJ6_bitCount_0f7a4_34 : decode cJ6_bitCount_0f7a4 34 = .ok (.iload_n 0, 1) := by decide +kernel
theorem dJ6_bitCount_0f7a4_35 : decode cJ6_bitCount_0f7a4 35 = .ok (.iload_n 0, 1) := by decide +kernel
theorem dJ6_bitCount_0f7a4_36 : decode cJ6_bitCount_0f7a4 36 = .ok (.bipush 8, 2) := by decide +kernel
theorem dJ6_bitCount_0f7a4_38 : decode cJ6_bitCount_0f7a4 38 = .ok (.iushr, 1) := by decide +kernel
theorem dJ6_bitCount_0f7a4_39 : decode cJ6_bitCount_0f7a4 39 = .ok (.iadd, 1) := by decide +kernel
theorem dJ6_bitCount_0f7a4_40 : decode cJ6_bitCount_0f7a4 40 = .ok (.istore_n 0, 1) := by decide +kernel
theorem dJ6_bitCount_0f7a4_41 : decode cJ6_bitCount_0f7a4 41 = .ok (.iload_n 0, 1) := by decide +kernel
theorem dJ6_bitCount_0f7a4_42 : decode cJ6_bitCount_0f7a4 42 = .ok (.iload_n 0, 1) := by decide +kernel
theorem dJ6_bitCount_0f7a4_43 : decode cJ6_bitCount_0f7a4 43 = .ok (.bipush 16, 2) := by decide +kernel
theorem dJ6_bitCount_0f7a4_45 : decode cJ6_bitCount_0f7a4 45 = .ok (.iushr, 1) := by decide +kernel
theorem dJ6_bitCount_0f7a4_46 : decode cJ6_bitCount_0f7a4 46 = .ok (.iadd, 1) := by decide +kernel
theorem dJ6_bitCount_0f7a4_47 : decode cJ6_bitCount_0f7a4 47 = .ok (.istore_n 0, 1) := by decide +kernel
theorem dJ6_bitCount_0f7a4_48 : decode cJ6_bitCount_0f7a4 48 = .ok (.iload_n 0, 1) := by decide +kernel
theorem dJ6_bitCount_0f7a4_49 : decode cJ6_bitCount_0f7a4 49 = .ok (.bipush 63, 2) := by decide +kernel
theorem dJ6_bitCount_0f7a4_51 : decode cJ6_bitCount_0f7a4 51 = .ok (.iand, 1) := by decide +kernel
theorem dJ6_bitCount_0f7a4_52 : decode cJ6_bitCount_0f7a4 52 = .ok (.ireturn, 1) := by decide +kernel
theorem dJ9_abs_0f7a4_0 : decode cJ9_abs_0f7a4 0 = .ok (.iload_n 0, 1) := by decide +kernel
theorem dJ9_abs_0f7a4_1 : decode cJ9_abs_0f7a4 1 = .ok (.ifCond .ge 8, 3) := by decide +kernel
theorem dJ9_abs_0f7a4_4 : decode cJ9_abs_0f7a4 4 = .ok (.iload_n 0, 1) := by decide +kernel
theorem dJ9_abs_0f7a4_5 : decode cJ9_abs_0f7a4 5 = .ok (.ineg, 1) := by decide +kernel
theorem dJ9_abs_0f7a4_6 : decode cJ9_abs_0f7a4 6 = .ok (.goto 4, 3) := by decide +kernel
theorem dJ9_abs_0f7a4_9 : decode cJ9_abs_0f7a4 9 = .ok (.iload_n 0, 1) := by decide +kernel
theorem dJ9_abs_0f7a4_10 : decode cJ9_abs_0f7a4 10 = .ok (.ireturn, 1) := by decide +kernel
theorem dJ9_max_7cf53_0 : decode cJ9_max_7cf53 0 = .ok (.iload_n 0, 1) := by decide +kernel
theorem dJ9_max_7cf53_1 : decode cJ9_max_7cf53 1 = .ok (.iload_n 1, 1) := by decide +kernel
theorem dJ9_max_7cf53_2 : decode cJ9_max_7cf53 2 = .ok (.if_icmp .lt 7, 3) := by decide +kernel
theorem dJ9_max_7cf53_5 : decode cJ9_max_7cf53 5 = .ok (.iload_n 0, 1) := by decide +kernel
theorem dJ9_max_7cf53_6 : decode cJ9_max_7cf53 6 = .ok (.goto 4, 3) := by decide +kernel
theorem dJ9_max_7cf53_9 : decode cJ9_max_7cf53 9 = .ok (.iload_n 1, 1) := by decide +kernel
theorem dJ9_max_7cf53_10 : decode cJ9_max_7cf53 10 = .ok (.ireturn, 1) := by decide +kernel
theorem dJ9_min_7cf53_0 : decode cJ9_min_7cf53 0 = .ok (.iload_n 0, 1) := by decide +kernel
theorem dJ9_min_7cf53_1 : decode cJ9_min_7cf53 1 = .ok (.iload_n 1, 1) := by decide +kernel
theorem dJ9_min_7cf53_2 : decode cJ9_min_7cf53 2 = .ok (.if_icmp .gt 7, 3) := by decide +kernel
theorem dJ9_min_7cf53_5 : decode cJ9_min_7cf53 5 = .ok (.iload_n 0, 1) := by decide +kernel
theorem dJ9_min_7cf53_6 : decode cJ9_min_7cf53 6 = .ok (.goto 4, 3) := by decide +kernel
theorem dJ9_min_7cf53_9 : decode cJ9_min_7cf53 9 = .ok (.iload_n 1, 1) := by decide +kernel
theorem dJ9_min_7cf53_10 : decode cJ9_min_7cf53 10 = .ok (.ireturn, 1) := by decide +kernel
theorem dJ0_length_8abf5_0 : decode cJ0_length_8abf5 0 = .ok (.aload_n 0, 1) := by decide +kernel
theorem dJ0_length_8abf5_1 : decode cJ0_length_8abf5 1 = .ok (.getfield 9, 3) := by decide +kernel
theorem dJ0_length_8abf5_4 : decode cJ0_length_8abf5 4 = .ok (.arraylength, 1) := by decide +kernel
theorem dJ0_length_8abf5_5 : decode cJ0_length_8abf5 5 = .ok (.aload_n 0, 1) := by decide +kernel
theorem dJ0_length_8abf5_6 : decode cJ0_length_8abf5 6 = .ok (.invokevirtual 335, 3) := by decide +kernel
theorem dJ0_length_8abf5_9 : decode cJ0_length_8abf5 9 = .ok (.ishr, 1) := by decide +kernel
theorem dJ0_length_8abf5_10 : decode cJ0_length_8abf5 10 = .ok (.ireturn, 1) := by decide +kernel
theorem dJ0_charAt_5068e_0 : decode cJ0_charAt_5068e 0 = .ok (.aload_n 0, 1) := by decide +kernel
theorem dJ0_charAt_5068e_1 : decode cJ0_charAt_5068e 1 = .ok (.invokevirtual 492, 3) := by decide +kernel
theorem dJ0_charAt_5068e_4 : decode cJ0_charAt_5068e 4 = .ok (.ifCond .eq 12, 3) := by decide +kernel
theorem dJ0_charAt_5068e_7 : decode cJ0_charAt_5068e 7 = .ok (.aload_n 0, 1) := by decide +kernel
theorem dJ0_charAt_5068e_8 : decode cJ0_charAt_5068e 8 = .ok (.getfield 9, 3) := by decide +kernel
theorem dJ0_charAt_5068e_11 : decode cJ0_charAt_5068e 11 = .ok (.iload_n 1, 1) := by decide +kernel
theorem dJ0_charAt_5068e_12 : decode cJ0_charAt_5068e 12 = .ok (.invokestatic 495, 3) := by decide +kernel
theorem dJ0_charAt_5068e_15 : decode cJ0_charAt_5068e 15 = .ok (.ireturn, 1) := by decide +kernel
theorem dJ0_charAt_5068e_16 : decode cJ0_charAt_5068e 16 = .ok (.aload_n 0, 1) := by decide +kernel
theorem dJ0_charAt_5068e_17 : decode cJ0_charAt_5068e 17 = .ok (.getfield 9, 3) := by decide +kernel
theorem dJ0_charAt_5068e_20 : decode cJ0_charAt_5068e 20 = .ok (.iload_n 1, 1) := by decide +kernel
theorem dJ0_charAt_5068e_21 : decode cJ0_charAt_5068e 21 = .ok (.invokestatic 498, 3) := by decide +kernel
theorem dJ0_charAt_5068e_24 : decode cJ0_charAt_5068e 24 = .ok (.ireturn, 1) := by decide +kernel
theorem dJ0_coder_7d493_0 : decode cJ0_coder_7d493 0 = .ok (.getstatic 38, 3) := by decide +kernel
theorem dJ0_coder_7d493_3 : decode cJ0_coder_7d493 3 = .ok (.ifCond .eq 10, 3) := by decide +kernel
theorem dJ0_coder_7d493_6 : decode cJ0_coder_7d493 6 = .ok (.aload_n 0, 1) := by decide +kernel
theorem dJ0_coder_7d493_7 : decode cJ0_coder_7d493 7 = .ok (.getfield 15, 3) := by decide +kernel
theorem dJ0_coder_7d493_10 : decode cJ0_coder_7d493 10 = .ok (.goto 4, 3) := by decide +kernel
theorem dJ0_coder_7d493_13 : decode cJ0_coder_7d493 13 = .ok (.iconst 1, 1) := by decide +kernel
theorem dJ0_coder_7d493_14 : decode cJ0_coder_7d493 14 = .ok (.ireturn, 1) := by decide +kernel
theorem dJ0_isLatin1_aae02_0 : decode cJ0_isLatin1_aae02 0 = .ok (.getstatic 38, 3) := by decide +kernel
theorem dJ0_isLatin1_aae02_3 : decode cJ0_isLatin1_aae02 3 = .ok (.ifCond .eq 14, 3) := by decide +kernel
theorem dJ0_isLatin1_aae02_6 : decode cJ0_isLatin1_aae02 6 = .ok (.aload_n 0, 1) := by decide +kernel
theorem dJ0_isLatin1_aae02_7 : decode cJ0_isLatin1_aae02 7 = .ok (.getfield 15, 3) := by decide +kernel
theorem dJ0_isLatin1_aae02_10 : decode cJ0_isLatin1_aae02 10 = .ok (.ifCond .ne 7, 3) := by decide +kernel
theorem dJ0_isLatin1_aae02_13 : decode cJ0_isLatin1_aae02 13 = .ok (.iconst 1, 1) := by decide +kernel
theorem dJ0_isLatin1_aae02_14 : decode cJ0_isLatin1_aae02 14 = .ok (.goto 4, 3) := by decide +kernel
theorem dJ0_isLatin1_aae02_17 : decode cJ0_isLatin1_aae02 17 = .ok (.iconst 0, 1) := by decide +kernel
theorem dJ0_isLatin1_aae02_18 : decode cJ0_isLatin1_aae02 18 = .ok (.ireturn, 1) := by decide +kernel
theorem dJ0_checkIndex_df160_0 : decode cJ0_checkIndex_df160 0 = .ok (.iload_n 0, 1) := by decide +kernel
theorem dJ0_checkIndex_df160_1 : decode cJ0_checkIndex_df160 1 = .ok (.iload_n 1, 1) := by decide +kernel
theorem dJ0_checkIndex_df160_2 : decode cJ0_checkIndex_df160 2 = .ok (.getstatic 1053, 3) := by decide +kernel
theorem dJ0_checkIndex_df160_5 : decode cJ0_checkIndex_df160 5 = .ok (.invokestatic 1059, 3) := by decide +kernel
theorem dJ0_checkIndex_df160_8 : decode cJ0_checkIndex_df160 8 = .ok (.pop, 1) := by decide +kernel
theorem dJ0_checkIndex_df160_9 : decode cJ0_checkIndex_df160 9 = .ok (.return_, 1) := by decide +kernel
theorem dJ1_charAt_3b067_0 : decode cJ1_charAt_3b067 0 = .ok (.iload_n 1, 1) := by decide +kernel
theorem dJ1_charAt_3b067_1 : decode cJ1_charAt_3b067 1 = .ok (.aload_n 0, 1) := by decide +kernel
theorem dJ1_charAt_3b067_2 : decode cJ1_charAt_3b067 2 = .ok (.arraylength, 1) := by decide +kernel
theorem dJ1_charAt_3b067_3 : decode cJ1_charAt_3b067 3 = .ok (.invokestatic 9, 3) := by decide +kernel
theorem dJ1_charAt_3b067_6 : decode cJ1_charAt_3b067 6 = .ok (.aload_n 0, 1) := by decide +kernel
theorem dJ1_charAt_3b067_7 : decode cJ1_charAt_3b067 7 = .ok (.iload_n 1, 1) := by decide +kernel
theorem dJ1_charAt_3b067_8 : decode cJ1_charAt_3b067 8 = .ok (.baload, 1) := by decide +kernel
theorem dJ1_charAt_3b067_9 : decode cJ1_charAt_3b067 9 = .ok (.sipush 255, 3) := by decide +kernel
theorem dJ1_charAt_3b067_12 : decode cJ1_charAt_3b067 12 = .ok (.iand, 1) := by decide +kernel
theorem dJ1_charAt_3b067_13 : decode cJ1_charAt_3b067 13 = .ok (.i2c, 1) := by decide +kernel
theorem dJ1_charAt_3b067_14 : decode cJ1_charAt_3b067 14 = .ok (.ireturn, 1) := by decide +kernel
theorem dJ2_getChar_3b067_0 : decode cJ2_getChar_3b067 0 = .ok (.getstatic 44, 3) := by decide +kernel
theorem dJ2_getChar_3b067_3 : decode cJ2_getChar_3b067 3 = .ok (.ifCond .ne 25, 3) := by decide +kernel
theorem dJ2_getChar_3b067_6 : decode cJ2_getChar_3b067 6 = .ok (.iload_n 1, 1) := by decide +kernel
theorem dJ2_getChar_3b067_7 : decode cJ2_getChar_3b067 7 = .ok (.ifCond .lt 11, 3) := by decide +kernel
theorem dJ2_getChar_3b067_10 : decode cJ2_getChar_3b067 10 = .ok (.iload_n 1, 1) := by decide +kernel
theorem dJ2_getChar_3b067_11 : decode cJ2_getChar_3b067 11 = .ok (.aload_n 0, 1) := by decide +kernel
theorem dJ2_getChar_3b067_12 : decode cJ2_getChar_3b067 12 = .ok (.invokestatic 48, 3) := by decide +kernel
theorem dJ2_getChar_3b067_15 : decode cJ2_getChar_3b067 15 = .ok (.if_icmp .lt 13, 3) := by decide +kernel
theorem dJ2_getChar_3b067_18 : decode cJ2_getChar_3b067 18 = .ok (.new 52, 3) := by decide +kernel
theorem dJ2_getChar_3b067_21 : decode cJ2_getChar_3b067 21 = .ok (.dup, 1) := by decide +kernel
theorem dJ2_getChar_3b067_22 : decode cJ2_getChar_3b067 22 = .ok (.ldc 54, 2) := by decide +kernel
theorem dJ2_getChar_3b067_24 : decode cJ2_getChar_3b067 24 = .ok (.invokespecial 56, 3) := by decide +kernel
theorem dJ2_getChar_3b067_27 : decode cJ2_getChar_3b067 27 = .ok (.athrow, 1) := by decide +kernel
theorem dJ2_getChar_3b067_28 : decode cJ2_getChar_3b067 28 = .ok (.iload_n 1, 1) := by decide +kernel
theorem dJ2_getChar_3b067_29 : decode cJ2_getChar_3b067 29 = .ok (.iconst 1, 1) := by decide +kernel
theorem dJ2_getChar_3b067_30 : decode cJ2_getChar_3b067 30 = .ok (.ishl, 1) := by decide +kernel
theorem dJ2_getChar_3b067_31 : decode cJ2_getChar_3b067 31 = .ok (.istore_n 1, 1) := by decide +kernel
theorem dJ2_getChar_3b067_32 : decode cJ2_getChar_3b067 32 = .ok (.aload_n 0, 1) := by decide +kernel
theorem dJ2_getChar_3b067_33 : decode cJ2_getChar_3b067 33 = .ok (.iload_n 1, 1) := by decide +kernel
theorem dJ2_getChar_3b067_34 : decode cJ2_getChar_3b067 34 = .ok (.iinc 1 1, 3) := by decide +kernel
theorem dJ2_getChar_3b067_37 : decode cJ2_getChar_3b067 37 = .ok (.baload, 1) := by decide +kernel
theorem dJ2_getChar_3b067_38 : decode cJ2_getChar_3b067 38 = .ok (.sipush 255, 3) := by decide +kernel
theorem dJ2_getChar_3b067_41 : decode cJ2_getChar_3b067 41 = .ok (.iand, 1) := by decide +kernel
theorem dJ2_getChar_3b067_42 : decode cJ2_getChar_3b067 42 = .ok (.getstatic 59, 3) := by decide +kernel
theorem dJ2_getChar_3b067_45 : decode cJ2_getChar_3b067 45 = .ok (.ishl, 1) := by decide +kernel
theorem dJ2_getChar_3b067_46 : decode cJ2_getChar_3b067 46 = .ok (.aload_n 0, 1) := by decide +kernel
theorem dJ2_getChar_3b067_47 : decode cJ2_getChar_3b067 47 = .ok (.iload_n 1, 1) := by decide +kernel
theorem dJ2_getChar_3b067_48 : decode cJ2_getChar_3b067 48 = .ok (.baload, 1) := by decide +kernel
theorem dJ2_getChar_3b067_49 : decode cJ2_getChar_3b067 49 = .ok (.sipush 255, 3) := by decide +kernel
theorem dJ2_getChar_3b067_52 : decode cJ2_getChar_3b067 52 = .ok (.iand, 1) := by decide +kernel
theorem dJ2_getChar_3b067_53 : decode cJ2_getChar_3b067 53 = .ok (.getstatic 63, 3) := by decide +kernel
theorem dJ2_getChar_3b067_56 : decode cJ2_getChar_3b067 56 = .ok (.ishl, 1) := by decide +kernel
theorem dJ2_getChar_3b067_57 : decode cJ2_getChar_3b067 57 = .ok (.ior, 1) := by decide +kernel
theorem dJ2_getChar_3b067_58 : decode cJ2_getChar_3b067 58 = .ok (.i2c, 1) := by decide +kernel
theorem dJ2_getChar_3b067_59 : decode cJ2_getChar_3b067 59 = .ok (.ireturn, 1) := by decide +kernel
theorem dJ2_length_9d52b_0 : decode cJ2_length_9d52b 0 = .ok (.aload_n 0, 1) := by decide +kernel
theorem dJ2_length_9d52b_1 : decode cJ2_length_9d52b 1 = .ok (.arraylength, 1) := by decide +kernel
theorem dJ2_length_9d52b_2 : decode cJ2_length_9d52b 2 = .ok (.iconst 1, 1) := by decide +kernel
theorem dJ2_length_9d52b_3 : decode cJ2_length_9d52b 3 = .ok (.ishr, 1) := by decide +kernel
theorem dJ2_length_9d52b_4 : decode cJ2_length_9d52b 4 = .ok (.ireturn, 1) := by decide +kernel
theorem dJ2_charAt_3b067_0 : decode cJ2_charAt_3b067 0 = .ok (.iload_n 1, 1) := by decide +kernel
theorem dJ2_charAt_3b067_1 : decode cJ2_charAt_3b067 1 = .ok (.aload_n 0, 1) := by decide +kernel
theorem dJ2_charAt_3b067_2 : decode cJ2_charAt_3b067 2 = .ok (.invokestatic 67, 3) := by decide +kernel
theorem dJ2_charAt_3b067_5 : decode cJ2_charAt_3b067 5 = .ok (.aload_n 0, 1) := by decide +kernel
theorem dJ2_charAt_3b067_6 : decode cJ2_charAt_3b067 6 = .ok (.iload_n 1, 1) := by decide +kernel
theorem dJ2_charAt_3b067_7 : decode cJ2_charAt_3b067 7 = .ok (.invokestatic 71, 3) := by decide +kernel
theorem dJ2_charAt_3b067_10 : decode cJ2_charAt_3b067 10 = .ok (.ireturn, 1) := by decide +kernel
theorem dJ2_checkIndex_2214a_0 : decode cJ2_checkIndex_2214a 0 = .ok (.iload_n 0, 1) := by decide +kernel
theorem dJ2_checkIndex_2214a_1 : decode cJ2_checkIndex_2214a 1 = .ok (.aload_n 1, 1) := by decide +kernel
theorem dJ2_checkIndex_2214a_2 : decode cJ2_checkIndex_2214a 2 = .ok (.invokestatic 48, 3) := by decide +kernel
theorem dJ2_checkIndex_2214a_5 : decode cJ2_checkIndex_2214a 5 = .ok (.invokestatic 414, 3) := by decide +kernel
theorem dJ2_checkIndex_2214a_8 : decode cJ2_checkIndex_2214a 8 = .ok (.return_, 1) := by decide +kernel
theorem dJ7_fill_53178_0 : decode cJ7_fill_53178 0 = .ok (.iconst 0, 1) := by decide +kernel
theorem dJ7_fill_53178_1 : decode cJ7_fill_53178 1 = .ok (.istore_n 2, 1) := by decide +kernel
theorem dJ7_fill_53178_2 : decode cJ7_fill_53178 2 = .ok (.aload_n 0, 1) := by decide +kernel
theorem dJ7_fill_53178_3 : decode cJ7_fill_53178 3 = .ok (.arraylength, 1) := by decide +kernel
theorem dJ7_fill_53178_4 : decode cJ7_fill_53178 4 = .ok (.istore_n 3, 1) := by decide +kernel
theorem dJ7_fill_53178_5 : decode cJ7_fill_53178 5 = .ok (.iload_n 2, 1) := by decide +kernel
theorem dJ7_fill_53178_6 : decode cJ7_fill_53178 6 = .ok (.iload_n 3, 1) := by decide +kernel
theorem dJ7_fill_53178_7 : decode cJ7_fill_53178 7 = .ok (.if_icmp .ge 13, 3) := by decide +kernel
theorem dJ7_fill_53178_10 : decode cJ7_fill_53178 10 = .ok (.aload_n 0, 1) := by decide +kernel
theorem dJ7_fill_53178_11 : decode cJ7_fill_53178 11 = .ok (.iload_n 2, 1) := by decide +kernel
theorem dJ7_fill_53178_12 : decode cJ7_fill_53178 12 = .ok (.iload_n 1, 1) := by decide +kernel
theorem dJ7_fill_53178_13 : decode cJ7_fill_53178 13 = .ok (.iastore, 1) := by decide +kernel
theorem dJ7_fill_53178_14 : decode cJ7_fill_53178 14 = .ok (.iinc 2 1, 3) := by decide +kernel
theorem dJ7_fill_53178_17 : decode cJ7_fill_53178 17 = .ok (.goto (-12), 3) := by decide +kernel
theorem dJ7_fill_53178_20 : decode cJ7_fill_53178 20 = .ok (.return_, 1) := by decide +kernel
theorem dJ3_checkIndex_8e157_0 : decode cJ3_checkIndex_8e157 0 = .ok (.iload_n 0, 1) := by decide +kernel
theorem dJ3_checkIndex_8e157_1 : decode cJ3_checkIndex_8e157 1 = .ok (.ifCond .lt 8, 3) := by decide +kernel
theorem dJ3_checkIndex_8e157_4 : decode cJ3_checkIndex_8e157 4 = .ok (.iload_n 0, 1) := by decide +kernel
theorem dJ3_checkIndex_8e157_5 : decode cJ3_checkIndex_8e157 5 = .ok (.iload_n 1, 1) := by decide +kernel
theorem dJ3_checkIndex_8e157_6 : decode cJ3_checkIndex_8e157 6 = .ok (.if_icmp .lt 10, 3) := by decide +kernel
theorem dJ3_checkIndex_8e157_9 : decode cJ3_checkIndex_8e157 9 = .ok (.aload_n 2, 1) := by decide +kernel
theorem dJ3_checkIndex_8e157_10 : decode cJ3_checkIndex_8e157 10 = .ok (.iload_n 0, 1) := by decide +kernel
theorem dJ3_checkIndex_8e157_11 : decode cJ3_checkIndex_8e157 11 = .ok (.iload_n 1, 1) := by decide +kernel
theorem dJ3_checkIndex_8e157_12 : decode cJ3_checkIndex_8e157 12 = .ok (.invokestatic 95, 3) := by decide +kernel
theorem dJ3_checkIndex_8e157_15 : decode cJ3_checkIndex_8e157 15 = .ok (.athrow, 1) := by decide +kernel
theorem dJ3_checkIndex_8e157_16 : decode cJ3_checkIndex_8e157 16 = .ok (.iload_n 0, 1) := by decide +kernel
theorem dJ3_checkIndex_8e157_17 : decode cJ3_checkIndex_8e157 17 = .ok (.ireturn, 1) := by decide +kernel

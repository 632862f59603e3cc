theorem dX0_init_0 : decode cX0_init 0 = .ok (.aload_n 0, 1) := by decide +kernel
theorem dX0_init_1 : decode cX0_init 1 = .ok (.invokespecial 3, 3) := by decide +kernel
theorem dX0_init_4 : decode cX0_init 4 = .ok (.aload_n 0, 1) := by decide +kernel
theorem dX0_init_5 : decode cX0_init 5 = .ok (.aload_n 1, 1) := by decide +kernel
theorem dX0_init_6 : decode cX0_init 6 = .ok (.putfield 9, 3) := by decide +kernel
theorem dX0_init_9 : decode cX0_init 9 = .ok (.aload_n 0, 1) := by decide +kernel
theorem dX0_init_10 : decode cX0_init 10 = .ok (.aload_n 2, 1) := by decide +kernel
theorem dX0_init_11 : decode cX0_init 11 = .ok (.putfield 15, 3) := by decide +kernel
theorem dX0_init_14 : decode cX0_init 14 = .ok (.aload_n 0, 1) := by decide +kernel
theorem dX0_init_15 : decode cX0_init 15 = .ok (.aload_n 3, 1) := by decide +kernel
theorem dX0_init_16 : decode cX0_init 16 = .ok (.putfield 19, 3) := by decide +kernel
theorem dX0_init_19 : decode cX0_init 19 = .ok (.return_, 1) := by decide +kernel
theorem dX0_judge_0 : decode cX0_judge 0 = .ok (.iload_n 1, 1) := by decide +kernel
theorem dX0_judge_1 : decode cX0_judge 1 = .ok (.tableswitch 123 0 7 #[47, 54, 61, 79, 123, 93, 100, 118], 47) := by decide +kernel
theorem dX0_judge_48 : decode cX0_judge 48 = .ok (.aload_n 0, 1) := by decide +kernel
theorem dX0_judge_49 : decode cX0_judge 49 = .ok (.iload_n 2, 1) := by decide +kernel
theorem dX0_judge_50 : decode cX0_judge 50 = .ok (.iload_n 3, 1) := by decide +kernel
theorem dX0_judge_51 : decode cX0_judge 51 = .ok (.invokevirtual 23, 3) := by decide +kernel
theorem dX0_judge_54 : decode cX0_judge 54 = .ok (.ireturn, 1) := by decide +kernel
theorem dX0_judge_55 : decode cX0_judge 55 = .ok (.aload_n 0, 1) := by decide +kernel
theorem dX0_judge_56 : decode cX0_judge 56 = .ok (.iload_n 2, 1) := by decide +kernel
theorem dX0_judge_57 : decode cX0_judge 57 = .ok (.iload_n 3, 1) := by decide +kernel
theorem dX0_judge_58 : decode cX0_judge 58 = .ok (.invokevirtual 27, 3) := by decide +kernel
theorem dX0_judge_61 : decode cX0_judge 61 = .ok (.ireturn, 1) := by decide +kernel
theorem dX0_judge_62 : decode cX0_judge 62 = .ok (.aload_n 0, 1) := by decide +kernel
theorem dX0_judge_63 : decode cX0_judge 63 = .ok (.getfield 9, 3) := by decide +kernel
theorem dX0_judge_66 : decode cX0_judge 66 = .ok (.iload_n 2, 1) := by decide +kernel
theorem dX0_judge_67 : decode cX0_judge 67 = .ok (.invokevirtual 30, 3) := by decide +kernel
theorem dX0_judge_70 : decode cX0_judge 70 = .ok (.ifCond .eq 7, 3) := by decide +kernel
theorem dX0_judge_73 : decode cX0_judge 73 = .ok (.iconst 0, 1) := by decide +kernel
theorem dX0_judge_74 : decode cX0_judge 74 = .ok (.goto 5, 3) := by decide +kernel
theorem dX0_judge_77 : decode cX0_judge 77 = .ok (.bipush 8, 2) := by decide +kernel
theorem dX0_judge_79 : decode cX0_judge 79 = .ok (.ireturn, 1) := by decide +kernel
theorem dX0_judge_80 : decode cX0_judge 80 = .ok (.iload_n 2, 1) := by decide +kernel
theorem dX0_judge_81 : decode cX0_judge 81 = .ok (.invokestatic 36, 3) := by decide +kernel
theorem dX0_judge_84 : decode cX0_judge 84 = .ok (.ifCond .eq 7, 3) := by decide +kernel
theorem dX0_judge_87 : decode cX0_judge 87 = .ok (.iconst 0, 1) := by decide +kernel
theorem dX0_judge_88 : decode cX0_judge 88 = .ok (.goto 5, 3) := by decide +kernel
theorem dX0_judge_91 : decode cX0_judge 91 = .ok (.bipush 9, 2) := by decide +kernel
theorem dX0_judge_93 : decode cX0_judge 93 = .ok (.ireturn, 1) := by decide +kernel
theorem dX0_judge_94 : decode cX0_judge 94 = .ok (.aload_n 0, 1) := by decide +kernel
theorem dX0_judge_95 : decode cX0_judge 95 = .ok (.iload_n 2, 1) := by decide +kernel
theorem dX0_judge_96 : decode cX0_judge 96 = .ok (.iload_n 3, 1) := by decide +kernel
theorem dX0_judge_97 : decode cX0_judge 97 = .ok (.invokevirtual 39, 3) := by decide +kernel
theorem dX0_judge_100 : decode cX0_judge 100 = .ok (.ireturn, 1) := by decide +kernel
theorem dX0_judge_101 : decode cX0_judge 101 = .ok (.aload_n 0, 1) := by decide +kernel
theorem dX0_judge_102 : decode cX0_judge 102 = .ok (.getfield 9, 3) := by decide +kernel
theorem dX0_judge_105 : decode cX0_judge 105 = .ok (.iload_n 2, 1) := by decide +kernel
theorem dX0_judge_106 : decode cX0_judge 106 = .ok (.invokevirtual 42, 3) := by decide +kernel
theorem dX0_judge_109 : decode cX0_judge 109 = .ok (.ifCond .eq 7, 3) := by decide +kernel
theorem dX0_judge_112 : decode cX0_judge 112 = .ok (.iconst 0, 1) := by decide +kernel
theorem dX0_judge_113 : decode cX0_judge 113 = .ok (.goto 5, 3) := by decide +kernel
theorem dX0_judge_116 : decode cX0_judge 116 = .ok (.bipush 8, 2) := by decide +kernel
theorem dX0_judge_118 : decode cX0_judge 118 = .ok (.ireturn, 1) := by decide +kernel
theorem dX0_judge_119 : decode cX0_judge 119 = .ok (.aload_n 0, 1) := by decide +kernel
theorem dX0_judge_120 : decode cX0_judge 120 = .ok (.invokevirtual 45, 3) := by decide +kernel
theorem dX0_judge_123 : decode cX0_judge 123 = .ok (.ireturn, 1) := by decide +kernel
theorem dX0_judge_124 : decode cX0_judge 124 = .ok (.iconst 0, 1) := by decide +kernel
theorem dX0_judge_125 : decode cX0_judge 125 = .ok (.ireturn, 1) := by decide +kernel
theorem dX0_judgeAdding_0 : decode cX0_judgeAdding 0 = .ok (.iload_n 1, 1) := by decide +kernel
theorem dX0_judgeAdding_1 : decode cX0_judgeAdding 1 = .ok (.invokestatic 36, 3) := by decide +kernel
theorem dX0_judgeAdding_4 : decode cX0_judgeAdding 4 = .ok (.ifCond .eq 10, 3) := by decide +kernel
theorem dX0_judgeAdding_7 : decode cX0_judgeAdding 7 = .ok (.iload_n 2, 1) := by decide +kernel
theorem dX0_judgeAdding_8 : decode cX0_judgeAdding 8 = .ok (.invokestatic 49, 3) := by decide +kernel
theorem dX0_judgeAdding_11 : decode cX0_judgeAdding 11 = .ok (.ifCond .ne 6, 3) := by decide +kernel
theorem dX0_judgeAdding_14 : decode cX0_judgeAdding 14 = .ok (.bipush 9, 2) := by decide +kernel
theorem dX0_judgeAdding_16 : decode cX0_judgeAdding 16 = .ok (.ireturn, 1) := by decide +kernel
theorem dX0_judgeAdding_17 : decode cX0_judgeAdding 17 = .ok (.aload_n 0, 1) := by decide +kernel
theorem dX0_judgeAdding_18 : decode cX0_judgeAdding 18 = .ok (.getfield 9, 3) := by decide +kernel
theorem dX0_judgeAdding_21 : decode cX0_judgeAdding 21 = .ok (.getfield 52, 3) := by decide +kernel
theorem dX0_judgeAdding_24 : decode cX0_judgeAdding 24 = .ok (.bipush 9, 2) := by decide +kernel
theorem dX0_judgeAdding_26 : decode cX0_judgeAdding 26 = .ok (.if_icmp .lt 11, 3) := by decide +kernel
theorem dX0_judgeAdding_29 : decode cX0_judgeAdding 29 = .ok (.aload_n 0, 1) := by decide +kernel
theorem dX0_judgeAdding_30 : decode cX0_judgeAdding 30 = .ok (.iconst 1, 1) := by decide +kernel
theorem dX0_judgeAdding_31 : decode cX0_judgeAdding 31 = .ok (.bipush 9, 2) := by decide +kernel
theorem dX0_judgeAdding_33 : decode cX0_judgeAdding 33 = .ok (.invokevirtual 56, 3) := by decide +kernel
theorem dX0_judgeAdding_36 : decode cX0_judgeAdding 36 = .ok (.ireturn, 1) := by decide +kernel
theorem dX0_judgeAdding_37 : decode cX0_judgeAdding 37 = .ok (.aload_n 0, 1) := by decide +kernel
theorem dX0_judgeAdding_38 : decode cX0_judgeAdding 38 = .ok (.getfield 9, 3) := by decide +kernel
theorem dX0_judgeAdding_41 : decode cX0_judgeAdding 41 = .ok (.iload_n 1, 1) := by decide +kernel
theorem dX0_judgeAdding_42 : decode cX0_judgeAdding 42 = .ok (.invokevirtual 59, 3) := by decide +kernel
theorem dX0_judgeAdding_45 : decode cX0_judgeAdding 45 = .ok (.istore_n 3, 1) := by decide +kernel
theorem dX0_judgeAdding_46 : decode cX0_judgeAdding 46 = .ok (.iload_n 3, 1) := by decide +kernel
theorem dX0_judgeAdding_47 : decode cX0_judgeAdding 47 = .ok (.iconst (-1), 1) := by decide +kernel
theorem dX0_judgeAdding_48 : decode cX0_judgeAdding 48 = .ok (.if_icmp .ne 7, 3) := by decide +kernel
theorem dX0_judgeAdding_51 : decode cX0_judgeAdding 51 = .ok (.iconst 0, 1) := by decide +kernel
theorem dX0_judgeAdding_52 : decode cX0_judgeAdding 52 = .ok (.goto 9, 3) := by decide +kernel
theorem dX0_judgeAdding_55 : decode cX0_judgeAdding 55 = .ok (.aload_n 0, 1) := by decide +kernel
theorem dX0_judgeAdding_56 : decode cX0_judgeAdding 56 = .ok (.iconst 2, 1) := by decide +kernel
theorem dX0_judgeAdding_57 : decode cX0_judgeAdding 57 = .ok (.iload_n 3, 1) := by decide +kernel
theorem dX0_judgeAdding_58 : decode cX0_judgeAdding 58 = .ok (.invokevirtual 56, 3) := by decide +kernel
theorem dX0_judgeAdding_61 : decode cX0_judgeAdding 61 = .ok (.ireturn, 1) := by decide +kernel
theorem dX0_judgeStrength_0 : decode cX0_judgeStrength 0 = .ok (.aload_n 0, 1) := by decide +kernel
theorem dX0_judgeStrength_1 : decode cX0_judgeStrength 1 = .ok (.getfield 9, 3) := by decide +kernel
theorem dX0_judgeStrength_4 : decode cX0_judgeStrength 4 = .ok (.iload_n 1, 1) := by decide +kernel
theorem dX0_judgeStrength_5 : decode cX0_judgeStrength 5 = .ok (.invokevirtual 30, 3) := by decide +kernel
theorem dX0_judgeStrength_8 : decode cX0_judgeStrength 8 = .ok (.ifCond .ne 6, 3) := by decide +kernel
theorem dX0_judgeStrength_11 : decode cX0_judgeStrength 11 = .ok (.bipush 8, 2) := by decide +kernel
theorem dX0_judgeStrength_13 : decode cX0_judgeStrength 13 = .ok (.ireturn, 1) := by decide +kernel
theorem dX0_judgeStrength_14 : decode cX0_judgeStrength 14 = .ok (.iload_n 2, 1) := by decide +kernel
theorem dX0_judgeStrength_15 : decode cX0_judgeStrength 15 = .ok (.invokestatic 49, 3) := by decide +kernel
theorem dX0_judgeStrength_18 : decode cX0_judgeStrength 18 = .ok (.ifCond .eq 7, 3) := by decide +kernel
theorem dX0_judgeStrength_21 : decode cX0_judgeStrength 21 = .ok (.iconst 0, 1) := by decide +kernel
theorem dX0_judgeStrength_22 : decode cX0_judgeStrength 22 = .ok (.goto 5, 3) := by decide +kernel
theorem dX0_judgeStrength_25 : decode cX0_judgeStrength 25 = .ok (.bipush 9, 2) := by decide +kernel
theorem dX0_judgeStrength_27 : decode cX0_judgeStrength 27 = .ok (.ireturn, 1) := by decide +kernel
theorem dX0_judgeDigging_0 : decode cX0_judgeDigging 0 = .ok (.aload_n 0, 1) := by decide +kernel
theorem dX0_judgeDigging_1 : decode cX0_judgeDigging 1 = .ok (.getfield 9, 3) := by decide +kernel
theorem dX0_judgeDigging_4 : decode cX0_judgeDigging 4 = .ok (.iload_n 1, 1) := by decide +kernel
theorem dX0_judgeDigging_5 : decode cX0_judgeDigging 5 = .ok (.invokevirtual 30, 3) := by decide +kernel
theorem dX0_judgeDigging_8 : decode cX0_judgeDigging 8 = .ok (.ifCond .eq 14, 3) := by decide +kernel
theorem dX0_judgeDigging_11 : decode cX0_judgeDigging 11 = .ok (.aload_n 0, 1) := by decide +kernel
theorem dX0_judgeDigging_12 : decode cX0_judgeDigging 12 = .ok (.getfield 9, 3) := by decide +kernel
theorem dX0_judgeDigging_15 : decode cX0_judgeDigging 15 = .ok (.iload_n 2, 1) := by decide +kernel
theorem dX0_judgeDigging_16 : decode cX0_judgeDigging 16 = .ok (.invokevirtual 30, 3) := by decide +kernel
theorem dX0_judgeDigging_19 : decode cX0_judgeDigging 19 = .ok (.ifCond .ne 6, 3) := by decide +kernel
theorem dX0_judgeDigging_22 : decode cX0_judgeDigging 22 = .ok (.bipush 8, 2) := by decide +kernel
theorem dX0_judgeDigging_24 : decode cX0_judgeDigging 24 = .ok (.ireturn, 1) := by decide +kernel
theorem dX0_judgeDigging_25 : decode cX0_judgeDigging 25 = .ok (.iload_n 1, 1) := by decide +kernel
theorem dX0_judgeDigging_26 : decode cX0_judgeDigging 26 = .ok (.iload_n 2, 1) := by decide +kernel
theorem dX0_judgeDigging_27 : decode cX0_judgeDigging 27 = .ok (.if_icmp .ne 6, 3) := by decide +kernel
theorem dX0_judgeDigging_30 : decode cX0_judgeDigging 30 = .ok (.bipush 9, 2) := by decide +kernel
theorem dX0_judgeDigging_32 : decode cX0_judgeDigging 32 = .ok (.ireturn, 1) := by decide +kernel
theorem dX0_judgeDigging_33 : decode cX0_judgeDigging 33 = .ok (.aload_n 0, 1) := by decide +kernel
theorem dX0_judgeDigging_34 : decode cX0_judgeDigging 34 = .ok (.getfield 9, 3) := by decide +kernel
theorem dX0_judgeDigging_37 : decode cX0_judgeDigging 37 = .ok (.iload_n 1, 1) := by decide +kernel
theorem dX0_judgeDigging_38 : decode cX0_judgeDigging 38 = .ok (.iload_n 2, 1) := by decide +kernel
theorem dX0_judgeDigging_39 : decode cX0_judgeDigging 39 = .ok (.invokevirtual 63, 3) := by decide +kernel
theorem dX0_judgeDigging_42 : decode cX0_judgeDigging 42 = .ok (.istore_n 3, 1) := by decide +kernel
theorem dX0_judgeDigging_43 : decode cX0_judgeDigging 43 = .ok (.iload_n 3, 1) := by decide +kernel
theorem dX0_judgeDigging_44 : decode cX0_judgeDigging 44 = .ok (.iconst (-1), 1) := by decide +kernel
theorem dX0_judgeDigging_45 : decode cX0_judgeDigging 45 = .ok (.if_icmp .eq 10, 3) := by decide +kernel
theorem dX0_judgeDigging_48 : decode cX0_judgeDigging 48 = .ok (.aload_n 0, 1) := by decide +kernel
theorem dX0_judgeDigging_49 : decode cX0_judgeDigging 49 = .ok (.iconst 3, 1) := by decide +kernel
theorem dX0_judgeDigging_50 : decode cX0_judgeDigging 50 = .ok (.iload_n 3, 1) := by decide +kernel
theorem dX0_judgeDigging_51 : decode cX0_judgeDigging 51 = .ok (.invokevirtual 56, 3) := by decide +kernel
theorem dX0_judgeDigging_54 : decode cX0_judgeDigging 54 = .ok (.ireturn, 1) := by decide +kernel
theorem dX0_judgeDigging_55 : decode cX0_judgeDigging 55 = .ok (.aload_n 0, 1) := by decide +kernel
theorem dX0_judgeDigging_56 : decode cX0_judgeDigging 56 = .ok (.getfield 9, 3) := by decide +kernel
theorem dX0_judgeDigging_59 : decode cX0_judgeDigging 59 = .ok (.getfield 66, 3) := by decide +kernel
theorem dX0_judgeDigging_62 : decode cX0_judgeDigging 62 = .ok (.bipush 16, 2) := by decide +kernel
theorem dX0_judgeDigging_64 : decode cX0_judgeDigging 64 = .ok (.if_icmp .ge 7, 3) := by decide +kernel
theorem dX0_judgeDigging_67 : decode cX0_judgeDigging 67 = .ok (.iconst 0, 1) := by decide +kernel
theorem dX0_judgeDigging_68 : decode cX0_judgeDigging 68 = .ok (.goto 10, 3) := by decide +kernel
theorem dX0_judgeDigging_71 : decode cX0_judgeDigging 71 = .ok (.aload_n 0, 1) := by decide +kernel
theorem dX0_judgeDigging_72 : decode cX0_judgeDigging 72 = .ok (.iconst 1, 1) := by decide +kernel
theorem dX0_judgeDigging_73 : decode cX0_judgeDigging 73 = .ok (.bipush 16, 2) := by decide +kernel
theorem dX0_judgeDigging_75 : decode cX0_judgeDigging 75 = .ok (.invokevirtual 56, 3) := by decide +kernel
theorem dX0_judgeDigging_78 : decode cX0_judgeDigging 78 = .ok (.ireturn, 1) := by decide +kernel
theorem dX0_judgeSettling_0 : decode cX0_judgeSettling 0 = .ok (.aload_n 0, 1) := by decide +kernel
theorem dX0_judgeSettling_1 : decode cX0_judgeSettling 1 = .ok (.getfield 9, 3) := by decide +kernel
theorem dX0_judgeSettling_4 : decode cX0_judgeSettling 4 = .ok (.invokevirtual 69, 3) := by decide +kernel
theorem dX0_judgeSettling_7 : decode cX0_judgeSettling 7 = .ok (.istore_n 1, 1) := by decide +kernel
theorem dX0_judgeSettling_8 : decode cX0_judgeSettling 8 = .ok (.iload_n 1, 1) := by decide +kernel
theorem dX0_judgeSettling_9 : decode cX0_judgeSettling 9 = .ok (.ifCond .ne 16, 3) := by decide +kernel
theorem dX0_judgeSettling_12 : decode cX0_judgeSettling 12 = .ok (.aload_n 0, 1) := by decide +kernel
theorem dX0_judgeSettling_13 : decode cX0_judgeSettling 13 = .ok (.iconst 5, 1) := by decide +kernel
theorem dX0_judgeSettling_14 : decode cX0_judgeSettling 14 = .ok (.aload_n 0, 1) := by decide +kernel
theorem dX0_judgeSettling_15 : decode cX0_judgeSettling 15 = .ok (.getfield 9, 3) := by decide +kernel
theorem dX0_judgeSettling_18 : decode cX0_judgeSettling 18 = .ok (.getfield 66, 3) := by decide +kernel
theorem dX0_judgeSettling_21 : decode cX0_judgeSettling 21 = .ok (.invokevirtual 56, 3) := by decide +kernel
theorem dX0_judgeSettling_24 : decode cX0_judgeSettling 24 = .ok (.ireturn, 1) := by decide +kernel
theorem dX0_judgeSettling_25 : decode cX0_judgeSettling 25 = .ok (.aload_n 0, 1) := by decide +kernel
theorem dX0_judgeSettling_26 : decode cX0_judgeSettling 26 = .ok (.getfield 15, 3) := by decide +kernel
theorem dX0_judgeSettling_29 : decode cX0_judgeSettling 29 = .ok (.invokevirtual 72, 3) := by decide +kernel
theorem dX0_judgeSettling_32 : decode cX0_judgeSettling 32 = .ok (.iconst (-1), 1) := by decide +kernel
theorem dX0_judgeSettling_33 : decode cX0_judgeSettling 33 = .ok (.if_icmp .ne 12, 3) := by decide +kernel
theorem dX0_judgeSettling_36 : decode cX0_judgeSettling 36 = .ok (.aload_n 0, 1) := by decide +kernel
theorem dX0_judgeSettling_37 : decode cX0_judgeSettling 37 = .ok (.iconst 4, 1) := by decide +kernel
theorem dX0_judgeSettling_38 : decode cX0_judgeSettling 38 = .ok (.iload_n 1, 1) := by decide +kernel
theorem dX0_judgeSettling_39 : decode cX0_judgeSettling 39 = .ok (.invokevirtual 56, 3) := by decide +kernel
theorem dX0_judgeSettling_42 : decode cX0_judgeSettling 42 = .ok (.goto 4, 3) := by decide +kernel
theorem dX0_judgeSettling_45 : decode cX0_judgeSettling 45 = .ok (.iconst 0, 1) := by decide +kernel
theorem dX0_judgeSettling_46 : decode cX0_judgeSettling 46 = .ok (.ireturn, 1) := by decide +kernel
theorem dX0_deny_0 : decode cX0_deny 0 = .ok (.aload_n 0, 1) := by decide +kernel
theorem dX0_deny_1 : decode cX0_deny 1 = .ok (.iload_n 2, 1) := by decide +kernel
theorem dX0_deny_2 : decode cX0_deny 2 = .ok (.putfield 77, 3) := by decide +kernel
theorem dX0_deny_5 : decode cX0_deny 5 = .ok (.iload_n 1, 1) := by decide +kernel
theorem dX0_deny_6 : decode cX0_deny 6 = .ok (.ireturn, 1) := by decide +kernel
theorem dX0_carryOut_0 : decode cX0_carryOut 0 = .ok (.iload_n 1, 1) := by decide +kernel
theorem dX0_carryOut_1 : decode cX0_carryOut 1 = .ok (.tableswitch 129 0 6 #[43, 64, 74, 93, 102, 110, 120], 43) := by decide +kernel
theorem dX0_carryOut_44 : decode cX0_carryOut 44 = .ok (.aload_n 0, 1) := by decide +kernel
theorem dX0_carryOut_45 : decode cX0_carryOut 45 = .ok (.getfield 9, 3) := by decide +kernel
theorem dX0_carryOut_48 : decode cX0_carryOut 48 = .ok (.iload_n 2, 1) := by decide +kernel
theorem dX0_carryOut_49 : decode cX0_carryOut 49 = .ok (.iload_n 3, 1) := by decide +kernel
theorem dX0_carryOut_50 : decode cX0_carryOut 50 = .ok (.iload 4, 2) := by decide +kernel
theorem dX0_carryOut_52 : decode cX0_carryOut 52 = .ok (.iconst 1, 1) := by decide +kernel
theorem dX0_carryOut_53 : decode cX0_carryOut 53 = .ok (.if_icmp .ne 7, 3) := by decide +kernel
theorem dX0_carryOut_56 : decode cX0_carryOut 56 = .ok (.iconst 1, 1) := by decide +kernel
theorem dX0_carryOut_57 : decode cX0_carryOut 57 = .ok (.goto 4, 3) := by decide +kernel
theorem dX0_carryOut_60 : decode cX0_carryOut 60 = .ok (.iconst 0, 1) := by decide +kernel
theorem dX0_carryOut_61 : decode cX0_carryOut 61 = .ok (.invokevirtual 80, 3) := by decide +kernel
theorem dX0_carryOut_64 : decode cX0_carryOut 64 = .ok (.ireturn, 1) := by decide +kernel
theorem dX0_carryOut_65 : decode cX0_carryOut 65 = .ok (.aload_n 0, 1) := by decide +kernel
theorem dX0_carryOut_66 : decode cX0_carryOut 66 = .ok (.getfield 9, 3) := by decide +kernel
theorem dX0_carryOut_69 : decode cX0_carryOut 69 = .ok (.iload_n 2, 1) := by decide +kernel
theorem dX0_carryOut_70 : decode cX0_carryOut 70 = .ok (.iload_n 3, 1) := by decide +kernel
theorem dX0_carryOut_71 : decode cX0_carryOut 71 = .ok (.invokevirtual 84, 3) := by decide +kernel
theorem dX0_carryOut_74 : decode cX0_carryOut 74 = .ok (.ireturn, 1) := by decide +kernel
theorem dX0_carryOut_75 : decode cX0_carryOut 75 = .ok (.aload_n 0, 1) := by decide +kernel
theorem dX0_carryOut_76 : decode cX0_carryOut 76 = .ok (.getfield 9, 3) := by decide +kernel
theorem dX0_carryOut_79 : decode cX0_carryOut 79 = .ok (.iconst 1, 1) := by decide +kernel
theorem dX0_carryOut_80 : decode cX0_carryOut 80 = .ok (.iload_n 2, 1) := by decide +kernel
theorem dX0_carryOut_81 : decode cX0_carryOut 81 = .ok (.ishl, 1) := by decide +kernel
theorem dX0_carryOut_82 : decode cX0_carryOut 82 = .ok (.invokevirtual 87, 3) := by decide +kernel
theorem dX0_carryOut_85 : decode cX0_carryOut 85 = .ok (.pop, 1) := by decide +kernel
theorem dX0_carryOut_86 : decode cX0_carryOut 86 = .ok (.aload_n 0, 1) := by decide +kernel
theorem dX0_carryOut_87 : decode cX0_carryOut 87 = .ok (.getfield 9, 3) := by decide +kernel
theorem dX0_carryOut_90 : decode cX0_carryOut 90 = .ok (.invokevirtual 69, 3) := by decide +kernel
theorem dX0_carryOut_93 : decode cX0_carryOut 93 = .ok (.ireturn, 1) := by decide +kernel
theorem dX0_carryOut_94 : decode cX0_carryOut 94 = .ok (.aload_n 0, 1) := by decide +kernel
theorem dX0_carryOut_95 : decode cX0_carryOut 95 = .ok (.getfield 9, 3) := by decide +kernel
theorem dX0_carryOut_98 : decode cX0_carryOut 98 = .ok (.iload_n 2, 1) := by decide +kernel
theorem dX0_carryOut_99 : decode cX0_carryOut 99 = .ok (.invokevirtual 90, 3) := by decide +kernel
theorem dX0_carryOut_102 : decode cX0_carryOut 102 = .ok (.ireturn, 1) := by decide +kernel
theorem dX0_carryOut_103 : decode cX0_carryOut 103 = .ok (.aload_n 0, 1) := by decide +kernel
theorem dX0_carryOut_104 : decode cX0_carryOut 104 = .ok (.getfield 19, 3) := by decide +kernel
theorem dX0_carryOut_107 : decode cX0_carryOut 107 = .ok (.invokevirtual 93, 3) := by decide +kernel
theorem dX0_carryOut_110 : decode cX0_carryOut 110 = .ok (.ireturn, 1) := by decide +kernel
theorem dX0_carryOut_111 : decode cX0_carryOut 111 = .ok (.aload_n 0, 1) := by decide +kernel
theorem dX0_carryOut_112 : decode cX0_carryOut 112 = .ok (.getfield 9, 3) := by decide +kernel
theorem dX0_carryOut_115 : decode cX0_carryOut 115 = .ok (.iload_n 2, 1) := by decide +kernel
theorem dX0_carryOut_116 : decode cX0_carryOut 116 = .ok (.iload_n 3, 1) := by decide +kernel
theorem dX0_carryOut_117 : decode cX0_carryOut 117 = .ok (.invokevirtual 98, 3) := by decide +kernel
theorem dX0_carryOut_120 : decode cX0_carryOut 120 = .ok (.ireturn, 1) := by decide +kernel
theorem dX0_carryOut_121 : decode cX0_carryOut 121 = .ok (.aload_n 0, 1) := by decide +kernel
theorem dX0_carryOut_122 : decode cX0_carryOut 122 = .ok (.getfield 9, 3) := by decide +kernel
theorem dX0_carryOut_125 : decode cX0_carryOut 125 = .ok (.iload_n 2, 1) := by decide +kernel
theorem dX0_carryOut_126 : decode cX0_carryOut 126 = .ok (.invokevirtual 101, 3) := by decide +kernel
theorem dX0_carryOut_129 : decode cX0_carryOut 129 = .ok (.ireturn, 1) := by decide +kernel
theorem dX0_carryOut_130 : decode cX0_carryOut 130 = .ok (.aload_n 0, 1) := by decide +kernel
theorem dX0_carryOut_131 : decode cX0_carryOut 131 = .ok (.getfield 9, 3) := by decide +kernel
theorem dX0_carryOut_134 : decode cX0_carryOut 134 = .ok (.aload_n 0, 1) := by decide +kernel
theorem dX0_carryOut_135 : decode cX0_carryOut 135 = .ok (.getfield 15, 3) := by decide +kernel
theorem dX0_carryOut_138 : decode cX0_carryOut 138 = .ok (.invokevirtual 72, 3) := by decide +kernel
theorem dX0_carryOut_141 : decode cX0_carryOut 141 = .ok (.invokevirtual 87, 3) := by decide +kernel
theorem dX0_carryOut_144 : decode cX0_carryOut 144 = .ok (.ireturn, 1) := by decide +kernel
theorem dX1_init_0 : decode cX1_init 0 = .ok (.aload_n 0, 1) := by decide +kernel
theorem dX1_init_1 : decode cX1_init 1 = .ok (.invokespecial 3, 3) := by decide +kernel
theorem dX1_init_4 : decode cX1_init 4 = .ok (.aload_n 0, 1) := by decide +kernel
theorem dX1_init_5 : decode cX1_init 5 = .ok (.bipush 9, 2) := by decide +kernel
theorem dX1_init_7 : decode cX1_init 7 = .ok (.newarray .int, 2) := by decide +kernel
theorem dX1_init_9 : decode cX1_init 9 = .ok (.putfield 9, 3) := by decide +kernel
theorem dX1_init_12 : decode cX1_init 12 = .ok (.aload_n 0, 1) := by decide +kernel
theorem dX1_init_13 : decode cX1_init 13 = .ok (.bipush 9, 2) := by decide +kernel
theorem dX1_init_15 : decode cX1_init 15 = .ok (.newarray .int, 2) := by decide +kernel
theorem dX1_init_17 : decode cX1_init 17 = .ok (.putfield 15, 3) := by decide +kernel
theorem dX1_init_20 : decode cX1_init 20 = .ok (.aload_n 0, 1) := by decide +kernel
theorem dX1_init_21 : decode cX1_init 21 = .ok (.bipush 9, 2) := by decide +kernel
theorem dX1_init_23 : decode cX1_init 23 = .ok (.newarray .int, 2) := by decide +kernel
theorem dX1_init_25 : decode cX1_init 25 = .ok (.putfield 18, 3) := by decide +kernel
theorem dX1_init_28 : decode cX1_init 28 = .ok (.aload_n 0, 1) := by decide +kernel
theorem dX1_init_29 : decode cX1_init 29 = .ok (.bipush 16, 2) := by decide +kernel
theorem dX1_init_31 : decode cX1_init 31 = .ok (.newarray .int, 2) := by decide +kernel
theorem dX1_init_33 : decode cX1_init 33 = .ok (.putfield 21, 3) := by decide +kernel
theorem dX1_init_36 : decode cX1_init 36 = .ok (.aload_n 0, 1) := by decide +kernel
theorem dX1_init_37 : decode cX1_init 37 = .ok (.bipush 16, 2) := by decide +kernel
theorem dX1_init_39 : decode cX1_init 39 = .ok (.newarray .int, 2) := by decide +kernel
theorem dX1_init_41 : decode cX1_init 41 = .ok (.putfield 24, 3) := by decide +kernel
theorem dX1_init_44 : decode cX1_init 44 = .ok (.return_, 1) := by decide +kernel
theorem dX1_copyFrom_0 : decode cX1_copyFrom 0 = .ok (.aload_n 0, 1) := by decide +kernel
theorem dX1_copyFrom_1 : decode cX1_copyFrom 1 = .ok (.aload_n 1, 1) := by decide +kernel
theorem dX1_copyFrom_2 : decode cX1_copyFrom 2 = .ok (.getfield 27, 3) := by decide +kernel
theorem dX1_copyFrom_5 : decode cX1_copyFrom 5 = .ok (.putfield 27, 3) := by decide +kernel
theorem dX1_copyFrom_8 : decode cX1_copyFrom 8 = .ok (.aload_n 1, 1) := by decide +kernel
theorem dX1_copyFrom_9 : decode cX1_copyFrom 9 = .ok (.getfield 9, 3) := by decide +kernel
theorem dX1_copyFrom_12 : decode cX1_copyFrom 12 = .ok (.iconst 0, 1) := by decide +kernel
theorem dX1_copyFrom_13 : decode cX1_copyFrom 13 = .ok (.aload_n 0, 1) := by decide +kernel
theorem dX1_copyFrom_14 : decode cX1_copyFrom 14 = .ok (.getfield 9, 3) := by decide +kernel
theorem dX1_copyFrom_17 : decode cX1_copyFrom 17 = .ok (.iconst 0, 1) := by decide +kernel
theorem dX1_copyFrom_18 : decode cX1_copyFrom 18 = .ok (.bipush 9, 2) := by decide +kernel
theorem dX1_copyFrom_20 : decode cX1_copyFrom 20 = .ok (.invokestatic 31, 3) := by decide +kernel
theorem dX1_copyFrom_23 : decode cX1_copyFrom 23 = .ok (.aload_n 1, 1) := by decide +kernel
theorem dX1_copyFrom_24 : decode cX1_copyFrom 24 = .ok (.getfield 15, 3) := by decide +kernel
theorem dX1_copyFrom_27 : decode cX1_copyFrom 27 = .ok (.iconst 0, 1) := by decide +kernel
theorem dX1_copyFrom_28 : decode cX1_copyFrom 28 = .ok (.aload_n 0, 1) := by decide +kernel
theorem dX1_copyFrom_29 : decode cX1_copyFrom 29 = .ok (.getfield 15, 3) := by decide +kernel
theorem dX1_copyFrom_32 : decode cX1_copyFrom 32 = .ok (.iconst 0, 1) := by decide +kernel
theorem dX1_copyFrom_33 : decode cX1_copyFrom 33 = .ok (.bipush 9, 2) := by decide +kernel
theorem dX1_copyFrom_35 : decode cX1_copyFrom 35 = .ok (.invokestatic 31, 3) := by decide +kernel
theorem dX1_copyFrom_38 : decode cX1_copyFrom 38 = .ok (.aload_n 1, 1) := by decide +kernel
theorem dX1_copyFrom_39 : decode cX1_copyFrom 39 = .ok (.getfield 18, 3) := by decide +kernel
theorem dX1_copyFrom_42 : decode cX1_copyFrom 42 = .ok (.iconst 0, 1) := by decide +kernel
theorem dX1_copyFrom_43 : decode cX1_copyFrom 43 = .ok (.aload_n 0, 1) := by decide +kernel
theorem dX1_copyFrom_44 : decode cX1_copyFrom 44 = .ok (.getfield 18, 3) := by decide +kernel
theorem dX1_copyFrom_47 : decode cX1_copyFrom 47 = .ok (.iconst 0, 1) := by decide +kernel
theorem dX1_copyFrom_48 : decode cX1_copyFrom 48 = .ok (.bipush 9, 2) := by decide +kernel
theorem dX1_copyFrom_50 : decode cX1_copyFrom 50 = .ok (.invokestatic 31, 3) := by decide +kernel
theorem dX1_copyFrom_53 : decode cX1_copyFrom 53 = .ok (.aload_n 0, 1) := by decide +kernel
theorem dX1_copyFrom_54 : decode cX1_copyFrom 54 = .ok (.aload_n 1, 1) := by decide +kernel
theorem dX1_copyFrom_55 : decode cX1_copyFrom 55 = .ok (.getfield 37, 3) := by decide +kernel
theorem dX1_copyFrom_58 : decode cX1_copyFrom 58 = .ok (.putfield 37, 3) := by decide +kernel
theorem dX1_copyFrom_61 : decode cX1_copyFrom 61 = .ok (.aload_n 0, 1) := by decide +kernel
theorem dX1_copyFrom_62 : decode cX1_copyFrom 62 = .ok (.aload_n 1, 1) := by decide +kernel
theorem dX1_copyFrom_63 : decode cX1_copyFrom 63 = .ok (.getfield 40, 3) := by decide +kernel
theorem dX1_copyFrom_66 : decode cX1_copyFrom 66 = .ok (.putfield 40, 3) := by decide +kernel
theorem dX1_copyFrom_69 : decode cX1_copyFrom 69 = .ok (.aload_n 1, 1) := by decide +kernel
theorem dX1_copyFrom_70 : decode cX1_copyFrom 70 = .ok (.getfield 21, 3) := by decide +kernel
theorem dX1_copyFrom_73 : decode cX1_copyFrom 73 = .ok (.iconst 0, 1) := by decide +kernel
theorem dX1_copyFrom_74 : decode cX1_copyFrom 74 = .ok (.aload_n 0, 1) := by decide +kernel
theorem dX1_copyFrom_75 : decode cX1_copyFrom 75 = .ok (.getfield 21, 3) := by decide +kernel
theorem dX1_copyFrom_78 : decode cX1_copyFrom 78 = .ok (.iconst 0, 1) := by decide +kernel
theorem dX1_copyFrom_79 : decode cX1_copyFrom 79 = .ok (.bipush 16, 2) := by decide +kernel
theorem dX1_copyFrom_81 : decode cX1_copyFrom 81 = .ok (.invokestatic 31, 3) := by decide +kernel
theorem dX1_copyFrom_84 : decode cX1_copyFrom 84 = .ok (.aload_n 1, 1) := by decide +kernel
theorem dX1_copyFrom_85 : decode cX1_copyFrom 85 = .ok (.getfield 24, 3) := by decide +kernel
theorem dX1_copyFrom_88 : decode cX1_copyFrom 88 = .ok (.iconst 0, 1) := by decide +kernel
theorem dX1_copyFrom_89 : decode cX1_copyFrom 89 = .ok (.aload_n 0, 1) := by decide +kernel
theorem dX1_copyFrom_90 : decode cX1_copyFrom 90 = .ok (.getfield 24, 3) := by decide +kernel
theorem dX1_copyFrom_93 : decode cX1_copyFrom 93 = .ok (.iconst 0, 1) := by decide +kernel
theorem dX1_copyFrom_94 : decode cX1_copyFrom 94 = .ok (.bipush 16, 2) := by decide +kernel
theorem dX1_copyFrom_96 : decode cX1_copyFrom 96 = .ok (.invokestatic 31, 3) := by decide +kernel
theorem dX1_copyFrom_99 : decode cX1_copyFrom 99 = .ok (.aload_n 0, 1) := by decide +kernel
theorem dX1_copyFrom_100 : decode cX1_copyFrom 100 = .ok (.aload_n 1, 1) := by decide +kernel
theorem dX1_copyFrom_101 : decode cX1_copyFrom 101 = .ok (.getfield 43, 3) := by decide +kernel
theorem dX1_copyFrom_104 : decode cX1_copyFrom 104 = .ok (.putfield 43, 3) := by decide +kernel
theorem dX1_copyFrom_107 : decode cX1_copyFrom 107 = .ok (.aload_n 0, 1) := by decide +kernel
theorem dX1_copyFrom_108 : decode cX1_copyFrom 108 = .ok (.aload_n 1, 1) := by decide +kernel
theorem dX1_copyFrom_109 : decode cX1_copyFrom 109 = .ok (.getfield 46, 3) := by decide +kernel
theorem dX1_copyFrom_112 : decode cX1_copyFrom 112 = .ok (.putfield 46, 3) := by decide +kernel
theorem dX1_copyFrom_115 : decode cX1_copyFrom 115 = .ok (.return_, 1) := by decide +kernel
theorem dX1_hasMagnet_0 : decode cX1_hasMagnet 0 = .ok (.iload_n 1, 1) := by decide +kernel
theorem dX1_hasMagnet_1 : decode cX1_hasMagnet 1 = .ok (.ifCond .lt 15, 3) := by decide +kernel
theorem dX1_hasMagnet_4 : decode cX1_hasMagnet 4 = .ok (.iload_n 1, 1) := by decide +kernel
theorem dX1_hasMagnet_5 : decode cX1_hasMagnet 5 = .ok (.aload_n 0, 1) := by decide +kernel
theorem dX1_hasMagnet_6 : decode cX1_hasMagnet 6 = .ok (.getfield 27, 3) := by decide +kernel
theorem dX1_hasMagnet_9 : decode cX1_hasMagnet 9 = .ok (.if_icmp .ge 7, 3) := by decide +kernel
theorem dX1_hasMagnet_12 : decode cX1_hasMagnet 12 = .ok (.iconst 1, 1) := by decide +kernel
theorem dX1_hasMagnet_13 : decode cX1_hasMagnet 13 = .ok (.goto 4, 3) := by decide +kernel
theorem dX1_hasMagnet_16 : decode cX1_hasMagnet 16 = .ok (.iconst 0, 1) := by decide +kernel
theorem dX1_hasMagnet_17 : decode cX1_hasMagnet 17 = .ok (.ireturn, 1) := by decide +kernel
theorem dX1_hasTunnel_0 : decode cX1_hasTunnel 0 = .ok (.iload_n 1, 1) := by decide +kernel
theorem dX1_hasTunnel_1 : decode cX1_hasTunnel 1 = .ok (.ifCond .lt 15, 3) := by decide +kernel
theorem dX1_hasTunnel_4 : decode cX1_hasTunnel 4 = .ok (.iload_n 1, 1) := by decide +kernel
theorem dX1_hasTunnel_5 : decode cX1_hasTunnel 5 = .ok (.aload_n 0, 1) := by decide +kernel
theorem dX1_hasTunnel_6 : decode cX1_hasTunnel 6 = .ok (.getfield 40, 3) := by decide +kernel
theorem dX1_hasTunnel_9 : decode cX1_hasTunnel 9 = .ok (.if_icmp .ge 7, 3) := by decide +kernel
theorem dX1_hasTunnel_12 : decode cX1_hasTunnel 12 = .ok (.iconst 1, 1) := by decide +kernel
theorem dX1_hasTunnel_13 : decode cX1_hasTunnel 13 = .ok (.goto 4, 3) := by decide +kernel
theorem dX1_hasTunnel_16 : decode cX1_hasTunnel 16 = .ok (.iconst 0, 1) := by decide +kernel
theorem dX1_hasTunnel_17 : decode cX1_hasTunnel 17 = .ok (.ireturn, 1) := by decide +kernel
theorem dX1_magnetOn_0 : decode cX1_magnetOn 0 = .ok (.iconst 0, 1) := by decide +kernel
theorem dX1_magnetOn_1 : decode cX1_magnetOn 1 = .ok (.istore_n 2, 1) := by decide +kernel
theorem dX1_magnetOn_2 : decode cX1_magnetOn 2 = .ok (.iload_n 2, 1) := by decide +kernel
theorem dX1_magnetOn_3 : decode cX1_magnetOn 3 = .ok (.aload_n 0, 1) := by decide +kernel
theorem dX1_magnetOn_4 : decode cX1_magnetOn 4 = .ok (.getfield 27, 3) := by decide +kernel
theorem dX1_magnetOn_7 : decode cX1_magnetOn 7 = .ok (.if_icmp .ge 21, 3) := by decide +kernel
theorem dX1_magnetOn_10 : decode cX1_magnetOn 10 = .ok (.aload_n 0, 1) := by decide +kernel
theorem dX1_magnetOn_11 : decode cX1_magnetOn 11 = .ok (.getfield 9, 3) := by decide +kernel
theorem dX1_magnetOn_14 : decode cX1_magnetOn 14 = .ok (.iload_n 2, 1) := by decide +kernel
theorem dX1_magnetOn_15 : decode cX1_magnetOn 15 = .ok (.iaload, 1) := by decide +kernel
theorem dX1_magnetOn_16 : decode cX1_magnetOn 16 = .ok (.iload_n 1, 1) := by decide +kernel
theorem dX1_magnetOn_17 : decode cX1_magnetOn 17 = .ok (.if_icmp .ne 5, 3) := by decide +kernel
theorem dX1_magnetOn_20 : decode cX1_magnetOn 20 = .ok (.iload_n 2, 1) := by decide +kernel
theorem dX1_magnetOn_21 : decode cX1_magnetOn 21 = .ok (.ireturn, 1) := by decide +kernel
theorem dX1_magnetOn_22 : decode cX1_magnetOn 22 = .ok (.iinc 2 1, 3) := by decide +kernel
theorem dX1_magnetOn_25 : decode cX1_magnetOn 25 = .ok (.goto (-23), 3) := by decide +kernel
theorem dX1_magnetOn_28 : decode cX1_magnetOn 28 = .ok (.iconst (-1), 1) := by decide +kernel
theorem dX1_magnetOn_29 : decode cX1_magnetOn 29 = .ok (.ireturn, 1) := by decide +kernel
theorem dX1_magnetOfRank_0 : decode cX1_magnetOfRank 0 = .ok (.iconst 0, 1) := by decide +kernel
theorem dX1_magnetOfRank_1 : decode cX1_magnetOfRank 1 = .ok (.istore_n 2, 1) := by decide +kernel
theorem dX1_magnetOfRank_2 : decode cX1_magnetOfRank 2 = .ok (.iload_n 2, 1) := by decide +kernel
theorem dX1_magnetOfRank_3 : decode cX1_magnetOfRank 3 = .ok (.aload_n 0, 1) := by decide +kernel
theorem dX1_magnetOfRank_4 : decode cX1_magnetOfRank 4 = .ok (.getfield 27, 3) := by decide +kernel
theorem dX1_magnetOfRank_7 : decode cX1_magnetOfRank 7 = .ok (.if_icmp .ge 20, 3) := by decide +kernel
theorem dX1_magnetOfRank_10 : decode cX1_magnetOfRank 10 = .ok (.aload_n 0, 1) := by decide +kernel
theorem dX1_magnetOfRank_11 : decode cX1_magnetOfRank 11 = .ok (.iload_n 2, 1) := by decide +kernel
theorem dX1_magnetOfRank_12 : decode cX1_magnetOfRank 12 = .ok (.invokevirtual 49, 3) := by decide +kernel
theorem dX1_magnetOfRank_15 : decode cX1_magnetOfRank 15 = .ok (.iload_n 1, 1) := by decide +kernel
theorem dX1_magnetOfRank_16 : decode cX1_magnetOfRank 16 = .ok (.if_icmp .ne 5, 3) := by decide +kernel
theorem dX1_magnetOfRank_19 : decode cX1_magnetOfRank 19 = .ok (.iload_n 2, 1) := by decide +kernel
theorem dX1_magnetOfRank_20 : decode cX1_magnetOfRank 20 = .ok (.ireturn, 1) := by decide +kernel
theorem dX1_magnetOfRank_21 : decode cX1_magnetOfRank 21 = .ok (.iinc 2 1, 3) := by decide +kernel
theorem dX1_magnetOfRank_24 : decode cX1_magnetOfRank 24 = .ok (.goto (-22), 3) := by decide +kernel
theorem dX1_magnetOfRank_27 : decode cX1_magnetOfRank 27 = .ok (.iconst (-1), 1) := by decide +kernel
theorem dX1_magnetOfRank_28 : decode cX1_magnetOfRank 28 = .ok (.ireturn, 1) := by decide +kernel
theorem dX1_rankOf_0 : decode cX1_rankOf 0 = .ok (.iconst 0, 1) := by decide +kernel
theorem dX1_rankOf_1 : decode cX1_rankOf 1 = .ok (.istore_n 2, 1) := by decide +kernel
theorem dX1_rankOf_2 : decode cX1_rankOf 2 = .ok (.iconst 0, 1) := by decide +kernel
theorem dX1_rankOf_3 : decode cX1_rankOf 3 = .ok (.istore_n 3, 1) := by decide +kernel
theorem dX1_rankOf_4 : decode cX1_rankOf 4 = .ok (.iload_n 3, 1) := by decide +kernel
theorem dX1_rankOf_5 : decode cX1_rankOf 5 = .ok (.aload_n 0, 1) := by decide +kernel
theorem dX1_rankOf_6 : decode cX1_rankOf 6 = .ok (.getfield 27, 3) := by decide +kernel
theorem dX1_rankOf_9 : decode cX1_rankOf 9 = .ok (.if_icmp .ge 81, 3) := by decide +kernel
theorem dX1_rankOf_12 : decode cX1_rankOf 12 = .ok (.aload_n 0, 1) := by decide +kernel
theorem dX1_rankOf_13 : decode cX1_rankOf 13 = .ok (.getfield 15, 3) := by decide +kernel
theorem dX1_rankOf_16 : decode cX1_rankOf 16 = .ok (.iload_n 3, 1) := by decide +kernel
theorem dX1_rankOf_17 : decode cX1_rankOf 17 = .ok (.iaload, 1) := by decide +kernel
theorem dX1_rankOf_18 : decode cX1_rankOf 18 = .ok (.aload_n 0, 1) := by decide +kernel
theorem dX1_rankOf_19 : decode cX1_rankOf 19 = .ok (.getfield 15, 3) := by decide +kernel
theorem dX1_rankOf_22 : decode cX1_rankOf 22 = .ok (.iload_n 1, 1) := by decide +kernel
theorem dX1_rankOf_23 : decode cX1_rankOf 23 = .ok (.iaload, 1) := by decide +kernel
theorem dX1_rankOf_24 : decode cX1_rankOf 24 = .ok (.if_icmp .le 7, 3) := by decide +kernel
theorem dX1_rankOf_27 : decode cX1_rankOf 27 = .ok (.iconst 1, 1) := by decide +kernel
theorem dX1_rankOf_28 : decode cX1_rankOf 28 = .ok (.goto 4, 3) := by decide +kernel
theorem dX1_rankOf_31 : decode cX1_rankOf 31 = .ok (.iconst 0, 1) := by decide +kernel
theorem dX1_rankOf_32 : decode cX1_rankOf 32 = .ok (.istore 4, 2) := by decide +kernel
theorem dX1_rankOf_34 : decode cX1_rankOf 34 = .ok (.aload_n 0, 1) := by decide +kernel
theorem dX1_rankOf_35 : decode cX1_rankOf 35 = .ok (.getfield 15, 3) := by decide +kernel
theorem dX1_rankOf_38 : decode cX1_rankOf 38 = .ok (.iload_n 3, 1) := by decide +kernel
theorem dX1_rankOf_39 : decode cX1_rankOf 39 = .ok (.iaload, 1) := by decide +kernel
theorem dX1_rankOf_40 : decode cX1_rankOf 40 = .ok (.aload_n 0, 1) := by decide +kernel
theorem dX1_rankOf_41 : decode cX1_rankOf 41 = .ok (.getfield 15, 3) := by decide +kernel
theorem dX1_rankOf_44 : decode cX1_rankOf 44 = .ok (.iload_n 1, 1) := by decide +kernel
theorem dX1_rankOf_45 : decode cX1_rankOf 45 = .ok (.iaload, 1) := by decide +kernel
theorem dX1_rankOf_46 : decode cX1_rankOf 46 = .ok (.if_icmp .ne 7, 3) := by decide +kernel
theorem dX1_rankOf_49 : decode cX1_rankOf 49 = .ok (.iconst 1, 1) := by decide +kernel
theorem dX1_rankOf_50 : decode cX1_rankOf 50 = .ok (.goto 4, 3) := by decide +kernel
theorem dX1_rankOf_53 : decode cX1_rankOf 53 = .ok (.iconst 0, 1) := by decide +kernel
theorem dX1_rankOf_54 : decode cX1_rankOf 54 = .ok (.istore 5, 2) := by decide +kernel
theorem dX1_rankOf_56 : decode cX1_rankOf 56 = .ok (.iload 4, 2) := by decide +kernel
theorem dX1_rankOf_58 : decode cX1_rankOf 58 = .ok (.ifCond .ne 23, 3) := by decide +kernel
theorem dX1_rankOf_61 : decode cX1_rankOf 61 = .ok (.iload 5, 2) := by decide +kernel
theorem dX1_rankOf_63 : decode cX1_rankOf 63 = .ok (.ifCond .eq 21, 3) := by decide +kernel
theorem dX1_rankOf_66 : decode cX1_rankOf 66 = .ok (.aload_n 0, 1) := by decide +kernel
theorem dX1_rankOf_67 : decode cX1_rankOf 67 = .ok (.getfield 9, 3) := by decide +kernel
theorem dX1_rankOf_70 : decode cX1_rankOf 70 = .ok (.iload_n 3, 1) := by decide +kernel
theorem dX1_rankOf_71 : decode cX1_rankOf 71 = .ok (.iaload, 1) := by decide +kernel
theorem dX1_rankOf_72 : decode cX1_rankOf 72 = .ok (.aload_n 0, 1) := by decide +kernel
theorem dX1_rankOf_73 : decode cX1_rankOf 73 = .ok (.getfield 9, 3) := by decide +kernel
theorem dX1_rankOf_76 : decode cX1_rankOf 76 = .ok (.iload_n 1, 1) := by decide +kernel
theorem dX1_rankOf_77 : decode cX1_rankOf 77 = .ok (.iaload, 1) := by decide +kernel
theorem dX1_rankOf_78 : decode cX1_rankOf 78 = .ok (.if_icmp .ge 6, 3) := by decide +kernel
theorem dX1_rankOf_81 : decode cX1_rankOf 81 = .ok (.iinc 2 1, 3) := by decide +kernel
theorem dX1_rankOf_84 : decode cX1_rankOf 84 = .ok (.iinc 3 1, 3) := by decide +kernel
theorem dX1_rankOf_87 : decode cX1_rankOf 87 = .ok (.goto (-83), 3) := by decide +kernel
theorem dX1_rankOf_90 : decode cX1_rankOf 90 = .ok (.iload_n 2, 1) := by decide +kernel
theorem dX1_rankOf_91 : decode cX1_rankOf 91 = .ok (.ireturn, 1) := by decide +kernel
theorem dX1_poleSign_0 : decode cX1_poleSign 0 = .ok (.aload_n 0, 1) := by decide +kernel
theorem dX1_poleSign_1 : decode cX1_poleSign 1 = .ok (.getfield 37, 3) := by decide +kernel
theorem dX1_poleSign_4 : decode cX1_poleSign 4 = .ok (.iload_n 1, 1) := by decide +kernel
theorem dX1_poleSign_5 : decode cX1_poleSign 5 = .ok (.invokestatic 53, 3) := by decide +kernel
theorem dX1_poleSign_8 : decode cX1_poleSign 8 = .ok (.ifCond .eq 8, 3) := by decide +kernel
theorem dX1_poleSign_11 : decode cX1_poleSign 11 = .ok (.bipush 110, 2) := by decide +kernel
theorem dX1_poleSign_13 : decode cX1_poleSign 13 = .ok (.goto 5, 3) := by decide +kernel
theorem dX1_poleSign_16 : decode cX1_poleSign 16 = .ok (.bipush 115, 2) := by decide +kernel
theorem dX1_poleSign_18 : decode cX1_poleSign 18 = .ok (.ireturn, 1) := by decide +kernel
theorem dX1_sumOfStrengths_0 : decode cX1_sumOfStrengths 0 = .ok (.iconst 0, 1) := by decide +kernel
theorem dX1_sumOfStrengths_1 : decode cX1_sumOfStrengths 1 = .ok (.istore_n 1, 1) := by decide +kernel
theorem dX1_sumOfStrengths_2 : decode cX1_sumOfStrengths 2 = .ok (.iconst 0, 1) := by decide +kernel
theorem dX1_sumOfStrengths_3 : decode cX1_sumOfStrengths 3 = .ok (.istore_n 2, 1) := by decide +kernel
theorem dX1_sumOfStrengths_4 : decode cX1_sumOfStrengths 4 = .ok (.iload_n 2, 1) := by decide +kernel
theorem dX1_sumOfStrengths_5 : decode cX1_sumOfStrengths 5 = .ok (.aload_n 0, 1) := by decide +kernel
theorem dX1_sumOfStrengths_6 : decode cX1_sumOfStrengths 6 = .ok (.getfield 27, 3) := by decide +kernel
theorem dX1_sumOfStrengths_9 : decode cX1_sumOfStrengths 9 = .ok (.if_icmp .ge 18, 3) := by decide +kernel
theorem dX1_sumOfStrengths_12 : decode cX1_sumOfStrengths 12 = .ok (.iload_n 1, 1) := by decide +kernel
theorem dX1_sumOfStrengths_13 : decode cX1_sumOfStrengths 13 = .ok (.aload_n 0, 1) := by decide +kernel
theorem dX1_sumOfStrengths_14 : decode cX1_sumOfStrengths 14 = .ok (.getfield 15, 3) := by decide +kernel
theorem dX1_sumOfStrengths_17 : decode cX1_sumOfStrengths 17 = .ok (.iload_n 2, 1) := by decide +kernel
theorem dX1_sumOfStrengths_18 : decode cX1_sumOfStrengths 18 = .ok (.iaload, 1) := by decide +kernel
theorem dX1_sumOfStrengths_19 : decode cX1_sumOfStrengths 19 = .ok (.iadd, 1) := by decide +kernel
theorem dX1_sumOfStrengths_20 : decode cX1_sumOfStrengths 20 = .ok (.istore_n 1, 1) := by decide +kernel
theorem dX1_sumOfStrengths_21 : decode cX1_sumOfStrengths 21 = .ok (.iinc 2 1, 3) := by decide +kernel
theorem dX1_sumOfStrengths_24 : decode cX1_sumOfStrengths 24 = .ok (.goto (-20), 3) := by decide +kernel
theorem dX1_sumOfStrengths_27 : decode cX1_sumOfStrengths 27 = .ok (.iload_n 1, 1) := by decide +kernel
theorem dX1_sumOfStrengths_28 : decode cX1_sumOfStrengths 28 = .ok (.ireturn, 1) := by decide +kernel
theorem dX1_place_0 : decode cX1_place 0 = .ok (.aload_n 0, 1) := by decide +kernel
theorem dX1_place_1 : decode cX1_place 1 = .ok (.getfield 27, 3) := by decide +kernel
theorem dX1_place_4 : decode cX1_place 4 = .ok (.istore 4, 2) := by decide +kernel
theorem dX1_place_6 : decode cX1_place 6 = .ok (.aload_n 0, 1) := by decide +kernel
theorem dX1_place_7 : decode cX1_place 7 = .ok (.getfield 9, 3) := by decide +kernel
theorem dX1_place_10 : decode cX1_place 10 = .ok (.iload 4, 2) := by decide +kernel
theorem dX1_place_12 : decode cX1_place 12 = .ok (.iload_n 1, 1) := by decide +kernel
theorem dX1_place_13 : decode cX1_place 13 = .ok (.iastore, 1) := by decide +kernel
theorem dX1_place_14 : decode cX1_place 14 = .ok (.aload_n 0, 1) := by decide +kernel
theorem dX1_place_15 : decode cX1_place 15 = .ok (.getfield 15, 3) := by decide +kernel
theorem dX1_place_18 : decode cX1_place 18 = .ok (.iload 4, 2) := by decide +kernel
theorem dX1_place_20 : decode cX1_place 20 = .ok (.iload_n 2, 1) := by decide +kernel
theorem dX1_place_21 : decode cX1_place 21 = .ok (.iastore, 1) := by decide +kernel
theorem dX1_place_22 : decode cX1_place 22 = .ok (.aload_n 0, 1) := by decide +kernel
theorem dX1_place_23 : decode cX1_place 23 = .ok (.getfield 18, 3) := by decide +kernel
theorem dX1_place_26 : decode cX1_place 26 = .ok (.iload 4, 2) := by decide +kernel
theorem dX1_place_28 : decode cX1_place 28 = .ok (.iconst 0, 1) := by decide +kernel
theorem dX1_place_29 : decode cX1_place 29 = .ok (.iastore, 1) := by decide +kernel
theorem dX1_place_30 : decode cX1_place 30 = .ok (.iload_n 3, 1) := by decide +kernel
theorem dX1_place_31 : decode cX1_place 31 = .ok (.ifCond .eq 16, 3) := by decide +kernel
theorem dX1_place_34 : decode cX1_place 34 = .ok (.aload_n 0, 1) := by decide +kernel
theorem dX1_place_35 : decode cX1_place 35 = .ok (.dup, 1) := by decide +kernel
theorem dX1_place_36 : decode cX1_place 36 = .ok (.getfield 37, 3) := by decide +kernel
theorem dX1_place_39 : decode cX1_place 39 = .ok (.iconst 1, 1) := by decide +kernel
theorem dX1_place_40 : decode cX1_place 40 = .ok (.iload 4, 2) := by decide +kernel
theorem dX1_place_42 : decode cX1_place 42 = .ok (.ishl, 1) := by decide +kernel
theorem dX1_place_43 : decode cX1_place 43 = .ok (.ior, 1) := by decide +kernel
theorem dX1_place_44 : decode cX1_place 44 = .ok (.putfield 37, 3) := by decide +kernel
theorem dX1_place_47 : decode cX1_place 47 = .ok (.aload_n 0, 1) := by decide +kernel
theorem dX1_place_48 : decode cX1_place 48 = .ok (.dup, 1) := by decide +kernel
theorem dX1_place_49 : decode cX1_place 49 = .ok (.getfield 27, 3) := by decide +kernel
theorem dX1_place_52 : decode cX1_place 52 = .ok (.iconst 1, 1) := by decide +kernel
theorem dX1_place_53 : decode cX1_place 53 = .ok (.iadd, 1) := by decide +kernel
theorem dX1_place_54 : decode cX1_place 54 = .ok (.putfield 27, 3) := by decide +kernel
theorem dX1_place_57 : decode cX1_place 57 = .ok (.iload 4, 2) := by decide +kernel
theorem dX1_place_59 : decode cX1_place 59 = .ok (.ireturn, 1) := by decide +kernel
theorem dX1_strengthen_0 : decode cX1_strengthen 0 = .ok (.aload_n 0, 1) := by decide +kernel
theorem dX1_strengthen_1 : decode cX1_strengthen 1 = .ok (.getfield 15, 3) := by decide +kernel
theorem dX1_strengthen_4 : decode cX1_strengthen 4 = .ok (.iload_n 1, 1) := by decide +kernel
theorem dX1_strengthen_5 : decode cX1_strengthen 5 = .ok (.iaload, 1) := by decide +kernel
theorem dX1_strengthen_6 : decode cX1_strengthen 6 = .ok (.istore_n 3, 1) := by decide +kernel
theorem dX1_strengthen_7 : decode cX1_strengthen 7 = .ok (.aload_n 0, 1) := by decide +kernel
theorem dX1_strengthen_8 : decode cX1_strengthen 8 = .ok (.getfield 15, 3) := by decide +kernel
theorem dX1_strengthen_11 : decode cX1_strengthen 11 = .ok (.iload_n 1, 1) := by decide +kernel
theorem dX1_strengthen_12 : decode cX1_strengthen 12 = .ok (.iload_n 2, 1) := by decide +kernel
theorem dX1_strengthen_13 : decode cX1_strengthen 13 = .ok (.iastore, 1) := by decide +kernel
theorem dX1_strengthen_14 : decode cX1_strengthen 14 = .ok (.iload_n 3, 1) := by decide +kernel
theorem dX1_strengthen_15 : decode cX1_strengthen 15 = .ok (.ireturn, 1) := by decide +kernel
theorem dX1_turnFrom_0 : decode cX1_turnFrom 0 = .ok (.iconst 0, 1) := by decide +kernel
theorem dX1_turnFrom_1 : decode cX1_turnFrom 1 = .ok (.istore_n 2, 1) := by decide +kernel
theorem dX1_turnFrom_2 : decode cX1_turnFrom 2 = .ok (.iconst 0, 1) := by decide +kernel
theorem dX1_turnFrom_3 : decode cX1_turnFrom 3 = .ok (.istore_n 3, 1) := by decide +kernel
theorem dX1_turnFrom_4 : decode cX1_turnFrom 4 = .ok (.iload_n 3, 1) := by decide +kernel
theorem dX1_turnFrom_5 : decode cX1_turnFrom 5 = .ok (.aload_n 0, 1) := by decide +kernel
theorem dX1_turnFrom_6 : decode cX1_turnFrom 6 = .ok (.getfield 27, 3) := by decide +kernel
theorem dX1_turnFrom_9 : decode cX1_turnFrom 9 = .ok (.if_icmp .ge 25, 3) := by decide +kernel
theorem dX1_turnFrom_12 : decode cX1_turnFrom 12 = .ok (.aload_n 0, 1) := by decide +kernel
theorem dX1_turnFrom_13 : decode cX1_turnFrom 13 = .ok (.getfield 9, 3) := by decide +kernel
theorem dX1_turnFrom_16 : decode cX1_turnFrom 16 = .ok (.iload_n 3, 1) := by decide +kernel
theorem dX1_turnFrom_17 : decode cX1_turnFrom 17 = .ok (.iaload, 1) := by decide +kernel
theorem dX1_turnFrom_18 : decode cX1_turnFrom 18 = .ok (.iload_n 1, 1) := by decide +kernel
theorem dX1_turnFrom_19 : decode cX1_turnFrom 19 = .ok (.if_icmp .lt 9, 3) := by decide +kernel
theorem dX1_turnFrom_22 : decode cX1_turnFrom 22 = .ok (.iload_n 2, 1) := by decide +kernel
theorem dX1_turnFrom_23 : decode cX1_turnFrom 23 = .ok (.iconst 1, 1) := by decide +kernel
theorem dX1_turnFrom_24 : decode cX1_turnFrom 24 = .ok (.iload_n 3, 1) := by decide +kernel
theorem dX1_turnFrom_25 : decode cX1_turnFrom 25 = .ok (.ishl, 1) := by decide +kernel
theorem dX1_turnFrom_26 : decode cX1_turnFrom 26 = .ok (.ior, 1) := by decide +kernel
theorem dX1_turnFrom_27 : decode cX1_turnFrom 27 = .ok (.istore_n 2, 1) := by decide +kernel
theorem dX1_turnFrom_28 : decode cX1_turnFrom 28 = .ok (.iinc 3 1, 3) := by decide +kernel
theorem dX1_turnFrom_31 : decode cX1_turnFrom 31 = .ok (.goto (-27), 3) := by decide +kernel
theorem dX1_turnFrom_34 : decode cX1_turnFrom 34 = .ok (.aload_n 0, 1) := by decide +kernel
theorem dX1_turnFrom_35 : decode cX1_turnFrom 35 = .ok (.iload_n 2, 1) := by decide +kernel
theorem dX1_turnFrom_36 : decode cX1_turnFrom 36 = .ok (.invokevirtual 57, 3) := by decide +kernel
theorem dX1_turnFrom_39 : decode cX1_turnFrom 39 = .ok (.ireturn, 1) := by decide +kernel
theorem dX1_turnSet_0 : decode cX1_turnSet 0 = .ok (.iconst 0, 1) := by decide +kernel
theorem dX1_turnSet_1 : decode cX1_turnSet 1 = .ok (.istore_n 2, 1) := by decide +kernel
theorem dX1_turnSet_2 : decode cX1_turnSet 2 = .ok (.iload_n 2, 1) := by decide +kernel
theorem dX1_turnSet_3 : decode cX1_turnSet 3 = .ok (.aload_n 0, 1) := by decide +kernel
theorem dX1_turnSet_4 : decode cX1_turnSet 4 = .ok (.getfield 27, 3) := by decide +kernel
theorem dX1_turnSet_7 : decode cX1_turnSet 7 = .ok (.if_icmp .ge 27, 3) := by decide +kernel
theorem dX1_turnSet_10 : decode cX1_turnSet 10 = .ok (.iload_n 1, 1) := by decide +kernel
theorem dX1_turnSet_11 : decode cX1_turnSet 11 = .ok (.iload_n 2, 1) := by decide +kernel
theorem dX1_turnSet_12 : decode cX1_turnSet 12 = .ok (.invokestatic 53, 3) := by decide +kernel
theorem dX1_turnSet_15 : decode cX1_turnSet 15 = .ok (.ifCond .eq 13, 3) := by decide +kernel
theorem dX1_turnSet_18 : decode cX1_turnSet 18 = .ok (.aload_n 0, 1) := by decide +kernel
theorem dX1_turnSet_19 : decode cX1_turnSet 19 = .ok (.getfield 18, 3) := by decide +kernel
theorem dX1_turnSet_22 : decode cX1_turnSet 22 = .ok (.iload_n 2, 1) := by decide +kernel
theorem dX1_turnSet_23 : decode cX1_turnSet 23 = .ok (.dup2, 1) := by decide +kernel
theorem dX1_turnSet_24 : decode cX1_turnSet 24 = .ok (.iaload, 1) := by decide +kernel
theorem dX1_turnSet_25 : decode cX1_turnSet 25 = .ok (.iconst 1, 1) := by decide +kernel
theorem dX1_turnSet_26 : decode cX1_turnSet 26 = .ok (.iadd, 1) := by decide +kernel
theorem dX1_turnSet_27 : decode cX1_turnSet 27 = .ok (.iastore, 1) := by decide +kernel
theorem dX1_turnSet_28 : decode cX1_turnSet 28 = .ok (.iinc 2 1, 3) := by decide +kernel
theorem dX1_turnSet_31 : decode cX1_turnSet 31 = .ok (.goto (-29), 3) := by decide +kernel
theorem dX1_turnSet_34 : decode cX1_turnSet 34 = .ok (.aload_n 0, 1) := by decide +kernel
theorem dX1_turnSet_35 : decode cX1_turnSet 35 = .ok (.dup, 1) := by decide +kernel
theorem dX1_turnSet_36 : decode cX1_turnSet 36 = .ok (.getfield 37, 3) := by decide +kernel
theorem dX1_turnSet_39 : decode cX1_turnSet 39 = .ok (.iload_n 1, 1) := by decide +kernel
theorem dX1_turnSet_40 : decode cX1_turnSet 40 = .ok (.ixor, 1) := by decide +kernel
theorem dX1_turnSet_41 : decode cX1_turnSet 41 = .ok (.putfield 37, 3) := by decide +kernel
theorem dX1_turnSet_44 : decode cX1_turnSet 44 = .ok (.iload_n 1, 1) := by decide +kernel
theorem dX1_turnSet_45 : decode cX1_turnSet 45 = .ok (.invokestatic 60, 3) := by decide +kernel
theorem dX1_turnSet_48 : decode cX1_turnSet 48 = .ok (.istore_n 2, 1) := by decide +kernel
theorem dX1_turnSet_49 : decode cX1_turnSet 49 = .ok (.aload_n 0, 1) := by decide +kernel
theorem dX1_turnSet_50 : decode cX1_turnSet 50 = .ok (.dup, 1) := by decide +kernel
theorem dX1_turnSet_51 : decode cX1_turnSet 51 = .ok (.getfield 43, 3) := by decide +kernel
theorem dX1_turnSet_54 : decode cX1_turnSet 54 = .ok (.iload_n 2, 1) := by decide +kernel
theorem dX1_turnSet_55 : decode cX1_turnSet 55 = .ok (.iadd, 1) := by decide +kernel
theorem dX1_turnSet_56 : decode cX1_turnSet 56 = .ok (.putfield 43, 3) := by decide +kernel
theorem dX1_turnSet_59 : decode cX1_turnSet 59 = .ok (.iload_n 2, 1) := by decide +kernel
theorem dX1_turnSet_60 : decode cX1_turnSet 60 = .ok (.ireturn, 1) := by decide +kernel
theorem dX1_tunnelBetween_0 : decode cX1_tunnelBetween 0 = .ok (.iconst 0, 1) := by decide +kernel
theorem dX1_tunnelBetween_1 : decode cX1_tunnelBetween 1 = .ok (.istore_n 3, 1) := by decide +kernel
theorem dX1_tunnelBetween_2 : decode cX1_tunnelBetween 2 = .ok (.iload_n 3, 1) := by decide +kernel
theorem dX1_tunnelBetween_3 : decode cX1_tunnelBetween 3 = .ok (.aload_n 0, 1) := by decide +kernel
theorem dX1_tunnelBetween_4 : decode cX1_tunnelBetween 4 = .ok (.getfield 40, 3) := by decide +kernel
theorem dX1_tunnelBetween_7 : decode cX1_tunnelBetween 7 = .ok (.if_icmp .ge 21, 3) := by decide +kernel
theorem dX1_tunnelBetween_10 : decode cX1_tunnelBetween 10 = .ok (.aload_n 0, 1) := by decide +kernel
theorem dX1_tunnelBetween_11 : decode cX1_tunnelBetween 11 = .ok (.iload_n 3, 1) := by decide +kernel
theorem dX1_tunnelBetween_12 : decode cX1_tunnelBetween 12 = .ok (.iload_n 1, 1) := by decide +kernel
theorem dX1_tunnelBetween_13 : decode cX1_tunnelBetween 13 = .ok (.invokevirtual 65, 3) := by decide +kernel
theorem dX1_tunnelBetween_16 : decode cX1_tunnelBetween 16 = .ok (.iload_n 2, 1) := by decide +kernel
theorem dX1_tunnelBetween_17 : decode cX1_tunnelBetween 17 = .ok (.if_icmp .ne 5, 3) := by decide +kernel
theorem dX1_tunnelBetween_20 : decode cX1_tunnelBetween 20 = .ok (.iload_n 3, 1) := by decide +kernel
theorem dX1_tunnelBetween_21 : decode cX1_tunnelBetween 21 = .ok (.ireturn, 1) := by decide +kernel
theorem dX1_tunnelBetween_22 : decode cX1_tunnelBetween 22 = .ok (.iinc 3 1, 3) := by decide +kernel
theorem dX1_tunnelBetween_25 : decode cX1_tunnelBetween 25 = .ok (.goto (-23), 3) := by decide +kernel
theorem dX1_tunnelBetween_28 : decode cX1_tunnelBetween 28 = .ok (.iconst (-1), 1) := by decide +kernel
theorem dX1_tunnelBetween_29 : decode cX1_tunnelBetween 29 = .ok (.ireturn, 1) := by decide +kernel
theorem dX1_otherEnd_0 : decode cX1_otherEnd 0 = .ok (.aload_n 0, 1) := by decide +kernel
theorem dX1_otherEnd_1 : decode cX1_otherEnd 1 = .ok (.getfield 21, 3) := by decide +kernel
theorem dX1_otherEnd_4 : decode cX1_otherEnd 4 = .ok (.iload_n 1, 1) := by decide +kernel
theorem dX1_otherEnd_5 : decode cX1_otherEnd 5 = .ok (.iaload, 1) := by decide +kernel
theorem dX1_otherEnd_6 : decode cX1_otherEnd 6 = .ok (.iload_n 2, 1) := by decide +kernel
theorem dX1_otherEnd_7 : decode cX1_otherEnd 7 = .ok (.if_icmp .ne 10, 3) := by decide +kernel
theorem dX1_otherEnd_10 : decode cX1_otherEnd 10 = .ok (.aload_n 0, 1) := by decide +kernel
theorem dX1_otherEnd_11 : decode cX1_otherEnd 11 = .ok (.getfield 24, 3) := by decide +kernel
theorem dX1_otherEnd_14 : decode cX1_otherEnd 14 = .ok (.iload_n 1, 1) := by decide +kernel
theorem dX1_otherEnd_15 : decode cX1_otherEnd 15 = .ok (.iaload, 1) := by decide +kernel
theorem dX1_otherEnd_16 : decode cX1_otherEnd 16 = .ok (.ireturn, 1) := by decide +kernel
theorem dX1_otherEnd_17 : decode cX1_otherEnd 17 = .ok (.aload_n 0, 1) := by decide +kernel
theorem dX1_otherEnd_18 : decode cX1_otherEnd 18 = .ok (.getfield 24, 3) := by decide +kernel
theorem dX1_otherEnd_21 : decode cX1_otherEnd 21 = .ok (.iload_n 1, 1) := by decide +kernel
theorem dX1_otherEnd_22 : decode cX1_otherEnd 22 = .ok (.iaload, 1) := by decide +kernel
theorem dX1_otherEnd_23 : decode cX1_otherEnd 23 = .ok (.iload_n 2, 1) := by decide +kernel
theorem dX1_otherEnd_24 : decode cX1_otherEnd 24 = .ok (.if_icmp .ne 12, 3) := by decide +kernel
theorem dX1_otherEnd_27 : decode cX1_otherEnd 27 = .ok (.aload_n 0, 1) := by decide +kernel
theorem dX1_otherEnd_28 : decode cX1_otherEnd 28 = .ok (.getfield 21, 3) := by decide +kernel
theorem dX1_otherEnd_31 : decode cX1_otherEnd 31 = .ok (.iload_n 1, 1) := by decide +kernel
theorem dX1_otherEnd_32 : decode cX1_otherEnd 32 = .ok (.iaload, 1) := by decide +kernel
theorem dX1_otherEnd_33 : decode cX1_otherEnd 33 = .ok (.goto 4, 3) := by decide +kernel
theorem dX1_otherEnd_36 : decode cX1_otherEnd 36 = .ok (.iconst (-1), 1) := by decide +kernel
theorem dX1_otherEnd_37 : decode cX1_otherEnd 37 = .ok (.ireturn, 1) := by decide +kernel
theorem dX1_hasUnlikePoles_0 : decode cX1_hasUnlikePoles 0 = .ok (.aload_n 0, 1) := by decide +kernel
theorem dX1_hasUnlikePoles_1 : decode cX1_hasUnlikePoles 1 = .ok (.aload_n 0, 1) := by decide +kernel
theorem dX1_hasUnlikePoles_2 : decode cX1_hasUnlikePoles 2 = .ok (.getfield 37, 3) := by decide +kernel
theorem dX1_hasUnlikePoles_5 : decode cX1_hasUnlikePoles 5 = .ok (.iload_n 1, 1) := by decide +kernel
theorem dX1_hasUnlikePoles_6 : decode cX1_hasUnlikePoles 6 = .ok (.invokevirtual 69, 3) := by decide +kernel
theorem dX1_hasUnlikePoles_9 : decode cX1_hasUnlikePoles 9 = .ok (.ifCond .ne 7, 3) := by decide +kernel
theorem dX1_hasUnlikePoles_12 : decode cX1_hasUnlikePoles 12 = .ok (.iconst 1, 1) := by decide +kernel
theorem dX1_hasUnlikePoles_13 : decode cX1_hasUnlikePoles 13 = .ok (.goto 4, 3) := by decide +kernel
theorem dX1_hasUnlikePoles_16 : decode cX1_hasUnlikePoles 16 = .ok (.iconst 0, 1) := by decide +kernel
theorem dX1_hasUnlikePoles_17 : decode cX1_hasUnlikePoles 17 = .ok (.ireturn, 1) := by decide +kernel
theorem dX1_isBlockedWith_0 : decode cX1_isBlockedWith 0 = .ok (.iload_n 1, 1) := by decide +kernel
theorem dX1_isBlockedWith_1 : decode cX1_isBlockedWith 1 = .ok (.aload_n 0, 1) := by decide +kernel
theorem dX1_isBlockedWith_2 : decode cX1_isBlockedWith 2 = .ok (.getfield 21, 3) := by decide +kernel
theorem dX1_isBlockedWith_5 : decode cX1_isBlockedWith 5 = .ok (.iload_n 2, 1) := by decide +kernel
theorem dX1_isBlockedWith_6 : decode cX1_isBlockedWith 6 = .ok (.iaload, 1) := by decide +kernel
theorem dX1_isBlockedWith_7 : decode cX1_isBlockedWith 7 = .ok (.ishr, 1) := by decide +kernel
theorem dX1_isBlockedWith_8 : decode cX1_isBlockedWith 8 = .ok (.iload_n 1, 1) := by decide +kernel
theorem dX1_isBlockedWith_9 : decode cX1_isBlockedWith 9 = .ok (.aload_n 0, 1) := by decide +kernel
theorem dX1_isBlockedWith_10 : decode cX1_isBlockedWith 10 = .ok (.getfield 24, 3) := by decide +kernel
theorem dX1_isBlockedWith_13 : decode cX1_isBlockedWith 13 = .ok (.iload_n 2, 1) := by decide +kernel
theorem dX1_isBlockedWith_14 : decode cX1_isBlockedWith 14 = .ok (.iaload, 1) := by decide +kernel
theorem dX1_isBlockedWith_15 : decode cX1_isBlockedWith 15 = .ok (.ishr, 1) := by decide +kernel
theorem dX1_isBlockedWith_16 : decode cX1_isBlockedWith 16 = .ok (.ixor, 1) := by decide +kernel
theorem dX1_isBlockedWith_17 : decode cX1_isBlockedWith 17 = .ok (.iconst 1, 1) := by decide +kernel
theorem dX1_isBlockedWith_18 : decode cX1_isBlockedWith 18 = .ok (.iand, 1) := by decide +kernel
theorem dX1_isBlockedWith_19 : decode cX1_isBlockedWith 19 = .ok (.ifCond .ne 7, 3) := by decide +kernel
theorem dX1_isBlockedWith_22 : decode cX1_isBlockedWith 22 = .ok (.iconst 1, 1) := by decide +kernel
theorem dX1_isBlockedWith_23 : decode cX1_isBlockedWith 23 = .ok (.goto 4, 3) := by decide +kernel
theorem dX1_isBlockedWith_26 : decode cX1_isBlockedWith 26 = .ok (.iconst 0, 1) := by decide +kernel
theorem dX1_isBlockedWith_27 : decode cX1_isBlockedWith 27 = .ok (.ireturn, 1) := by decide +kernel
theorem dX1_countBlocked_0 : decode cX1_countBlocked 0 = .ok (.aload_n 0, 1) := by decide +kernel
theorem dX1_countBlocked_1 : decode cX1_countBlocked 1 = .ok (.aload_n 0, 1) := by decide +kernel
theorem dX1_countBlocked_2 : decode cX1_countBlocked 2 = .ok (.getfield 37, 3) := by decide +kernel
theorem dX1_countBlocked_5 : decode cX1_countBlocked 5 = .ok (.invokevirtual 72, 3) := by decide +kernel
theorem dX1_countBlocked_8 : decode cX1_countBlocked 8 = .ok (.ireturn, 1) := by decide +kernel
theorem dX1_countBlockedWith_0 : decode cX1_countBlockedWith 0 = .ok (.iconst 0, 1) := by decide +kernel
theorem dX1_countBlockedWith_1 : decode cX1_countBlockedWith 1 = .ok (.istore_n 2, 1) := by decide +kernel
theorem dX1_countBlockedWith_2 : decode cX1_countBlockedWith 2 = .ok (.iconst 0, 1) := by decide +kernel
theorem dX1_countBlockedWith_3 : decode cX1_countBlockedWith 3 = .ok (.istore_n 3, 1) := by decide +kernel
theorem dX1_countBlockedWith_4 : decode cX1_countBlockedWith 4 = .ok (.iload_n 3, 1) := by decide +kernel
theorem dX1_countBlockedWith_5 : decode cX1_countBlockedWith 5 = .ok (.aload_n 0, 1) := by decide +kernel
theorem dX1_countBlockedWith_6 : decode cX1_countBlockedWith 6 = .ok (.getfield 40, 3) := by decide +kernel
theorem dX1_countBlockedWith_9 : decode cX1_countBlockedWith 9 = .ok (.if_icmp .ge 26, 3) := by decide +kernel
theorem dX1_countBlockedWith_12 : decode cX1_countBlockedWith 12 = .ok (.iload_n 2, 1) := by decide +kernel
theorem dX1_countBlockedWith_13 : decode cX1_countBlockedWith 13 = .ok (.aload_n 0, 1) := by decide +kernel
theorem dX1_countBlockedWith_14 : decode cX1_countBlockedWith 14 = .ok (.iload_n 1, 1) := by decide +kernel
theorem dX1_countBlockedWith_15 : decode cX1_countBlockedWith 15 = .ok (.iload_n 3, 1) := by decide +kernel
theorem dX1_countBlockedWith_16 : decode cX1_countBlockedWith 16 = .ok (.invokevirtual 69, 3) := by decide +kernel
theorem dX1_countBlockedWith_19 : decode cX1_countBlockedWith 19 = .ok (.ifCond .eq 7, 3) := by decide +kernel
theorem dX1_countBlockedWith_22 : decode cX1_countBlockedWith 22 = .ok (.iconst 1, 1) := by decide +kernel
theorem dX1_countBlockedWith_23 : decode cX1_countBlockedWith 23 = .ok (.goto 4, 3) := by decide +kernel
theorem dX1_countBlockedWith_26 : decode cX1_countBlockedWith 26 = .ok (.iconst 0, 1) := by decide +kernel
theorem dX1_countBlockedWith_27 : decode cX1_countBlockedWith 27 = .ok (.iadd, 1) := by decide +kernel
theorem dX1_countBlockedWith_28 : decode cX1_countBlockedWith 28 = .ok (.istore_n 2, 1) := by decide +kernel
theorem dX1_countBlockedWith_29 : decode cX1_countBlockedWith 29 = .ok (.iinc 3 1, 3) := by decide +kernel
theorem dX1_countBlockedWith_32 : decode cX1_countBlockedWith 32 = .ok (.goto (-28), 3) := by decide +kernel
theorem dX1_countBlockedWith_35 : decode cX1_countBlockedWith 35 = .ok (.iload_n 2, 1) := by decide +kernel
theorem dX1_countBlockedWith_36 : decode cX1_countBlockedWith 36 = .ok (.ireturn, 1) := by decide +kernel
theorem dX1_join_0 : decode cX1_join 0 = .ok (.aload_n 0, 1) := by decide +kernel
theorem dX1_join_1 : decode cX1_join 1 = .ok (.getfield 40, 3) := by decide +kernel
theorem dX1_join_4 : decode cX1_join 4 = .ok (.istore_n 3, 1) := by decide +kernel
theorem dX1_join_5 : decode cX1_join 5 = .ok (.aload_n 0, 1) := by decide +kernel
theorem dX1_join_6 : decode cX1_join 6 = .ok (.getfield 21, 3) := by decide +kernel
theorem dX1_join_9 : decode cX1_join 9 = .ok (.iload_n 3, 1) := by decide +kernel
theorem dX1_join_10 : decode cX1_join 10 = .ok (.iload_n 1, 1) := by decide +kernel
theorem dX1_join_11 : decode cX1_join 11 = .ok (.iastore, 1) := by decide +kernel
theorem dX1_join_12 : decode cX1_join 12 = .ok (.aload_n 0, 1) := by decide +kernel
theorem dX1_join_13 : decode cX1_join 13 = .ok (.getfield 24, 3) := by decide +kernel
theorem dX1_join_16 : decode cX1_join 16 = .ok (.iload_n 3, 1) := by decide +kernel
theorem dX1_join_17 : decode cX1_join 17 = .ok (.iload_n 2, 1) := by decide +kernel
theorem dX1_join_18 : decode cX1_join 18 = .ok (.iastore, 1) := by decide +kernel
theorem dX1_join_19 : decode cX1_join 19 = .ok (.aload_n 0, 1) := by decide +kernel
theorem dX1_join_20 : decode cX1_join 20 = .ok (.dup, 1) := by decide +kernel
theorem dX1_join_21 : decode cX1_join 21 = .ok (.getfield 40, 3) := by decide +kernel
theorem dX1_join_24 : decode cX1_join 24 = .ok (.iconst 1, 1) := by decide +kernel
theorem dX1_join_25 : decode cX1_join 25 = .ok (.iadd, 1) := by decide +kernel
theorem dX1_join_26 : decode cX1_join 26 = .ok (.putfield 40, 3) := by decide +kernel
theorem dX1_join_29 : decode cX1_join 29 = .ok (.iload_n 3, 1) := by decide +kernel
theorem dX1_join_30 : decode cX1_join 30 = .ok (.ireturn, 1) := by decide +kernel
theorem dX1_remove_0 : decode cX1_remove 0 = .ok (.aload_n 0, 1) := by decide +kernel
theorem dX1_remove_1 : decode cX1_remove 1 = .ok (.dup, 1) := by decide +kernel
theorem dX1_remove_2 : decode cX1_remove 2 = .ok (.getfield 40, 3) := by decide +kernel
theorem dX1_remove_5 : decode cX1_remove 5 = .ok (.iconst 1, 1) := by decide +kernel
theorem dX1_remove_6 : decode cX1_remove 6 = .ok (.isub, 1) := by decide +kernel
theorem dX1_remove_7 : decode cX1_remove 7 = .ok (.putfield 40, 3) := by decide +kernel
theorem dX1_remove_10 : decode cX1_remove 10 = .ok (.iload_n 1, 1) := by decide +kernel
theorem dX1_remove_11 : decode cX1_remove 11 = .ok (.istore_n 2, 1) := by decide +kernel
theorem dX1_remove_12 : decode cX1_remove 12 = .ok (.iload_n 2, 1) := by decide +kernel
theorem dX1_remove_13 : decode cX1_remove 13 = .ok (.aload_n 0, 1) := by decide +kernel
theorem dX1_remove_14 : decode cX1_remove 14 = .ok (.getfield 40, 3) := by decide +kernel
theorem dX1_remove_17 : decode cX1_remove 17 = .ok (.if_icmp .ge 37, 3) := by decide +kernel
theorem dX1_remove_20 : decode cX1_remove 20 = .ok (.aload_n 0, 1) := by decide +kernel
theorem dX1_remove_21 : decode cX1_remove 21 = .ok (.getfield 21, 3) := by decide +kernel
theorem dX1_remove_24 : decode cX1_remove 24 = .ok (.iload_n 2, 1) := by decide +kernel
theorem dX1_remove_25 : decode cX1_remove 25 = .ok (.aload_n 0, 1) := by decide +kernel
theorem dX1_remove_26 : decode cX1_remove 26 = .ok (.getfield 21, 3) := by decide +kernel
theorem dX1_remove_29 : decode cX1_remove 29 = .ok (.iload_n 2, 1) := by decide +kernel
theorem dX1_remove_30 : decode cX1_remove 30 = .ok (.iconst 1, 1) := by decide +kernel
theorem dX1_remove_31 : decode cX1_remove 31 = .ok (.iadd, 1) := by decide +kernel
theorem dX1_remove_32 : decode cX1_remove 32 = .ok (.iaload, 1) := by decide +kernel
theorem dX1_remove_33 : decode cX1_remove 33 = .ok (.iastore, 1) := by decide +kernel
theorem dX1_remove_34 : decode cX1_remove 34 = .ok (.aload_n 0, 1) := by decide +kernel
theorem dX1_remove_35 : decode cX1_remove 35 = .ok (.getfield 24, 3) := by decide +kernel
theorem dX1_remove_38 : decode cX1_remove 38 = .ok (.iload_n 2, 1) := by decide +kernel
theorem dX1_remove_39 : decode cX1_remove 39 = .ok (.aload_n 0, 1) := by decide +kernel
theorem dX1_remove_40 : decode cX1_remove 40 = .ok (.getfield 24, 3) := by decide +kernel
theorem dX1_remove_43 : decode cX1_remove 43 = .ok (.iload_n 2, 1) := by decide +kernel
theorem dX1_remove_44 : decode cX1_remove 44 = .ok (.iconst 1, 1) := by decide +kernel
theorem dX1_remove_45 : decode cX1_remove 45 = .ok (.iadd, 1) := by decide +kernel
theorem dX1_remove_46 : decode cX1_remove 46 = .ok (.iaload, 1) := by decide +kernel
theorem dX1_remove_47 : decode cX1_remove 47 = .ok (.iastore, 1) := by decide +kernel
theorem dX1_remove_48 : decode cX1_remove 48 = .ok (.iinc 2 1, 3) := by decide +kernel
theorem dX1_remove_51 : decode cX1_remove 51 = .ok (.goto (-39), 3) := by decide +kernel
theorem dX1_remove_54 : decode cX1_remove 54 = .ok (.aload_n 0, 1) := by decide +kernel
theorem dX1_remove_55 : decode cX1_remove 55 = .ok (.getfield 40, 3) := by decide +kernel
theorem dX1_remove_58 : decode cX1_remove 58 = .ok (.ireturn, 1) := by decide +kernel
theorem dX2_init_0 : decode cX2_init 0 = .ok (.aload_n 0, 1) := by decide +kernel
theorem dX2_init_1 : decode cX2_init 1 = .ok (.invokespecial 1, 3) := by decide +kernel
theorem dX2_init_4 : decode cX2_init 4 = .ok (.return_, 1) := by decide +kernel
theorem dX2_setParameter_0 : decode cX2_setParameter 0 = .ok (.iload_n 1, 1) := by decide +kernel
theorem dX2_setParameter_1 : decode cX2_setParameter 1 = .ok (.lookupswitch 43 #[(0, 27), (1, 35)], 27) := by decide +kernel
theorem dX2_setParameter_28 : decode cX2_setParameter 28 = .ok (.aload_n 0, 1) := by decide +kernel
theorem dX2_setParameter_29 : decode cX2_setParameter 29 = .ok (.iload_n 2, 1) := by decide +kernel
theorem dX2_setParameter_30 : decode cX2_setParameter 30 = .ok (.putfield 7, 3) := by decide +kernel
theorem dX2_setParameter_33 : decode cX2_setParameter 33 = .ok (.goto 16, 3) := by decide +kernel
theorem dX2_setParameter_36 : decode cX2_setParameter 36 = .ok (.aload_n 0, 1) := by decide +kernel
theorem dX2_setParameter_37 : decode cX2_setParameter 37 = .ok (.iload_n 2, 1) := by decide +kernel
theorem dX2_setParameter_38 : decode cX2_setParameter 38 = .ok (.putfield 13, 3) := by decide +kernel
theorem dX2_setParameter_41 : decode cX2_setParameter 41 = .ok (.goto 8, 3) := by decide +kernel
theorem dX2_setParameter_44 : decode cX2_setParameter 44 = .ok (.aload_n 0, 1) := by decide +kernel
theorem dX2_setParameter_45 : decode cX2_setParameter 45 = .ok (.iload_n 2, 1) := by decide +kernel
theorem dX2_setParameter_46 : decode cX2_setParameter 46 = .ok (.putfield 16, 3) := by decide +kernel
theorem dX2_setParameter_49 : decode cX2_setParameter 49 = .ok (.return_, 1) := by decide +kernel

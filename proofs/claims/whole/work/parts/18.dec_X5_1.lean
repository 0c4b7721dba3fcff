theorem dX5_dueCodeBehind_24 : decode cX5_dueCodeBehind 24 = .ok (.bipush 12, 2) := by decide +kernel
theorem dX5_dueCodeBehind_26 : decode cX5_dueCodeBehind 26 = .ok (.imul, 1) := by decide +kernel
theorem dX5_dueCodeBehind_27 : decode cX5_dueCodeBehind 27 = .ok (.iadd, 1) := by decide +kernel
theorem dX5_dueCodeBehind_28 : decode cX5_dueCodeBehind 28 = .ok (.getstatic 68, 3) := by decide +kernel
theorem dX5_dueCodeBehind_31 : decode cX5_dueCodeBehind 31 = .ok (.iload 4, 2) := by decide +kernel
theorem dX5_dueCodeBehind_33 : decode cX5_dueCodeBehind 33 = .ok (.iaload, 1) := by decide +kernel
theorem dX5_dueCodeBehind_34 : decode cX5_dueCodeBehind 34 = .ok (.iadd, 1) := by decide +kernel
theorem dX5_dueCodeBehind_35 : decode cX5_dueCodeBehind 35 = .ok (.istore 5, 2) := by decide +kernel
theorem dX5_dueCodeBehind_37 : decode cX5_dueCodeBehind 37 = .ok (.aload_n 0, 1) := by decide +kernel
theorem dX5_dueCodeBehind_38 : decode cX5_dueCodeBehind 38 = .ok (.getfield 11, 3) := by decide +kernel
theorem dX5_dueCodeBehind_41 : decode cX5_dueCodeBehind 41 = .ok (.iload 5, 2) := by decide +kernel
theorem dX5_dueCodeBehind_43 : decode cX5_dueCodeBehind 43 = .ok (.iaload, 1) := by decide +kernel
theorem dX5_dueCodeBehind_44 : decode cX5_dueCodeBehind 44 = .ok (.iconst 4, 1) := by decide +kernel
theorem dX5_dueCodeBehind_45 : decode cX5_dueCodeBehind 45 = .ok (.imul, 1) := by decide +kernel
theorem dX5_dueCodeBehind_46 : decode cX5_dueCodeBehind 46 = .ok (.iload 4, 2) := by decide +kernel
theorem dX5_dueCodeBehind_48 : decode cX5_dueCodeBehind 48 = .ok (.iadd, 1) := by decide +kernel
theorem dX5_dueCodeBehind_49 : decode cX5_dueCodeBehind 49 = .ok (.bipush 60, 2) := by decide +kernel
theorem dX5_dueCodeBehind_51 : decode cX5_dueCodeBehind 51 = .ok (.imul, 1) := by decide +kernel
theorem dX5_dueCodeBehind_52 : decode cX5_dueCodeBehind 52 = .ok (.iload_n 3, 1) := by decide +kernel
theorem dX5_dueCodeBehind_53 : decode cX5_dueCodeBehind 53 = .ok (.iadd, 1) := by decide +kernel
theorem dX5_dueCodeBehind_54 : decode cX5_dueCodeBehind 54 = .ok (.istore 6, 2) := by decide +kernel
theorem dX5_dueCodeBehind_56 : decode cX5_dueCodeBehind 56 = .ok (.aload_n 0, 1) := by decide +kernel
theorem dX5_dueCodeBehind_57 : decode cX5_dueCodeBehind 57 = .ok (.iload 5, 2) := by decide +kernel
theorem dX5_dueCodeBehind_59 : decode cX5_dueCodeBehind 59 = .ok (.invokevirtual 35, 3) := by decide +kernel
theorem dX5_dueCodeBehind_62 : decode cX5_dueCodeBehind 62 = .ok (.ifCond .eq 24, 3) := by decide +kernel
theorem dX5_dueCodeBehind_65 : decode cX5_dueCodeBehind 65 = .ok (.iload 6, 2) := by decide +kernel
theorem dX5_dueCodeBehind_67 : decode cX5_dueCodeBehind 67 = .ok (.iload_n 1, 1) := by decide +kernel
theorem dX5_dueCodeBehind_68 : decode cX5_dueCodeBehind 68 = .ok (.if_icmp .le 18, 3) := by decide +kernel
theorem dX5_dueCodeBehind_71 : decode cX5_dueCodeBehind 71 = .ok (.iload_n 2, 1) := by decide +kernel
theorem dX5_dueCodeBehind_72 : decode cX5_dueCodeBehind 72 = .ok (.bipush (-2), 2) := by decide +kernel
theorem dX5_dueCodeBehind_74 : decode cX5_dueCodeBehind 74 = .ok (.if_icmp .eq 9, 3) := by decide +kernel
theorem dX5_dueCodeBehind_77 : decode cX5_dueCodeBehind 77 = .ok (.iload 6, 2) := by decide +kernel
theorem dX5_dueCodeBehind_79 : decode cX5_dueCodeBehind 79 = .ok (.iload_n 2, 1) := by decide +kernel
theorem dX5_dueCodeBehind_80 : decode cX5_dueCodeBehind 80 = .ok (.if_icmp .ge 6, 3) := by decide +kernel
theorem dX5_dueCodeBehind_83 : decode cX5_dueCodeBehind 83 = .ok (.iload 6, 2) := by decide +kernel
theorem dX5_dueCodeBehind_85 : decode cX5_dueCodeBehind 85 = .ok (.istore_n 2, 1) := by decide +kernel
theorem dX5_dueCodeBehind_86 : decode cX5_dueCodeBehind 86 = .ok (.iinc 4 1, 3) := by decide +kernel
theorem dX5_dueCodeBehind_89 : decode cX5_dueCodeBehind 89 = .ok (.goto (-75), 3) := by decide +kernel
theorem dX5_dueCodeBehind_92 : decode cX5_dueCodeBehind 92 = .ok (.iinc 3 1, 3) := by decide +kernel
theorem dX5_dueCodeBehind_95 : decode cX5_dueCodeBehind 95 = .ok (.goto (-90), 3) := by decide +kernel
theorem dX5_dueCodeBehind_98 : decode cX5_dueCodeBehind 98 = .ok (.iload_n 2, 1) := by decide +kernel
theorem dX5_dueCodeBehind_99 : decode cX5_dueCodeBehind 99 = .ok (.ireturn, 1) := by decide +kernel
theorem dX5_endOfDue_0 : decode cX5_endOfDue 0 = .ok (.iload_n 0, 1) := by decide +kernel
theorem dX5_endOfDue_1 : decode cX5_endOfDue 1 = .ok (.sipush 240, 3) := by decide +kernel
theorem dX5_endOfDue_4 : decode cX5_endOfDue 4 = .ok (.idiv, 1) := by decide +kernel
theorem dX5_endOfDue_5 : decode cX5_endOfDue 5 = .ok (.ireturn, 1) := by decide +kernel
theorem dX5_kindOfDue_0 : decode cX5_kindOfDue 0 = .ok (.iload_n 0, 1) := by decide +kernel
theorem dX5_kindOfDue_1 : decode cX5_kindOfDue 1 = .ok (.bipush 60, 2) := by decide +kernel
theorem dX5_kindOfDue_3 : decode cX5_kindOfDue 3 = .ok (.idiv, 1) := by decide +kernel
theorem dX5_kindOfDue_4 : decode cX5_kindOfDue 4 = .ok (.iconst 4, 1) := by decide +kernel
theorem dX5_kindOfDue_5 : decode cX5_kindOfDue 5 = .ok (.irem, 1) := by decide +kernel
theorem dX5_kindOfDue_6 : decode cX5_kindOfDue 6 = .ok (.ireturn, 1) := by decide +kernel
theorem dX5_spotOfDue_0 : decode cX5_spotOfDue 0 = .ok (.iload_n 0, 1) := by decide +kernel
theorem dX5_spotOfDue_1 : decode cX5_spotOfDue 1 = .ok (.bipush 60, 2) := by decide +kernel
theorem dX5_spotOfDue_3 : decode cX5_spotOfDue 3 = .ok (.irem, 1) := by decide +kernel
theorem dX5_spotOfDue_4 : decode cX5_spotOfDue 4 = .ok (.istore_n 1, 1) := by decide +kernel
theorem dX5_spotOfDue_5 : decode cX5_spotOfDue 5 = .ok (.iload_n 1, 1) := by decide +kernel
theorem dX5_spotOfDue_6 : decode cX5_spotOfDue 6 = .ok (.bipush 10, 2) := by decide +kernel
theorem dX5_spotOfDue_8 : decode cX5_spotOfDue 8 = .ok (.idiv, 1) := by decide +kernel
theorem dX5_spotOfDue_9 : decode cX5_spotOfDue 9 = .ok (.bipush 100, 2) := by decide +kernel
theorem dX5_spotOfDue_11 : decode cX5_spotOfDue 11 = .ok (.imul, 1) := by decide +kernel
theorem dX5_spotOfDue_12 : decode cX5_spotOfDue 12 = .ok (.iload_n 1, 1) := by decide +kernel
theorem dX5_spotOfDue_13 : decode cX5_spotOfDue 13 = .ok (.bipush 10, 2) := by decide +kernel
theorem dX5_spotOfDue_15 : decode cX5_spotOfDue 15 = .ok (.irem, 1) := by decide +kernel
theorem dX5_spotOfDue_16 : decode cX5_spotOfDue 16 = .ok (.iadd, 1) := by decide +kernel
theorem dX5_spotOfDue_17 : decode cX5_spotOfDue 17 = .ok (.ireturn, 1) := by decide +kernel
theorem dX5_obtain_0 : decode cX5_obtain 0 = .ok (.aload_n 0, 1) := by decide +kernel
theorem dX5_obtain_1 : decode cX5_obtain 1 = .ok (.iload_n 1, 1) := by decide +kernel
theorem dX5_obtain_2 : decode cX5_obtain 2 = .ok (.invokevirtual 71, 3) := by decide +kernel
theorem dX5_obtain_5 : decode cX5_obtain 5 = .ok (.iload_n 2, 1) := by decide +kernel
theorem dX5_obtain_6 : decode cX5_obtain 6 = .ok (.invokestatic 31, 3) := by decide +kernel
theorem dX5_obtain_9 : decode cX5_obtain 9 = .ok (.istore_n 3, 1) := by decide +kernel
theorem dX5_obtain_10 : decode cX5_obtain 10 = .ok (.aload_n 0, 1) := by decide +kernel
theorem dX5_obtain_11 : decode cX5_obtain 11 = .ok (.iload_n 3, 1) := by decide +kernel
theorem dX5_obtain_12 : decode cX5_obtain 12 = .ok (.iconst 5, 1) := by decide +kernel
theorem dX5_obtain_13 : decode cX5_obtain 13 = .ok (.iadd, 1) := by decide +kernel
theorem dX5_obtain_14 : decode cX5_obtain 14 = .ok (.invokevirtual 35, 3) := by decide +kernel
theorem dX5_obtain_17 : decode cX5_obtain 17 = .ok (.ifCond .eq 41, 3) := by decide +kernel
theorem dX5_obtain_20 : decode cX5_obtain 20 = .ok (.aload_n 0, 1) := by decide +kernel
theorem dX5_obtain_21 : decode cX5_obtain 21 = .ok (.iload_n 3, 1) := by decide +kernel
theorem dX5_obtain_22 : decode cX5_obtain 22 = .ok (.invokevirtual 74, 3) := by decide +kernel
theorem dX5_obtain_25 : decode cX5_obtain 25 = .ok (.aload_n 0, 1) := by decide +kernel
theorem dX5_obtain_26 : decode cX5_obtain 26 = .ok (.getfield 11, 3) := by decide +kernel
theorem dX5_obtain_29 : decode cX5_obtain 29 = .ok (.bipush 20, 2) := by decide +kernel
theorem dX5_obtain_31 : decode cX5_obtain 31 = .ok (.iload_n 2, 1) := by decide +kernel
theorem dX5_obtain_32 : decode cX5_obtain 32 = .ok (.iadd, 1) := by decide +kernel
theorem dX5_obtain_33 : decode cX5_obtain 33 = .ok (.dup2, 1) := by decide +kernel
theorem dX5_obtain_34 : decode cX5_obtain 34 = .ok (.iaload, 1) := by decide +kernel
theorem dX5_obtain_35 : decode cX5_obtain 35 = .ok (.iconst 1, 1) := by decide +kernel
theorem dX5_obtain_36 : decode cX5_obtain 36 = .ok (.iadd, 1) := by decide +kernel
theorem dX5_obtain_37 : decode cX5_obtain 37 = .ok (.iastore, 1) := by decide +kernel
theorem dX5_obtain_38 : decode cX5_obtain 38 = .ok (.aload_n 0, 1) := by decide +kernel
theorem dX5_obtain_39 : decode cX5_obtain 39 = .ok (.getfield 11, 3) := by decide +kernel
theorem dX5_obtain_42 : decode cX5_obtain 42 = .ok (.bipush 10, 2) := by decide +kernel
theorem dX5_obtain_44 : decode cX5_obtain 44 = .ok (.dup2, 1) := by decide +kernel
theorem dX5_obtain_45 : decode cX5_obtain 45 = .ok (.iaload, 1) := by decide +kernel
theorem dX5_obtain_46 : decode cX5_obtain 46 = .ok (.iconst 1, 1) := by decide +kernel
theorem dX5_obtain_47 : decode cX5_obtain 47 = .ok (.iadd, 1) := by decide +kernel
theorem dX5_obtain_48 : decode cX5_obtain 48 = .ok (.iastore, 1) := by decide +kernel
theorem dX5_obtain_49 : decode cX5_obtain 49 = .ok (.aload_n 0, 1) := by decide +kernel
theorem dX5_obtain_50 : decode cX5_obtain 50 = .ok (.getfield 11, 3) := by decide +kernel
theorem dX5_obtain_53 : decode cX5_obtain 53 = .ok (.iload_n 3, 1) := by decide +kernel
theorem dX5_obtain_54 : decode cX5_obtain 54 = .ok (.iconst 0, 1) := by decide +kernel
theorem dX5_obtain_55 : decode cX5_obtain 55 = .ok (.iadd, 1) := by decide +kernel
theorem dX5_obtain_56 : decode cX5_obtain 56 = .ok (.iaload, 1) := by decide +kernel
theorem dX5_obtain_57 : decode cX5_obtain 57 = .ok (.ireturn, 1) := by decide +kernel
theorem dX5_obtain_58 : decode cX5_obtain 58 = .ok (.aload_n 0, 1) := by decide +kernel
theorem dX5_obtain_59 : decode cX5_obtain 59 = .ok (.bipush 6, 2) := by decide +kernel
theorem dX5_obtain_61 : decode cX5_obtain 61 = .ok (.invokevirtual 78, 3) := by decide +kernel
theorem dX5_obtain_64 : decode cX5_obtain 64 = .ok (.iconst 1, 1) := by decide +kernel
theorem dX5_obtain_65 : decode cX5_obtain 65 = .ok (.if_icmp .ne 7, 3) := by decide +kernel
theorem dX5_obtain_68 : decode cX5_obtain 68 = .ok (.iconst 1, 1) := by decide +kernel
theorem dX5_obtain_69 : decode cX5_obtain 69 = .ok (.goto 4, 3) := by decide +kernel
theorem dX5_obtain_72 : decode cX5_obtain 72 = .ok (.iconst 0, 1) := by decide +kernel
theorem dX5_obtain_73 : decode cX5_obtain 73 = .ok (.istore 4, 2) := by decide +kernel
theorem dX5_obtain_75 : decode cX5_obtain 75 = .ok (.iload 4, 2) := by decide +kernel
theorem dX5_obtain_77 : decode cX5_obtain 77 = .ok (.ifCond .eq 38, 3) := by decide +kernel
theorem dX5_obtain_80 : decode cX5_obtain 80 = .ok (.aload_n 0, 1) := by decide +kernel
theorem dX5_obtain_81 : decode cX5_obtain 81 = .ok (.iload_n 3, 1) := by decide +kernel
theorem dX5_obtain_82 : decode cX5_obtain 82 = .ok (.bipush 10, 2) := by decide +kernel
theorem dX5_obtain_84 : decode cX5_obtain 84 = .ok (.iadd, 1) := by decide +kernel
theorem dX5_obtain_85 : decode cX5_obtain 85 = .ok (.invokevirtual 35, 3) := by decide +kernel
theorem dX5_obtain_88 : decode cX5_obtain 88 = .ok (.ifCond .eq 27, 3) := by decide +kernel
theorem dX5_obtain_91 : decode cX5_obtain 91 = .ok (.aload_n 0, 1) := by decide +kernel
theorem dX5_obtain_92 : decode cX5_obtain 92 = .ok (.getfield 11, 3) := by decide +kernel
theorem dX5_obtain_95 : decode cX5_obtain 95 = .ok (.iload_n 3, 1) := by decide +kernel
theorem dX5_obtain_96 : decode cX5_obtain 96 = .ok (.bipush 8, 2) := by decide +kernel
theorem dX5_obtain_98 : decode cX5_obtain 98 = .ok (.iadd, 1) := by decide +kernel
theorem dX5_obtain_99 : decode cX5_obtain 99 = .ok (.iaload, 1) := by decide +kernel
theorem dX5_obtain_100 : decode cX5_obtain 100 = .ok (.iload_n 1, 1) := by decide +kernel
theorem dX5_obtain_101 : decode cX5_obtain 101 = .ok (.if_icmp .ne 8, 3) := by decide +kernel
theorem dX5_obtain_104 : decode cX5_obtain 104 = .ok (.bipush (-6), 2) := by decide +kernel
theorem dX5_obtain_106 : decode cX5_obtain 106 = .ok (.goto 8, 3) := by decide +kernel
theorem dX5_obtain_109 : decode cX5_obtain 109 = .ok (.aload_n 0, 1) := by decide +kernel
theorem dX5_obtain_110 : decode cX5_obtain 110 = .ok (.iload_n 3, 1) := by decide +kernel
theorem dX5_obtain_111 : decode cX5_obtain 111 = .ok (.invokevirtual 81, 3) := by decide +kernel
theorem dX5_obtain_114 : decode cX5_obtain 114 = .ok (.ireturn, 1) := by decide +kernel
theorem dX5_obtain_115 : decode cX5_obtain 115 = .ok (.iload 4, 2) := by decide +kernel
theorem dX5_obtain_117 : decode cX5_obtain 117 = .ok (.ifCond .eq 12, 3) := by decide +kernel
theorem dX5_obtain_120 : decode cX5_obtain 120 = .ok (.aload_n 0, 1) := by decide +kernel
theorem dX5_obtain_121 : decode cX5_obtain 121 = .ok (.iload_n 3, 1) := by decide +kernel
theorem dX5_obtain_122 : decode cX5_obtain 122 = .ok (.iload_n 1, 1) := by decide +kernel
theorem dX5_obtain_123 : decode cX5_obtain 123 = .ok (.invokevirtual 84, 3) := by decide +kernel
theorem dX5_obtain_126 : decode cX5_obtain 126 = .ok (.goto 4, 3) := by decide +kernel
theorem dX5_obtain_129 : decode cX5_obtain 129 = .ok (.iconst 0, 1) := by decide +kernel
theorem dX5_obtain_130 : decode cX5_obtain 130 = .ok (.istore 5, 2) := by decide +kernel
theorem dX5_obtain_132 : decode cX5_obtain 132 = .ok (.aload_n 0, 1) := by decide +kernel
theorem dX5_obtain_133 : decode cX5_obtain 133 = .ok (.iload_n 1, 1) := by decide +kernel
theorem dX5_obtain_134 : decode cX5_obtain 134 = .ok (.iload_n 2, 1) := by decide +kernel
theorem dX5_obtain_135 : decode cX5_obtain 135 = .ok (.iload 5, 2) := by decide +kernel
theorem dX5_obtain_137 : decode cX5_obtain 137 = .ok (.invokevirtual 87, 3) := by decide +kernel
theorem dX5_obtain_140 : decode cX5_obtain 140 = .ok (.aload_n 0, 1) := by decide +kernel
theorem dX5_obtain_141 : decode cX5_obtain 141 = .ok (.getfield 11, 3) := by decide +kernel
theorem dX5_obtain_144 : decode cX5_obtain 144 = .ok (.bipush 11, 2) := by decide +kernel
theorem dX5_obtain_146 : decode cX5_obtain 146 = .ok (.dup2, 1) := by decide +kernel
theorem dX5_obtain_147 : decode cX5_obtain 147 = .ok (.iaload, 1) := by decide +kernel
theorem dX5_obtain_148 : decode cX5_obtain 148 = .ok (.iconst 1, 1) := by decide +kernel
theorem dX5_obtain_149 : decode cX5_obtain 149 = .ok (.iadd, 1) := by decide +kernel
theorem dX5_obtain_150 : decode cX5_obtain 150 = .ok (.iastore, 1) := by decide +kernel
theorem dX5_obtain_151 : decode cX5_obtain 151 = .ok (.bipush (-6), 2) := by decide +kernel
theorem dX5_obtain_153 : decode cX5_obtain 153 = .ok (.ireturn, 1) := by decide +kernel
theorem dX5_useEntry_0 : decode cX5_useEntry 0 = .ok (.aload_n 0, 1) := by decide +kernel
theorem dX5_useEntry_1 : decode cX5_useEntry 1 = .ok (.getfield 11, 3) := by decide +kernel
theorem dX5_useEntry_4 : decode cX5_useEntry 4 = .ok (.iload_n 1, 1) := by decide +kernel
theorem dX5_useEntry_5 : decode cX5_useEntry 5 = .ok (.iconst 3, 1) := by decide +kernel
theorem dX5_useEntry_6 : decode cX5_useEntry 6 = .ok (.iadd, 1) := by decide +kernel
theorem dX5_useEntry_7 : decode cX5_useEntry 7 = .ok (.aload_n 0, 1) := by decide +kernel
theorem dX5_useEntry_8 : decode cX5_useEntry 8 = .ok (.invokevirtual 91, 3) := by decide +kernel
theorem dX5_useEntry_11 : decode cX5_useEntry 11 = .ok (.iastore, 1) := by decide +kernel
theorem dX5_useEntry_12 : decode cX5_useEntry 12 = .ok (.aload_n 0, 1) := by decide +kernel
theorem dX5_useEntry_13 : decode cX5_useEntry 13 = .ok (.getfield 11, 3) := by decide +kernel
theorem dX5_useEntry_16 : decode cX5_useEntry 16 = .ok (.iload_n 1, 1) := by decide +kernel
theorem dX5_useEntry_17 : decode cX5_useEntry 17 = .ok (.iconst 4, 1) := by decide +kernel
theorem dX5_useEntry_18 : decode cX5_useEntry 18 = .ok (.iadd, 1) := by decide +kernel
theorem dX5_useEntry_19 : decode cX5_useEntry 19 = .ok (.dup2, 1) := by decide +kernel
theorem dX5_useEntry_20 : decode cX5_useEntry 20 = .ok (.iaload, 1) := by decide +kernel
theorem dX5_useEntry_21 : decode cX5_useEntry 21 = .ok (.iconst 1, 1) := by decide +kernel
theorem dX5_useEntry_22 : decode cX5_useEntry 22 = .ok (.iadd, 1) := by decide +kernel
theorem dX5_useEntry_23 : decode cX5_useEntry 23 = .ok (.iastore, 1) := by decide +kernel
theorem dX5_useEntry_24 : decode cX5_useEntry 24 = .ok (.return_, 1) := by decide +kernel
theorem dX5_answerBesideLease_0 : decode cX5_answerBesideLease 0 = .ok (.aload_n 0, 1) := by decide +kernel
theorem dX5_answerBesideLease_1 : decode cX5_answerBesideLease 1 = .ok (.iload_n 1, 1) := by decide +kernel
theorem dX5_answerBesideLease_2 : decode cX5_answerBesideLease 2 = .ok (.bipush 7, 2) := by decide +kernel
theorem dX5_answerBesideLease_4 : decode cX5_answerBesideLease 4 = .ok (.iadd, 1) := by decide +kernel
theorem dX5_answerBesideLease_5 : decode cX5_answerBesideLease 5 = .ok (.invokevirtual 35, 3) := by decide +kernel
theorem dX5_answerBesideLease_8 : decode cX5_answerBesideLease 8 = .ok (.ifCond .eq 28, 3) := by decide +kernel
theorem dX5_answerBesideLease_11 : decode cX5_answerBesideLease 11 = .ok (.aload_n 0, 1) := by decide +kernel
theorem dX5_answerBesideLease_12 : decode cX5_answerBesideLease 12 = .ok (.getfield 11, 3) := by decide +kernel
theorem dX5_answerBesideLease_15 : decode cX5_answerBesideLease 15 = .ok (.bipush 13, 2) := by decide +kernel
theorem dX5_answerBesideLease_17 : decode cX5_answerBesideLease 17 = .ok (.dup2, 1) := by decide +kernel
theorem dX5_answerBesideLease_18 : decode cX5_answerBesideLease 18 = .ok (.iaload, 1) := by decide +kernel
theorem dX5_answerBesideLease_19 : decode cX5_answerBesideLease 19 = .ok (.iconst 1, 1) := by decide +kernel
theorem dX5_answerBesideLease_20 : decode cX5_answerBesideLease 20 = .ok (.iadd, 1) := by decide +kernel
theorem dX5_answerBesideLease_21 : decode cX5_answerBesideLease 21 = .ok (.iastore, 1) := by decide +kernel
theorem dX5_answerBesideLease_22 : decode cX5_answerBesideLease 22 = .ok (.sipush 1000, 3) := by decide +kernel
theorem dX5_answerBesideLease_25 : decode cX5_answerBesideLease 25 = .ok (.aload_n 0, 1) := by decide +kernel
theorem dX5_answerBesideLease_26 : decode cX5_answerBesideLease 26 = .ok (.getfield 11, 3) := by decide +kernel
theorem dX5_answerBesideLease_29 : decode cX5_answerBesideLease 29 = .ok (.iload_n 1, 1) := by decide +kernel
theorem dX5_answerBesideLease_30 : decode cX5_answerBesideLease 30 = .ok (.bipush 6, 2) := by decide +kernel
theorem dX5_answerBesideLease_32 : decode cX5_answerBesideLease 32 = .ok (.iadd, 1) := by decide +kernel
theorem dX5_answerBesideLease_33 : decode cX5_answerBesideLease 33 = .ok (.iaload, 1) := by decide +kernel
theorem dX5_answerBesideLease_34 : decode cX5_answerBesideLease 34 = .ok (.iadd, 1) := by decide +kernel
theorem dX5_answerBesideLease_35 : decode cX5_answerBesideLease 35 = .ok (.ireturn, 1) := by decide +kernel
theorem dX5_answerBesideLease_36 : decode cX5_answerBesideLease 36 = .ok (.aload_n 0, 1) := by decide +kernel
theorem dX5_answerBesideLease_37 : decode cX5_answerBesideLease 37 = .ok (.getfield 11, 3) := by decide +kernel
theorem dX5_answerBesideLease_40 : decode cX5_answerBesideLease 40 = .ok (.bipush 12, 2) := by decide +kernel
theorem dX5_answerBesideLease_42 : decode cX5_answerBesideLease 42 = .ok (.dup2, 1) := by decide +kernel
theorem dX5_answerBesideLease_43 : decode cX5_answerBesideLease 43 = .ok (.iaload, 1) := by decide +kernel
theorem dX5_answerBesideLease_44 : decode cX5_answerBesideLease 44 = .ok (.iconst 1, 1) := by decide +kernel
theorem dX5_answerBesideLease_45 : decode cX5_answerBesideLease 45 = .ok (.iadd, 1) := by decide +kernel
theorem dX5_answerBesideLease_46 : decode cX5_answerBesideLease 46 = .ok (.iastore, 1) := by decide +kernel
theorem dX5_answerBesideLease_47 : decode cX5_answerBesideLease 47 = .ok (.bipush (-4), 2) := by decide +kernel
theorem dX5_answerBesideLease_49 : decode cX5_answerBesideLease 49 = .ok (.ireturn, 1) := by decide +kernel
theorem dX5_giveLease_0 : decode cX5_giveLease 0 = .ok (.aload_n 0, 1) := by decide +kernel
theorem dX5_giveLease_1 : decode cX5_giveLease 1 = .ok (.getfield 11, 3) := by decide +kernel
theorem dX5_giveLease_4 : decode cX5_giveLease 4 = .ok (.iconst 2, 1) := by decide +kernel
theorem dX5_giveLease_5 : decode cX5_giveLease 5 = .ok (.dup2, 1) := by decide +kernel
theorem dX5_giveLease_6 : decode cX5_giveLease 6 = .ok (.iaload, 1) := by decide +kernel
theorem dX5_giveLease_7 : decode cX5_giveLease 7 = .ok (.iconst 1, 1) := by decide +kernel
theorem dX5_giveLease_8 : decode cX5_giveLease 8 = .ok (.iadd, 1) := by decide +kernel
theorem dX5_giveLease_9 : decode cX5_giveLease 9 = .ok (.iastore, 1) := by decide +kernel
theorem dX5_giveLease_10 : decode cX5_giveLease 10 = .ok (.aload_n 0, 1) := by decide +kernel
theorem dX5_giveLease_11 : decode cX5_giveLease 11 = .ok (.getfield 11, 3) := by decide +kernel
theorem dX5_giveLease_14 : decode cX5_giveLease 14 = .ok (.iload_n 1, 1) := by decide +kernel
theorem dX5_giveLease_15 : decode cX5_giveLease 15 = .ok (.bipush 8, 2) := by decide +kernel
theorem dX5_giveLease_17 : decode cX5_giveLease 17 = .ok (.iadd, 1) := by decide +kernel
theorem dX5_giveLease_18 : decode cX5_giveLease 18 = .ok (.iload_n 2, 1) := by decide +kernel
theorem dX5_giveLease_19 : decode cX5_giveLease 19 = .ok (.iastore, 1) := by decide +kernel
theorem dX5_giveLease_20 : decode cX5_giveLease 20 = .ok (.aload_n 0, 1) := by decide +kernel
theorem dX5_giveLease_21 : decode cX5_giveLease 21 = .ok (.getfield 11, 3) := by decide +kernel
theorem dX5_giveLease_24 : decode cX5_giveLease 24 = .ok (.iload_n 1, 1) := by decide +kernel
theorem dX5_giveLease_25 : decode cX5_giveLease 25 = .ok (.bipush 9, 2) := by decide +kernel
theorem dX5_giveLease_27 : decode cX5_giveLease 27 = .ok (.iadd, 1) := by decide +kernel
theorem dX5_giveLease_28 : decode cX5_giveLease 28 = .ok (.aload_n 0, 1) := by decide +kernel
theorem dX5_giveLease_29 : decode cX5_giveLease 29 = .ok (.getfield 11, 3) := by decide +kernel
theorem dX5_giveLease_32 : decode cX5_giveLease 32 = .ok (.iconst 2, 1) := by decide +kernel
theorem dX5_giveLease_33 : decode cX5_giveLease 33 = .ok (.iaload, 1) := by decide +kernel
theorem dX5_giveLease_34 : decode cX5_giveLease 34 = .ok (.iastore, 1) := by decide +kernel
theorem dX5_giveLease_35 : decode cX5_giveLease 35 = .ok (.aload_n 0, 1) := by decide +kernel
theorem dX5_giveLease_36 : decode cX5_giveLease 36 = .ok (.getfield 11, 3) := by decide +kernel
theorem dX5_giveLease_39 : decode cX5_giveLease 39 = .ok (.iload_n 1, 1) := by decide +kernel
theorem dX5_giveLease_40 : decode cX5_giveLease 40 = .ok (.bipush 10, 2) := by decide +kernel
theorem dX5_giveLease_42 : decode cX5_giveLease 42 = .ok (.iadd, 1) := by decide +kernel
theorem dX5_giveLease_43 : decode cX5_giveLease 43 = .ok (.aload_n 0, 1) := by decide +kernel
theorem dX5_giveLease_44 : decode cX5_giveLease 44 = .ok (.invokevirtual 91, 3) := by decide +kernel
theorem dX5_giveLease_47 : decode cX5_giveLease 47 = .ok (.aload_n 0, 1) := by decide +kernel
theorem dX5_giveLease_48 : decode cX5_giveLease 48 = .ok (.iconst 3, 1) := by decide +kernel
theorem dX5_giveLease_49 : decode cX5_giveLease 49 = .ok (.invokevirtual 78, 3) := by decide +kernel
theorem dX5_giveLease_52 : decode cX5_giveLease 52 = .ok (.iadd, 1) := by decide +kernel
theorem dX5_giveLease_53 : decode cX5_giveLease 53 = .ok (.iastore, 1) := by decide +kernel
theorem dX5_giveLease_54 : decode cX5_giveLease 54 = .ok (.aload_n 0, 1) := by decide +kernel
theorem dX5_giveLease_55 : decode cX5_giveLease 55 = .ok (.getfield 11, 3) := by decide +kernel
theorem dX5_giveLease_58 : decode cX5_giveLease 58 = .ok (.iconst 2, 1) := by decide +kernel
theorem dX5_giveLease_59 : decode cX5_giveLease 59 = .ok (.iaload, 1) := by decide +kernel
theorem dX5_giveLease_60 : decode cX5_giveLease 60 = .ok (.ireturn, 1) := by decide +kernel
theorem dX5_takeHand_0 : decode cX5_takeHand 0 = .ok (.iload_n 1, 1) := by decide +kernel
theorem dX5_takeHand_1 : decode cX5_takeHand 1 = .ok (.invokestatic 24, 3) := by decide +kernel
theorem dX5_takeHand_4 : decode cX5_takeHand 4 = .ok (.istore 4, 2) := by decide +kernel
theorem dX5_takeHand_6 : decode cX5_takeHand 6 = .ok (.aload_n 0, 1) := by decide +kernel
theorem dX5_takeHand_7 : decode cX5_takeHand 7 = .ok (.getfield 11, 3) := by decide +kernel
theorem dX5_takeHand_10 : decode cX5_takeHand 10 = .ok (.iload 4, 2) := by decide +kernel
theorem dX5_takeHand_12 : decode cX5_takeHand 12 = .ok (.bipush 7, 2) := by decide +kernel
theorem dX5_takeHand_14 : decode cX5_takeHand 14 = .ok (.iadd, 1) := by decide +kernel
theorem dX5_takeHand_15 : decode cX5_takeHand 15 = .ok (.iconst 1, 1) := by decide +kernel
theorem dX5_takeHand_16 : decode cX5_takeHand 16 = .ok (.iastore, 1) := by decide +kernel
theorem dX5_takeHand_17 : decode cX5_takeHand 17 = .ok (.aload_n 0, 1) := by decide +kernel
theorem dX5_takeHand_18 : decode cX5_takeHand 18 = .ok (.getfield 11, 3) := by decide +kernel
theorem dX5_takeHand_21 : decode cX5_takeHand 21 = .ok (.iload 4, 2) := by decide +kernel
theorem dX5_takeHand_23 : decode cX5_takeHand 23 = .ok (.iconst 1, 1) := by decide +kernel
theorem dX5_takeHand_24 : decode cX5_takeHand 24 = .ok (.iadd, 1) := by decide +kernel
theorem dX5_takeHand_25 : decode cX5_takeHand 25 = .ok (.iload_n 2, 1) := by decide +kernel
theorem dX5_takeHand_26 : decode cX5_takeHand 26 = .ok (.iastore, 1) := by decide +kernel
theorem dX5_takeHand_27 : decode cX5_takeHand 27 = .ok (.aload_n 0, 1) := by decide +kernel
theorem dX5_takeHand_28 : decode cX5_takeHand 28 = .ok (.getfield 11, 3) := by decide +kernel
theorem dX5_takeHand_31 : decode cX5_takeHand 31 = .ok (.iload 4, 2) := by decide +kernel
theorem dX5_takeHand_33 : decode cX5_takeHand 33 = .ok (.iconst 2, 1) := by decide +kernel
theorem dX5_takeHand_34 : decode cX5_takeHand 34 = .ok (.iadd, 1) := by decide +kernel
theorem dX5_takeHand_35 : decode cX5_takeHand 35 = .ok (.iload_n 3, 1) := by decide +kernel
theorem dX5_takeHand_36 : decode cX5_takeHand 36 = .ok (.iastore, 1) := by decide +kernel
theorem dX5_takeHand_37 : decode cX5_takeHand 37 = .ok (.aload_n 0, 1) := by decide +kernel
theorem dX5_takeHand_38 : decode cX5_takeHand 38 = .ok (.getfield 11, 3) := by decide +kernel
theorem dX5_takeHand_41 : decode cX5_takeHand 41 = .ok (.iload 4, 2) := by decide +kernel
theorem dX5_takeHand_43 : decode cX5_takeHand 43 = .ok (.iconst 3, 1) := by decide +kernel
theorem dX5_takeHand_44 : decode cX5_takeHand 44 = .ok (.iadd, 1) := by decide +kernel
theorem dX5_takeHand_45 : decode cX5_takeHand 45 = .ok (.iconst 0, 1) := by decide +kernel
theorem dX5_takeHand_46 : decode cX5_takeHand 46 = .ok (.iastore, 1) := by decide +kernel
theorem dX5_takeHand_47 : decode cX5_takeHand 47 = .ok (.return_, 1) := by decide +kernel
theorem dX5_endHand_0 : decode cX5_endHand 0 = .ok (.iload_n 1, 1) := by decide +kernel
theorem dX5_endHand_1 : decode cX5_endHand 1 = .ok (.invokestatic 24, 3) := by decide +kernel
theorem dX5_endHand_4 : decode cX5_endHand 4 = .ok (.istore_n 2, 1) := by decide +kernel
theorem dX5_endHand_5 : decode cX5_endHand 5 = .ok (.aload_n 0, 1) := by decide +kernel
theorem dX5_endHand_6 : decode cX5_endHand 6 = .ok (.getfield 11, 3) := by decide +kernel
theorem dX5_endHand_9 : decode cX5_endHand 9 = .ok (.iload_n 2, 1) := by decide +kernel
theorem dX5_endHand_10 : decode cX5_endHand 10 = .ok (.bipush 7, 2) := by decide +kernel
theorem dX5_endHand_12 : decode cX5_endHand 12 = .ok (.iadd, 1) := by decide +kernel
theorem dX5_endHand_13 : decode cX5_endHand 13 = .ok (.iconst 0, 1) := by decide +kernel
theorem dX5_endHand_14 : decode cX5_endHand 14 = .ok (.iastore, 1) := by decide +kernel
theorem dX5_endHand_15 : decode cX5_endHand 15 = .ok (.aload_n 0, 1) := by decide +kernel
theorem dX5_endHand_16 : decode cX5_endHand 16 = .ok (.getfield 11, 3) := by decide +kernel
theorem dX5_endHand_19 : decode cX5_endHand 19 = .ok (.iload_n 2, 1) := by decide +kernel
theorem dX5_endHand_20 : decode cX5_endHand 20 = .ok (.iconst 3, 1) := by decide +kernel
theorem dX5_endHand_21 : decode cX5_endHand 21 = .ok (.iadd, 1) := by decide +kernel
theorem dX5_endHand_22 : decode cX5_endHand 22 = .ok (.iconst 0, 1) := by decide +kernel
theorem dX5_endHand_23 : decode cX5_endHand 23 = .ok (.iastore, 1) := by decide +kernel
theorem dX5_endHand_24 : decode cX5_endHand 24 = .ok (.return_, 1) := by decide +kernel
theorem dX5_lookUp_0 : decode cX5_lookUp 0 = .ok (.iload_n 1, 1) := by decide +kernel
theorem dX5_lookUp_1 : decode cX5_lookUp 1 = .ok (.invokestatic 24, 3) := by decide +kernel
theorem dX5_lookUp_4 : decode cX5_lookUp 4 = .ok (.istore_n 2, 1) := by decide +kernel
theorem dX5_lookUp_5 : decode cX5_lookUp 5 = .ok (.aload_n 0, 1) := by decide +kernel
theorem dX5_lookUp_6 : decode cX5_lookUp 6 = .ok (.getfield 11, 3) := by decide +kernel
theorem dX5_lookUp_9 : decode cX5_lookUp 9 = .ok (.iload_n 2, 1) := by decide +kernel
theorem dX5_lookUp_10 : decode cX5_lookUp 10 = .ok (.bipush 7, 2) := by decide +kernel
theorem dX5_lookUp_12 : decode cX5_lookUp 12 = .ok (.iadd, 1) := by decide +kernel
theorem dX5_lookUp_13 : decode cX5_lookUp 13 = .ok (.iaload, 1) := by decide +kernel
theorem dX5_lookUp_14 : decode cX5_lookUp 14 = .ok (.ifCond .ne 6, 3) := by decide +kernel
theorem dX5_lookUp_17 : decode cX5_lookUp 17 = .ok (.bipush (-5), 2) := by decide +kernel
theorem dX5_lookUp_19 : decode cX5_lookUp 19 = .ok (.ireturn, 1) := by decide +kernel
theorem dX5_lookUp_20 : decode cX5_lookUp 20 = .ok (.aload_n 0, 1) := by decide +kernel
theorem dX5_lookUp_21 : decode cX5_lookUp 21 = .ok (.getfield 11, 3) := by decide +kernel
theorem dX5_lookUp_24 : decode cX5_lookUp 24 = .ok (.iload_n 2, 1) := by decide +kernel
theorem dX5_lookUp_25 : decode cX5_lookUp 25 = .ok (.iconst 0, 1) := by decide +kernel
theorem dX5_lookUp_26 : decode cX5_lookUp 26 = .ok (.iadd, 1) := by decide +kernel
theorem dX5_lookUp_27 : decode cX5_lookUp 27 = .ok (.iaload, 1) := by decide +kernel
theorem dX5_lookUp_28 : decode cX5_lookUp 28 = .ok (.istore_n 3, 1) := by decide +kernel
theorem dX5_lookUp_29 : decode cX5_lookUp 29 = .ok (.aload_n 0, 1) := by decide +kernel
theorem dX5_lookUp_30 : decode cX5_lookUp 30 = .ok (.getfield 11, 3) := by decide +kernel
theorem dX5_lookUp_33 : decode cX5_lookUp 33 = .ok (.iload_n 2, 1) := by decide +kernel
theorem dX5_lookUp_34 : decode cX5_lookUp 34 = .ok (.iconst 1, 1) := by decide +kernel
theorem dX5_lookUp_35 : decode cX5_lookUp 35 = .ok (.iadd, 1) := by decide +kernel
theorem dX5_lookUp_36 : decode cX5_lookUp 36 = .ok (.iaload, 1) := by decide +kernel
theorem dX5_lookUp_37 : decode cX5_lookUp 37 = .ok (.istore 4, 2) := by decide +kernel
theorem dX5_lookUp_39 : decode cX5_lookUp 39 = .ok (.aload_n 0, 1) := by decide +kernel
theorem dX5_lookUp_40 : decode cX5_lookUp 40 = .ok (.iload_n 3, 1) := by decide +kernel
theorem dX5_lookUp_41 : decode cX5_lookUp 41 = .ok (.invokevirtual 94, 3) := by decide +kernel
theorem dX5_lookUp_44 : decode cX5_lookUp 44 = .ok (.ifCond .eq 61, 3) := by decide +kernel
theorem dX5_lookUp_47 : decode cX5_lookUp 47 = .ok (.aload_n 0, 1) := by decide +kernel
theorem dX5_lookUp_48 : decode cX5_lookUp 48 = .ok (.iload_n 3, 1) := by decide +kernel
theorem dX5_lookUp_49 : decode cX5_lookUp 49 = .ok (.iconst 1, 1) := by decide +kernel
theorem dX5_lookUp_50 : decode cX5_lookUp 50 = .ok (.ixor, 1) := by decide +kernel
theorem dX5_lookUp_51 : decode cX5_lookUp 51 = .ok (.iload 4, 2) := by decide +kernel
theorem dX5_lookUp_53 : decode cX5_lookUp 53 = .ok (.invokevirtual 97, 3) := by decide +kernel
theorem dX5_lookUp_56 : decode cX5_lookUp 56 = .ok (.ifCond .eq 49, 3) := by decide +kernel
theorem dX5_lookUp_59 : decode cX5_lookUp 59 = .ok (.aload_n 0, 1) := by decide +kernel
theorem dX5_lookUp_60 : decode cX5_lookUp 60 = .ok (.getfield 11, 3) := by decide +kernel
theorem dX5_lookUp_63 : decode cX5_lookUp 63 = .ok (.bipush 16, 2) := by decide +kernel
theorem dX5_lookUp_65 : decode cX5_lookUp 65 = .ok (.dup2, 1) := by decide +kernel
theorem dX5_lookUp_66 : decode cX5_lookUp 66 = .ok (.iaload, 1) := by decide +kernel
theorem dX5_lookUp_67 : decode cX5_lookUp 67 = .ok (.iconst 1, 1) := by decide +kernel
theorem dX5_lookUp_68 : decode cX5_lookUp 68 = .ok (.iadd, 1) := by decide +kernel
theorem dX5_lookUp_69 : decode cX5_lookUp 69 = .ok (.iastore, 1) := by decide +kernel
theorem dX5_lookUp_70 : decode cX5_lookUp 70 = .ok (.iload_n 3, 1) := by decide +kernel
theorem dX5_lookUp_71 : decode cX5_lookUp 71 = .ok (.iconst 1, 1) := by decide +kernel
theorem dX5_lookUp_72 : decode cX5_lookUp 72 = .ok (.ixor, 1) := by decide +kernel
theorem dX5_lookUp_73 : decode cX5_lookUp 73 = .ok (.iload 4, 2) := by decide +kernel
theorem dX5_lookUp_75 : decode cX5_lookUp 75 = .ok (.invokestatic 31, 3) := by decide +kernel
theorem dX5_lookUp_78 : decode cX5_lookUp 78 = .ok (.istore 5, 2) := by decide +kernel
theorem dX5_lookUp_80 : decode cX5_lookUp 80 = .ok (.aload_n 0, 1) := by decide +kernel
theorem dX5_lookUp_81 : decode cX5_lookUp 81 = .ok (.iload_n 2, 1) := by decide +kernel
theorem dX5_lookUp_82 : decode cX5_lookUp 82 = .ok (.aload_n 0, 1) := by decide +kernel
theorem dX5_lookUp_83 : decode cX5_lookUp 83 = .ok (.getfield 11, 3) := by decide +kernel
theorem dX5_lookUp_86 : decode cX5_lookUp 86 = .ok (.iload 5, 2) := by decide +kernel
theorem dX5_lookUp_88 : decode cX5_lookUp 88 = .ok (.iconst 0, 1) := by decide +kernel
theorem dX5_lookUp_89 : decode cX5_lookUp 89 = .ok (.iadd, 1) := by decide +kernel
theorem dX5_lookUp_90 : decode cX5_lookUp 90 = .ok (.iaload, 1) := by decide +kernel
theorem dX5_lookUp_91 : decode cX5_lookUp 91 = .ok (.aload_n 0, 1) := by decide +kernel
theorem dX5_lookUp_92 : decode cX5_lookUp 92 = .ok (.getfield 11, 3) := by decide +kernel
theorem dX5_lookUp_95 : decode cX5_lookUp 95 = .ok (.iload 5, 2) := by decide +kernel
theorem dX5_lookUp_97 : decode cX5_lookUp 97 = .ok (.iconst 1, 1) := by decide +kernel
theorem dX5_lookUp_98 : decode cX5_lookUp 98 = .ok (.iadd, 1) := by decide +kernel
theorem dX5_lookUp_99 : decode cX5_lookUp 99 = .ok (.iaload, 1) := by decide +kernel
theorem dX5_lookUp_100 : decode cX5_lookUp 100 = .ok (.iconst 1, 1) := by decide +kernel
theorem dX5_lookUp_101 : decode cX5_lookUp 101 = .ok (.invokevirtual 101, 3) := by decide +kernel
theorem dX5_lookUp_104 : decode cX5_lookUp 104 = .ok (.ireturn, 1) := by decide +kernel
theorem dX5_lookUp_105 : decode cX5_lookUp 105 = .ok (.aload_n 0, 1) := by decide +kernel
theorem dX5_lookUp_106 : decode cX5_lookUp 106 = .ok (.iload_n 3, 1) := by decide +kernel
theorem dX5_lookUp_107 : decode cX5_lookUp 107 = .ok (.iconst 2, 1) := by decide +kernel
theorem dX5_lookUp_108 : decode cX5_lookUp 108 = .ok (.idiv, 1) := by decide +kernel
theorem dX5_lookUp_109 : decode cX5_lookUp 109 = .ok (.iload 4, 2) := by decide +kernel
theorem dX5_lookUp_111 : decode cX5_lookUp 111 = .ok (.invokevirtual 105, 3) := by decide +kernel
theorem dX5_lookUp_114 : decode cX5_lookUp 114 = .ok (.ifCond .le 7, 3) := by decide +kernel
theorem dX5_lookUp_117 : decode cX5_lookUp 117 = .ok (.iconst 0, 1) := by decide +kernel
theorem dX5_lookUp_118 : decode cX5_lookUp 118 = .ok (.goto 6, 3) := by decide +kernel
theorem dX5_lookUp_121 : decode cX5_lookUp 121 = .ok (.iload_n 3, 1) := by decide +kernel
theorem dX5_lookUp_122 : decode cX5_lookUp 122 = .ok (.iconst 2, 1) := by decide +kernel
theorem dX5_lookUp_123 : decode cX5_lookUp 123 = .ok (.idiv, 1) := by decide +kernel
theorem dX5_lookUp_124 : decode cX5_lookUp 124 = .ok (.istore 5, 2) := by decide +kernel
theorem dX5_lookUp_126 : decode cX5_lookUp 126 = .ok (.aload_n 0, 1) := by decide +kernel
theorem dX5_lookUp_127 : decode cX5_lookUp 127 = .ok (.getfield 11, 3) := by decide +kernel
theorem dX5_lookUp_130 : decode cX5_lookUp 130 = .ok (.bipush 33, 2) := by decide +kernel
theorem dX5_lookUp_132 : decode cX5_lookUp 132 = .ok (.iload 5, 2) := by decide +kernel
theorem dX5_lookUp_134 : decode cX5_lookUp 134 = .ok (.iadd, 1) := by decide +kernel
theorem dX5_lookUp_135 : decode cX5_lookUp 135 = .ok (.dup2, 1) := by decide +kernel
theorem dX5_lookUp_136 : decode cX5_lookUp 136 = .ok (.iaload, 1) := by decide +kernel
theorem dX5_lookUp_137 : decode cX5_lookUp 137 = .ok (.iconst 1, 1) := by decide +kernel
theorem dX5_lookUp_138 : decode cX5_lookUp 138 = .ok (.iadd, 1) := by decide +kernel
theorem dX5_lookUp_139 : decode cX5_lookUp 139 = .ok (.iastore, 1) := by decide +kernel
theorem dX5_lookUp_140 : decode cX5_lookUp 140 = .ok (.aload_n 0, 1) := by decide +kernel
theorem dX5_lookUp_141 : decode cX5_lookUp 141 = .ok (.iload 5, 2) := by decide +kernel
theorem dX5_lookUp_143 : decode cX5_lookUp 143 = .ok (.iload 4, 2) := by decide +kernel
theorem dX5_lookUp_145 : decode cX5_lookUp 145 = .ok (.invokevirtual 108, 3) := by decide +kernel
theorem dX5_lookUp_148 : decode cX5_lookUp 148 = .ok (.istore 6, 2) := by decide +kernel
theorem dX5_lookUp_150 : decode cX5_lookUp 150 = .ok (.aload_n 0, 1) := by decide +kernel
theorem dX5_lookUp_151 : decode cX5_lookUp 151 = .ok (.iload_n 2, 1) := by decide +kernel
theorem dX5_lookUp_152 : decode cX5_lookUp 152 = .ok (.aload_n 0, 1) := by decide +kernel
theorem dX5_lookUp_153 : decode cX5_lookUp 153 = .ok (.iload 6, 2) := by decide +kernel
theorem dX5_lookUp_155 : decode cX5_lookUp 155 = .ok (.invokevirtual 111, 3) := by decide +kernel
theorem dX5_lookUp_158 : decode cX5_lookUp 158 = .ok (.iload 6, 2) := by decide +kernel
theorem dX5_lookUp_160 : decode cX5_lookUp 160 = .ok (.iconst 0, 1) := by decide +kernel
theorem dX5_lookUp_161 : decode cX5_lookUp 161 = .ok (.invokevirtual 101, 3) := by decide +kernel
theorem dX5_lookUp_164 : decode cX5_lookUp 164 = .ok (.ireturn, 1) := by decide +kernel
theorem dX5_isWarmBeside_0 : decode cX5_isWarmBeside 0 = .ok (.aload_n 0, 1) := by decide +kernel
theorem dX5_isWarmBeside_1 : decode cX5_isWarmBeside 1 = .ok (.getfield 11, 3) := by decide +kernel
theorem dX5_isWarmBeside_4 : decode cX5_isWarmBeside 4 = .ok (.bipush 36, 2) := by decide +kernel
theorem dX5_isWarmBeside_6 : decode cX5_isWarmBeside 6 = .ok (.iload_n 1, 1) := by decide +kernel
theorem dX5_isWarmBeside_7 : decode cX5_isWarmBeside 7 = .ok (.iadd, 1) := by decide +kernel
theorem dX5_isWarmBeside_8 : decode cX5_isWarmBeside 8 = .ok (.iaload, 1) := by decide +kernel
theorem dX5_isWarmBeside_9 : decode cX5_isWarmBeside 9 = .ok (.iconst 1, 1) := by decide +kernel
theorem dX5_isWarmBeside_10 : decode cX5_isWarmBeside 10 = .ok (.if_icmp .ne 21, 3) := by decide +kernel
theorem dX5_isWarmBeside_13 : decode cX5_isWarmBeside 13 = .ok (.aload_n 0, 1) := by decide +kernel
theorem dX5_isWarmBeside_14 : decode cX5_isWarmBeside 14 = .ok (.getfield 11, 3) := by decide +kernel
theorem dX5_isWarmBeside_17 : decode cX5_isWarmBeside 17 = .ok (.bipush 36, 2) := by decide +kernel
theorem dX5_isWarmBeside_19 : decode cX5_isWarmBeside 19 = .ok (.iload_n 1, 1) := by decide +kernel
theorem dX5_isWarmBeside_20 : decode cX5_isWarmBeside 20 = .ok (.iconst 1, 1) := by decide +kernel
theorem dX5_isWarmBeside_21 : decode cX5_isWarmBeside 21 = .ok (.ixor, 1) := by decide +kernel
theorem dX5_isWarmBeside_22 : decode cX5_isWarmBeside 22 = .ok (.iadd, 1) := by decide +kernel
theorem dX5_isWarmBeside_23 : decode cX5_isWarmBeside 23 = .ok (.iaload, 1) := by decide +kernel
theorem dX5_isWarmBeside_24 : decode cX5_isWarmBeside 24 = .ok (.ifCond .ne 7, 3) := by decide +kernel
theorem dX5_isWarmBeside_27 : decode cX5_isWarmBeside 27 = .ok (.iconst 1, 1) := by decide +kernel
theorem dX5_isWarmBeside_28 : decode cX5_isWarmBeside 28 = .ok (.goto 4, 3) := by decide +kernel
theorem dX5_isWarmBeside_31 : decode cX5_isWarmBeside 31 = .ok (.iconst 0, 1) := by decide +kernel
theorem dX5_isWarmBeside_32 : decode cX5_isWarmBeside 32 = .ok (.ireturn, 1) := by decide +kernel
theorem dX5_keepInHand_0 : decode cX5_keepInHand 0 = .ok (.aload_n 0, 1) := by decide +kernel
theorem dX5_keepInHand_1 : decode cX5_keepInHand 1 = .ok (.getfield 11, 3) := by decide +kernel
theorem dX5_keepInHand_4 : decode cX5_keepInHand 4 = .ok (.iload_n 1, 1) := by decide +kernel
theorem dX5_keepInHand_5 : decode cX5_keepInHand 5 = .ok (.iconst 3, 1) := by decide +kernel
theorem dX5_keepInHand_6 : decode cX5_keepInHand 6 = .ok (.iadd, 1) := by decide +kernel
theorem dX5_keepInHand_7 : decode cX5_keepInHand 7 = .ok (.iconst 1, 1) := by decide +kernel
theorem dX5_keepInHand_8 : decode cX5_keepInHand 8 = .ok (.iastore, 1) := by decide +kernel
theorem dX5_keepInHand_9 : decode cX5_keepInHand 9 = .ok (.aload_n 0, 1) := by decide +kernel
theorem dX5_keepInHand_10 : decode cX5_keepInHand 10 = .ok (.getfield 11, 3) := by decide +kernel
theorem dX5_keepInHand_13 : decode cX5_keepInHand 13 = .ok (.iload_n 1, 1) := by decide +kernel
theorem dX5_keepInHand_14 : decode cX5_keepInHand 14 = .ok (.iconst 4, 1) := by decide +kernel
theorem dX5_keepInHand_15 : decode cX5_keepInHand 15 = .ok (.iadd, 1) := by decide +kernel
theorem dX5_keepInHand_16 : decode cX5_keepInHand 16 = .ok (.iload_n 2, 1) := by decide +kernel
theorem dX5_keepInHand_17 : decode cX5_keepInHand 17 = .ok (.iastore, 1) := by decide +kernel
theorem dX5_keepInHand_18 : decode cX5_keepInHand 18 = .ok (.aload_n 0, 1) := by decide +kernel
theorem dX5_keepInHand_19 : decode cX5_keepInHand 19 = .ok (.getfield 11, 3) := by decide +kernel
theorem dX5_keepInHand_22 : decode cX5_keepInHand 22 = .ok (.iload_n 1, 1) := by decide +kernel
theorem dX5_keepInHand_23 : decode cX5_keepInHand 23 = .ok (.iconst 5, 1) := by decide +kernel
theorem dX5_keepInHand_24 : decode cX5_keepInHand 24 = .ok (.iadd, 1) := by decide +kernel
theorem dX5_keepInHand_25 : decode cX5_keepInHand 25 = .ok (.iload_n 3, 1) := by decide +kernel
theorem dX5_keepInHand_26 : decode cX5_keepInHand 26 = .ok (.iastore, 1) := by decide +kernel
theorem dX5_keepInHand_27 : decode cX5_keepInHand 27 = .ok (.aload_n 0, 1) := by decide +kernel
theorem dX5_keepInHand_28 : decode cX5_keepInHand 28 = .ok (.getfield 11, 3) := by decide +kernel
theorem dX5_keepInHand_31 : decode cX5_keepInHand 31 = .ok (.iload_n 1, 1) := by decide +kernel
theorem dX5_keepInHand_32 : decode cX5_keepInHand 32 = .ok (.bipush 6, 2) := by decide +kernel
theorem dX5_keepInHand_34 : decode cX5_keepInHand 34 = .ok (.iadd, 1) := by decide +kernel
theorem dX5_keepInHand_35 : decode cX5_keepInHand 35 = .ok (.iload 4, 2) := by decide +kernel
theorem dX5_keepInHand_37 : decode cX5_keepInHand 37 = .ok (.iastore, 1) := by decide +kernel
theorem dX5_keepInHand_38 : decode cX5_keepInHand 38 = .ok (.iload_n 2, 1) := by decide +kernel
theorem dX5_keepInHand_39 : decode cX5_keepInHand 39 = .ok (.ireturn, 1) := by decide +kernel
theorem dX5_bringIn_0 : decode cX5_bringIn 0 = .ok (.iload_n 1, 1) := by decide +kernel
theorem dX5_bringIn_1 : decode cX5_bringIn 1 = .ok (.invokestatic 24, 3) := by decide +kernel
theorem dX5_bringIn_4 : decode cX5_bringIn 4 = .ok (.istore_n 2, 1) := by decide +kernel
theorem dX5_bringIn_5 : decode cX5_bringIn 5 = .ok (.aload_n 0, 1) := by decide +kernel
theorem dX5_bringIn_6 : decode cX5_bringIn 6 = .ok (.getfield 11, 3) := by decide +kernel
theorem dX5_bringIn_9 : decode cX5_bringIn 9 = .ok (.iload_n 2, 1) := by decide +kernel
theorem dX5_bringIn_10 : decode cX5_bringIn 10 = .ok (.iconst 3, 1) := by decide +kernel
theorem dX5_bringIn_11 : decode cX5_bringIn 11 = .ok (.iadd, 1) := by decide +kernel
theorem dX5_bringIn_12 : decode cX5_bringIn 12 = .ok (.iaload, 1) := by decide +kernel
theorem dX5_bringIn_13 : decode cX5_bringIn 13 = .ok (.ifCond .ne 6, 3) := by decide +kernel
theorem dX5_bringIn_16 : decode cX5_bringIn 16 = .ok (.bipush (-5), 2) := by decide +kernel
theorem dX5_bringIn_18 : decode cX5_bringIn 18 = .ok (.ireturn, 1) := by decide +kernel
theorem dX5_bringIn_19 : decode cX5_bringIn 19 = .ok (.aload_n 0, 1) := by decide +kernel
theorem dX5_bringIn_20 : decode cX5_bringIn 20 = .ok (.getfield 11, 3) := by decide +kernel
theorem dX5_bringIn_23 : decode cX5_bringIn 23 = .ok (.iload_n 2, 1) := by decide +kernel
theorem dX5_bringIn_24 : decode cX5_bringIn 24 = .ok (.iconst 1, 1) := by decide +kernel
theorem dX5_bringIn_25 : decode cX5_bringIn 25 = .ok (.iadd, 1) := by decide +kernel
theorem dX5_bringIn_26 : decode cX5_bringIn 26 = .ok (.iaload, 1) := by decide +kernel
theorem dX5_bringIn_27 : decode cX5_bringIn 27 = .ok (.istore_n 3, 1) := by decide +kernel
theorem dX5_bringIn_28 : decode cX5_bringIn 28 = .ok (.aload_n 0, 1) := by decide +kernel
theorem dX5_bringIn_29 : decode cX5_bringIn 29 = .ok (.getfield 11, 3) := by decide +kernel
theorem dX5_bringIn_32 : decode cX5_bringIn 32 = .ok (.iload_n 2, 1) := by decide +kernel
theorem dX5_bringIn_33 : decode cX5_bringIn 33 = .ok (.iconst 0, 1) := by decide +kernel
theorem dX5_bringIn_34 : decode cX5_bringIn 34 = .ok (.iadd, 1) := by decide +kernel
theorem dX5_bringIn_35 : decode cX5_bringIn 35 = .ok (.iaload, 1) := by decide +kernel
theorem dX5_bringIn_36 : decode cX5_bringIn 36 = .ok (.iload_n 3, 1) := by decide +kernel
theorem dX5_bringIn_37 : decode cX5_bringIn 37 = .ok (.invokestatic 31, 3) := by decide +kernel
theorem dX5_bringIn_40 : decode cX5_bringIn 40 = .ok (.istore 4, 2) := by decide +kernel
theorem dX5_bringIn_42 : decode cX5_bringIn 42 = .ok (.aload_n 0, 1) := by decide +kernel
theorem dX5_bringIn_43 : decode cX5_bringIn 43 = .ok (.iload_n 1, 1) := by decide +kernel
theorem dX5_bringIn_44 : decode cX5_bringIn 44 = .ok (.invokevirtual 114, 3) := by decide +kernel
theorem dX5_bringIn_47 : decode cX5_bringIn 47 = .ok (.aload_n 0, 1) := by decide +kernel
theorem dX5_bringIn_48 : decode cX5_bringIn 48 = .ok (.getfield 11, 3) := by decide +kernel
theorem dX5_bringIn_51 : decode cX5_bringIn 51 = .ok (.iload_n 2, 1) := by decide +kernel
theorem dX5_bringIn_52 : decode cX5_bringIn 52 = .ok (.bipush 6, 2) := by decide +kernel
theorem dX5_bringIn_54 : decode cX5_bringIn 54 = .ok (.iadd, 1) := by decide +kernel
theorem dX5_bringIn_55 : decode cX5_bringIn 55 = .ok (.iaload, 1) := by decide +kernel
theorem dX5_bringIn_56 : decode cX5_bringIn 56 = .ok (.iconst 1, 1) := by decide +kernel
theorem dX5_bringIn_57 : decode cX5_bringIn 57 = .ok (.if_icmp .ne 19, 3) := by decide +kernel
theorem dX5_bringIn_60 : decode cX5_bringIn 60 = .ok (.aload_n 0, 1) := by decide +kernel
theorem dX5_bringIn_61 : decode cX5_bringIn 61 = .ok (.iload 4, 2) := by decide +kernel
theorem dX5_bringIn_63 : decode cX5_bringIn 63 = .ok (.bipush 11, 2) := by decide +kernel
theorem dX5_bringIn_65 : decode cX5_bringIn 65 = .ok (.iadd, 1) := by decide +kernel
theorem dX5_bringIn_66 : decode cX5_bringIn 66 = .ok (.invokevirtual 35, 3) := by decide +kernel
theorem dX5_bringIn_69 : decode cX5_bringIn 69 = .ok (.ifCond .eq 7, 3) := by decide +kernel
theorem dX5_bringIn_72 : decode cX5_bringIn 72 = .ok (.iconst 1, 1) := by decide +kernel
theorem dX5_bringIn_73 : decode cX5_bringIn 73 = .ok (.goto 4, 3) := by decide +kernel
theorem dX5_bringIn_76 : decode cX5_bringIn 76 = .ok (.iconst 0, 1) := by decide +kernel
theorem dX5_bringIn_77 : decode cX5_bringIn 77 = .ok (.istore 5, 2) := by decide +kernel
theorem dX5_bringIn_79 : decode cX5_bringIn 79 = .ok (.iload 5, 2) := by decide +kernel
theorem dX5_bringIn_81 : decode cX5_bringIn 81 = .ok (.ifCond .ne 20, 3) := by decide +kernel
theorem dX5_bringIn_84 : decode cX5_bringIn 84 = .ok (.aload_n 0, 1) := by decide +kernel
theorem dX5_bringIn_85 : decode cX5_bringIn 85 = .ok (.iload 4, 2) := by decide +kernel
theorem dX5_bringIn_87 : decode cX5_bringIn 87 = .ok (.aload_n 0, 1) := by decide +kernel
theorem dX5_bringIn_88 : decode cX5_bringIn 88 = .ok (.getfield 11, 3) := by decide +kernel
theorem dX5_bringIn_91 : decode cX5_bringIn 91 = .ok (.iload_n 2, 1) := by decide +kernel
theorem dX5_bringIn_92 : decode cX5_bringIn 92 = .ok (.iconst 2, 1) := by decide +kernel
theorem dX5_bringIn_93 : decode cX5_bringIn 93 = .ok (.iadd, 1) := by decide +kernel
theorem dX5_bringIn_94 : decode cX5_bringIn 94 = .ok (.iaload, 1) := by decide +kernel
theorem dX5_bringIn_95 : decode cX5_bringIn 95 = .ok (.invokevirtual 117, 3) := by decide +kernel
theorem dX5_bringIn_98 : decode cX5_bringIn 98 = .ok (.ifCond .eq 16, 3) := by decide +kernel
theorem dX5_bringIn_101 : decode cX5_bringIn 101 = .ok (.aload_n 0, 1) := by decide +kernel
theorem dX5_bringIn_102 : decode cX5_bringIn 102 = .ok (.getfield 11, 3) := by decide +kernel
theorem dX5_bringIn_105 : decode cX5_bringIn 105 = .ok (.bipush 15, 2) := by decide +kernel
theorem dX5_bringIn_107 : decode cX5_bringIn 107 = .ok (.dup2, 1) := by decide +kernel
theorem dX5_bringIn_108 : decode cX5_bringIn 108 = .ok (.iaload, 1) := by decide +kernel
theorem dX5_bringIn_109 : decode cX5_bringIn 109 = .ok (.iconst 1, 1) := by decide +kernel
theorem dX5_bringIn_110 : decode cX5_bringIn 110 = .ok (.iadd, 1) := by decide +kernel
theorem dX5_bringIn_111 : decode cX5_bringIn 111 = .ok (.iastore, 1) := by decide +kernel
theorem dX5_bringIn_112 : decode cX5_bringIn 112 = .ok (.iconst 0, 1) := by decide +kernel
theorem dX5_bringIn_113 : decode cX5_bringIn 113 = .ok (.ireturn, 1) := by decide +kernel
theorem dX5_bringIn_114 : decode cX5_bringIn 114 = .ok (.aload_n 0, 1) := by decide +kernel
theorem dX5_bringIn_115 : decode cX5_bringIn 115 = .ok (.aload_n 0, 1) := by decide +kernel
theorem dX5_bringIn_116 : decode cX5_bringIn 116 = .ok (.getfield 11, 3) := by decide +kernel
theorem dX5_bringIn_119 : decode cX5_bringIn 119 = .ok (.iload_n 2, 1) := by decide +kernel
theorem dX5_bringIn_120 : decode cX5_bringIn 120 = .ok (.iconst 0, 1) := by decide +kernel
theorem dX5_bringIn_121 : decode cX5_bringIn 121 = .ok (.iadd, 1) := by decide +kernel
theorem dX5_bringIn_122 : decode cX5_bringIn 122 = .ok (.iaload, 1) := by decide +kernel
theorem dX5_bringIn_123 : decode cX5_bringIn 123 = .ok (.iload_n 3, 1) := by decide +kernel
theorem dX5_bringIn_124 : decode cX5_bringIn 124 = .ok (.aload_n 0, 1) := by decide +kernel
theorem dX5_bringIn_125 : decode cX5_bringIn 125 = .ok (.getfield 11, 3) := by decide +kernel
theorem dX5_bringIn_128 : decode cX5_bringIn 128 = .ok (.iload_n 2, 1) := by decide +kernel
theorem dX5_bringIn_129 : decode cX5_bringIn 129 = .ok (.iconst 4, 1) := by decide +kernel
theorem dX5_bringIn_130 : decode cX5_bringIn 130 = .ok (.iadd, 1) := by decide +kernel
theorem dX5_bringIn_131 : decode cX5_bringIn 131 = .ok (.iaload, 1) := by decide +kernel
theorem dX5_bringIn_132 : decode cX5_bringIn 132 = .ok (.aload_n 0, 1) := by decide +kernel
theorem dX5_bringIn_133 : decode cX5_bringIn 133 = .ok (.getfield 11, 3) := by decide +kernel
theorem dX5_bringIn_136 : decode cX5_bringIn 136 = .ok (.iload_n 2, 1) := by decide +kernel
theorem dX5_bringIn_137 : decode cX5_bringIn 137 = .ok (.iconst 5, 1) := by decide +kernel
theorem dX5_bringIn_138 : decode cX5_bringIn 138 = .ok (.iadd, 1) := by decide +kernel
theorem dX5_bringIn_139 : decode cX5_bringIn 139 = .ok (.iaload, 1) := by decide +kernel
theorem dX5_bringIn_140 : decode cX5_bringIn 140 = .ok (.aload_n 0, 1) := by decide +kernel
theorem dX5_bringIn_141 : decode cX5_bringIn 141 = .ok (.iconst 5, 1) := by decide +kernel
theorem dX5_bringIn_142 : decode cX5_bringIn 142 = .ok (.invokevirtual 78, 3) := by decide +kernel
theorem dX5_bringIn_145 : decode cX5_bringIn 145 = .ok (.invokevirtual 120, 3) := by decide +kernel
theorem dX5_bringIn_148 : decode cX5_bringIn 148 = .ok (.iconst 1, 1) := by decide +kernel
theorem dX5_bringIn_149 : decode cX5_bringIn 149 = .ok (.ireturn, 1) := by decide +kernel
theorem dX5_isVoid_0 : decode cX5_isVoid 0 = .ok (.aload_n 0, 1) := by decide +kernel
theorem dX5_isVoid_1 : decode cX5_isVoid 1 = .ok (.iload_n 1, 1) := by decide +kernel
theorem dX5_isVoid_2 : decode cX5_isVoid 2 = .ok (.bipush 10, 2) := by decide +kernel
theorem dX5_isVoid_4 : decode cX5_isVoid 4 = .ok (.iadd, 1) := by decide +kernel
theorem dX5_isVoid_5 : decode cX5_isVoid 5 = .ok (.invokevirtual 35, 3) := by decide +kernel
theorem dX5_isVoid_8 : decode cX5_isVoid 8 = .ok (.ifCond .eq 20, 3) := by decide +kernel
theorem dX5_isVoid_11 : decode cX5_isVoid 11 = .ok (.aload_n 0, 1) := by decide +kernel
theorem dX5_isVoid_12 : decode cX5_isVoid 12 = .ok (.getfield 11, 3) := by decide +kernel
theorem dX5_isVoid_15 : decode cX5_isVoid 15 = .ok (.iload_n 1, 1) := by decide +kernel
theorem dX5_isVoid_16 : decode cX5_isVoid 16 = .ok (.bipush 9, 2) := by decide +kernel
theorem dX5_isVoid_18 : decode cX5_isVoid 18 = .ok (.iadd, 1) := by decide +kernel
theorem dX5_isVoid_19 : decode cX5_isVoid 19 = .ok (.iaload, 1) := by decide +kernel
theorem dX5_isVoid_20 : decode cX5_isVoid 20 = .ok (.iload_n 2, 1) := by decide +kernel
theorem dX5_isVoid_21 : decode cX5_isVoid 21 = .ok (.if_icmp .ne 7, 3) := by decide +kernel
theorem dX5_isVoid_24 : decode cX5_isVoid 24 = .ok (.iconst 1, 1) := by decide +kernel
theorem dX5_isVoid_25 : decode cX5_isVoid 25 = .ok (.goto 4, 3) := by decide +kernel
theorem dX5_isVoid_28 : decode cX5_isVoid 28 = .ok (.iconst 0, 1) := by decide +kernel
theorem dX5_isVoid_29 : decode cX5_isVoid 29 = .ok (.istore_n 3, 1) := by decide +kernel
theorem dX5_isVoid_30 : decode cX5_isVoid 30 = .ok (.aload_n 0, 1) := by decide +kernel
theorem dX5_isVoid_31 : decode cX5_isVoid 31 = .ok (.bipush 6, 2) := by decide +kernel
theorem dX5_isVoid_33 : decode cX5_isVoid 33 = .ok (.invokevirtual 78, 3) := by decide +kernel
theorem dX5_isVoid_36 : decode cX5_isVoid 36 = .ok (.iconst 1, 1) := by decide +kernel
theorem dX5_isVoid_37 : decode cX5_isVoid 37 = .ok (.if_icmp .ne 11, 3) := by decide +kernel
theorem dX5_isVoid_40 : decode cX5_isVoid 40 = .ok (.iload_n 3, 1) := by decide +kernel
theorem dX5_isVoid_41 : decode cX5_isVoid 41 = .ok (.ifCond .ne 7, 3) := by decide +kernel
theorem dX5_isVoid_44 : decode cX5_isVoid 44 = .ok (.iconst 1, 1) := by decide +kernel
theorem dX5_isVoid_45 : decode cX5_isVoid 45 = .ok (.goto 4, 3) := by decide +kernel
theorem dX5_isVoid_48 : decode cX5_isVoid 48 = .ok (.iconst 0, 1) := by decide +kernel
theorem dX5_isVoid_49 : decode cX5_isVoid 49 = .ok (.ireturn, 1) := by decide +kernel
theorem dX5_install_0 : decode cX5_install 0 = .ok (.iload_n 1, 1) := by decide +kernel
theorem dX5_install_1 : decode cX5_install 1 = .ok (.iload_n 2, 1) := by decide +kernel
theorem dX5_install_2 : decode cX5_install 2 = .ok (.invokestatic 31, 3) := by decide +kernel
theorem dX5_install_5 : decode cX5_install 5 = .ok (.istore 6, 2) := by decide +kernel
theorem dX5_install_7 : decode cX5_install 7 = .ok (.aload_n 0, 1) := by decide +kernel
theorem dX5_install_8 : decode cX5_install 8 = .ok (.getfield 11, 3) := by decide +kernel
theorem dX5_install_11 : decode cX5_install 11 = .ok (.iload 6, 2) := by decide +kernel
theorem dX5_install_13 : decode cX5_install 13 = .ok (.bipush 10, 2) := by decide +kernel
theorem dX5_install_15 : decode cX5_install 15 = .ok (.iadd, 1) := by decide +kernel
theorem dX5_install_16 : decode cX5_install 16 = .ok (.iconst 0, 1) := by decide +kernel
theorem dX5_install_17 : decode cX5_install 17 = .ok (.iastore, 1) := by decide +kernel
theorem dX5_install_18 : decode cX5_install 18 = .ok (.aload_n 0, 1) := by decide +kernel
theorem dX5_install_19 : decode cX5_install 19 = .ok (.getfield 11, 3) := by decide +kernel
theorem dX5_install_22 : decode cX5_install 22 = .ok (.iload 6, 2) := by decide +kernel
theorem dX5_install_24 : decode cX5_install 24 = .ok (.bipush 7, 2) := by decide +kernel
theorem dX5_install_26 : decode cX5_install 26 = .ok (.iadd, 1) := by decide +kernel
theorem dX5_install_27 : decode cX5_install 27 = .ok (.iconst 0, 1) := by decide +kernel
theorem dX5_install_28 : decode cX5_install 28 = .ok (.iastore, 1) := by decide +kernel
theorem dX5_install_29 : decode cX5_install 29 = .ok (.aload_n 0, 1) := by decide +kernel
theorem dX5_install_30 : decode cX5_install 30 = .ok (.getfield 11, 3) := by decide +kernel
theorem dX5_install_33 : decode cX5_install 33 = .ok (.iload 6, 2) := by decide +kernel
theorem dX5_install_35 : decode cX5_install 35 = .ok (.iconst 5, 1) := by decide +kernel
theorem dX5_install_36 : decode cX5_install 36 = .ok (.iadd, 1) := by decide +kernel
theorem dX5_install_37 : decode cX5_install 37 = .ok (.iconst 0, 1) := by decide +kernel
theorem dX5_install_38 : decode cX5_install 38 = .ok (.iastore, 1) := by decide +kernel
theorem dX5_install_39 : decode cX5_install 39 = .ok (.aload_n 0, 1) := by decide +kernel
theorem dX5_install_40 : decode cX5_install 40 = .ok (.iload_n 1, 1) := by decide +kernel
theorem dX5_install_41 : decode cX5_install 41 = .ok (.invokevirtual 124, 3) := by decide +kernel
theorem dX5_install_44 : decode cX5_install 44 = .ok (.invokestatic 127, 3) := by decide +kernel
theorem dX5_install_47 : decode cX5_install 47 = .ok (.istore 7, 2) := by decide +kernel
theorem dX5_install_49 : decode cX5_install 49 = .ok (.iload 7, 2) := by decide +kernel
theorem dX5_install_51 : decode cX5_install 51 = .ok (.aload_n 0, 1) := by decide +kernel
theorem dX5_install_52 : decode cX5_install 52 = .ok (.iconst 0, 1) := by decide +kernel
theorem dX5_install_53 : decode cX5_install 53 = .ok (.invokevirtual 78, 3) := by decide +kernel
theorem dX5_install_56 : decode cX5_install 56 = .ok (.if_icmp .lt 48, 3) := by decide +kernel
theorem dX5_install_59 : decode cX5_install 59 = .ok (.aload_n 0, 1) := by decide +kernel
theorem dX5_install_60 : decode cX5_install 60 = .ok (.iload_n 1, 1) := by decide +kernel
theorem dX5_install_61 : decode cX5_install 61 = .ok (.iload 5, 2) := by decide +kernel
theorem dX5_install_63 : decode cX5_install 63 = .ok (.invokevirtual 132, 3) := by decide +kernel
theorem dX5_install_66 : decode cX5_install 66 = .ok (.istore 8, 2) := by decide +kernel
theorem dX5_install_68 : decode cX5_install 68 = .ok (.iload 8, 2) := by decide +kernel
theorem dX5_install_70 : decode cX5_install 70 = .ok (.ifCond .lt 28, 3) := by decide +kernel
theorem dX5_install_73 : decode cX5_install 73 = .ok (.aload_n 0, 1) := by decide +kernel
theorem dX5_install_74 : decode cX5_install 74 = .ok (.getfield 11, 3) := by decide +kernel
theorem dX5_install_77 : decode cX5_install 77 = .ok (.iload_n 1, 1) := by decide +kernel
theorem dX5_install_78 : decode cX5_install 78 = .ok (.iload 8, 2) := by decide +kernel
theorem dX5_install_80 : decode cX5_install 80 = .ok (.invokestatic 31, 3) := by decide +kernel
theorem dX5_install_83 : decode cX5_install 83 = .ok (.iconst 5, 1) := by decide +kernel
theorem dX5_install_84 : decode cX5_install 84 = .ok (.iadd, 1) := by decide +kernel
theorem dX5_install_85 : decode cX5_install 85 = .ok (.iconst 0, 1) := by decide +kernel
theorem dX5_install_86 : decode cX5_install 86 = .ok (.iastore, 1) := by decide +kernel
theorem dX5_install_87 : decode cX5_install 87 = .ok (.aload_n 0, 1) := by decide +kernel
theorem dX5_install_88 : decode cX5_install 88 = .ok (.getfield 11, 3) := by decide +kernel
theorem dX5_install_91 : decode cX5_install 91 = .ok (.bipush 17, 2) := by decide +kernel
theorem dX5_install_93 : decode cX5_install 93 = .ok (.dup2, 1) := by decide +kernel
theorem dX5_install_94 : decode cX5_install 94 = .ok (.iaload, 1) := by decide +kernel
theorem dX5_install_95 : decode cX5_install 95 = .ok (.iconst 1, 1) := by decide +kernel
theorem dX5_install_96 : decode cX5_install 96 = .ok (.iadd, 1) := by decide +kernel
theorem dX5_install_97 : decode cX5_install 97 = .ok (.iastore, 1) := by decide +kernel
theorem dX5_install_98 : decode cX5_install 98 = .ok (.iinc 7 (-1), 3) := by decide +kernel
theorem dX5_install_101 : decode cX5_install 101 = .ok (.goto (-52), 3) := by decide +kernel
theorem dX5_install_104 : decode cX5_install 104 = .ok (.aload_n 0, 1) := by decide +kernel
theorem dX5_install_105 : decode cX5_install 105 = .ok (.getfield 11, 3) := by decide +kernel
theorem dX5_install_108 : decode cX5_install 108 = .ok (.iload 6, 2) := by decide +kernel
theorem dX5_install_110 : decode cX5_install 110 = .ok (.iconst 0, 1) := by decide +kernel
theorem dX5_install_111 : decode cX5_install 111 = .ok (.iadd, 1) := by decide +kernel
theorem dX5_install_112 : decode cX5_install 112 = .ok (.iload_n 3, 1) := by decide +kernel
theorem dX5_install_113 : decode cX5_install 113 = .ok (.iastore, 1) := by decide +kernel
theorem dX5_install_114 : decode cX5_install 114 = .ok (.aload_n 0, 1) := by decide +kernel
theorem dX5_install_115 : decode cX5_install 115 = .ok (.getfield 11, 3) := by decide +kernel
theorem dX5_install_118 : decode cX5_install 118 = .ok (.iload 6, 2) := by decide +kernel
theorem dX5_install_120 : decode cX5_install 120 = .ok (.iconst 1, 1) := by decide +kernel
theorem dX5_install_121 : decode cX5_install 121 = .ok (.iadd, 1) := by decide +kernel
theorem dX5_install_122 : decode cX5_install 122 = .ok (.iload 4, 2) := by decide +kernel
theorem dX5_install_124 : decode cX5_install 124 = .ok (.iastore, 1) := by decide +kernel
theorem dX5_install_125 : decode cX5_install 125 = .ok (.aload_n 0, 1) := by decide +kernel
theorem dX5_install_126 : decode cX5_install 126 = .ok (.getfield 11, 3) := by decide +kernel
theorem dX5_install_129 : decode cX5_install 129 = .ok (.iload 6, 2) := by decide +kernel
theorem dX5_install_131 : decode cX5_install 131 = .ok (.iconst 2, 1) := by decide +kernel
theorem dX5_install_132 : decode cX5_install 132 = .ok (.iadd, 1) := by decide +kernel
theorem dX5_install_133 : decode cX5_install 133 = .ok (.aload_n 0, 1) := by decide +kernel
theorem dX5_install_134 : decode cX5_install 134 = .ok (.invokevirtual 91, 3) := by decide +kernel
theorem dX5_install_137 : decode cX5_install 137 = .ok (.iastore, 1) := by decide +kernel
theorem dX5_install_138 : decode cX5_install 138 = .ok (.aload_n 0, 1) := by decide +kernel
theorem dX5_install_139 : decode cX5_install 139 = .ok (.getfield 11, 3) := by decide +kernel
theorem dX5_install_142 : decode cX5_install 142 = .ok (.iload 6, 2) := by decide +kernel
theorem dX5_install_144 : decode cX5_install 144 = .ok (.iconst 3, 1) := by decide +kernel
theorem dX5_install_145 : decode cX5_install 145 = .ok (.iadd, 1) := by decide +kernel
theorem dX5_install_146 : decode cX5_install 146 = .ok (.aload_n 0, 1) := by decide +kernel
theorem dX5_install_147 : decode cX5_install 147 = .ok (.invokevirtual 91, 3) := by decide +kernel
theorem dX5_install_150 : decode cX5_install 150 = .ok (.iastore, 1) := by decide +kernel
theorem dX5_install_151 : decode cX5_install 151 = .ok (.aload_n 0, 1) := by decide +kernel
theorem dX5_install_152 : decode cX5_install 152 = .ok (.getfield 11, 3) := by decide +kernel
theorem dX5_install_155 : decode cX5_install 155 = .ok (.iload 6, 2) := by decide +kernel
theorem dX5_install_157 : decode cX5_install 157 = .ok (.iconst 4, 1) := by decide +kernel
theorem dX5_install_158 : decode cX5_install 158 = .ok (.iadd, 1) := by decide +kernel
theorem dX5_install_159 : decode cX5_install 159 = .ok (.iconst 0, 1) := by decide +kernel
theorem dX5_install_160 : decode cX5_install 160 = .ok (.iastore, 1) := by decide +kernel
theorem dX5_install_161 : decode cX5_install 161 = .ok (.aload_n 0, 1) := by decide +kernel
theorem dX5_install_162 : decode cX5_install 162 = .ok (.getfield 11, 3) := by decide +kernel
theorem dX5_install_165 : decode cX5_install 165 = .ok (.iload 6, 2) := by decide +kernel
theorem dX5_install_167 : decode cX5_install 167 = .ok (.iconst 5, 1) := by decide +kernel
theorem dX5_install_168 : decode cX5_install 168 = .ok (.iadd, 1) := by decide +kernel
theorem dX5_install_169 : decode cX5_install 169 = .ok (.aload_n 0, 1) := by decide +kernel
theorem dX5_install_170 : decode cX5_install 170 = .ok (.invokevirtual 91, 3) := by decide +kernel
theorem dX5_install_173 : decode cX5_install 173 = .ok (.aload_n 0, 1) := by decide +kernel
theorem dX5_install_174 : decode cX5_install 174 = .ok (.iconst 1, 1) := by decide +kernel
theorem dX5_install_175 : decode cX5_install 175 = .ok (.invokevirtual 78, 3) := by decide +kernel
theorem dX5_install_178 : decode cX5_install 178 = .ok (.iadd, 1) := by decide +kernel
theorem dX5_install_179 : decode cX5_install 179 = .ok (.iastore, 1) := by decide +kernel
theorem dX5_install_180 : decode cX5_install 180 = .ok (.aload_n 0, 1) := by decide +kernel
theorem dX5_install_181 : decode cX5_install 181 = .ok (.getfield 11, 3) := by decide +kernel
theorem dX5_install_184 : decode cX5_install 184 = .ok (.bipush 14, 2) := by decide +kernel

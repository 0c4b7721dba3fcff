theorem dX7_lag_71 : decode cX7_lag 71 = .ok (.iconst 1, 1) := by decide +kernel
theorem dX7_lag_72 : decode cX7_lag 72 = .ok (.goto 4, 3) := by decide +kernel
theorem dX7_lag_75 : decode cX7_lag 75 = .ok (.iconst 0, 1) := by decide +kernel
theorem dX7_lag_76 : decode cX7_lag 76 = .ok (.iadd, 1) := by decide +kernel
theorem dX7_lag_77 : decode cX7_lag 77 = .ok (.istore_n 3, 1) := by decide +kernel
theorem dX7_lag_78 : decode cX7_lag 78 = .ok (.iinc 4 1, 3) := by decide +kernel
theorem dX7_lag_81 : decode cX7_lag 81 = .ok (.goto (-32), 3) := by decide +kernel
theorem dX7_lag_84 : decode cX7_lag 84 = .ok (.iload_n 3, 1) := by decide +kernel
theorem dX7_lag_85 : decode cX7_lag 85 = .ok (.ireturn, 1) := by decide +kernel
theorem dX7_own_0 : decode cX7_own 0 = .ok (.iload_n 1, 1) := by decide +kernel
theorem dX7_own_1 : decode cX7_own 1 = .ok (.invokestatic 155, 3) := by decide +kernel
theorem dX7_own_4 : decode cX7_own 4 = .ok (.ifCond .eq 10, 3) := by decide +kernel
theorem dX7_own_7 : decode cX7_own 7 = .ok (.iload_n 2, 1) := by decide +kernel
theorem dX7_own_8 : decode cX7_own 8 = .ok (.invokestatic 158, 3) := by decide +kernel
theorem dX7_own_11 : decode cX7_own 11 = .ok (.ifCond .ne 5, 3) := by decide +kernel
theorem dX7_own_14 : decode cX7_own 14 = .ok (.iconst (-1), 1) := by decide +kernel
theorem dX7_own_15 : decode cX7_own 15 = .ok (.ireturn, 1) := by decide +kernel
theorem dX7_own_16 : decode cX7_own 16 = .ok (.aload_n 0, 1) := by decide +kernel
theorem dX7_own_17 : decode cX7_own 17 = .ok (.iload_n 1, 1) := by decide +kernel
theorem dX7_own_18 : decode cX7_own 18 = .ok (.invokevirtual 109, 3) := by decide +kernel
theorem dX7_own_21 : decode cX7_own 21 = .ok (.iload_n 2, 1) := by decide +kernel
theorem dX7_own_22 : decode cX7_own 22 = .ok (.invokestatic 112, 3) := by decide +kernel
theorem dX7_own_25 : decode cX7_own 25 = .ok (.istore_n 3, 1) := by decide +kernel
theorem dX7_own_26 : decode cX7_own 26 = .ok (.aload_n 0, 1) := by decide +kernel
theorem dX7_own_27 : decode cX7_own 27 = .ok (.iload_n 3, 1) := by decide +kernel
theorem dX7_own_28 : decode cX7_own 28 = .ok (.invokevirtual 115, 3) := by decide +kernel
theorem dX7_own_31 : decode cX7_own 31 = .ok (.ifCond .ne 6, 3) := by decide +kernel
theorem dX7_own_34 : decode cX7_own 34 = .ok (.bipush (-2), 2) := by decide +kernel
theorem dX7_own_36 : decode cX7_own 36 = .ok (.ireturn, 1) := by decide +kernel
theorem dX7_own_37 : decode cX7_own 37 = .ok (.aload_n 0, 1) := by decide +kernel
theorem dX7_own_38 : decode cX7_own 38 = .ok (.getfield 9, 3) := by decide +kernel
theorem dX7_own_41 : decode cX7_own 41 = .ok (.iload_n 3, 1) := by decide +kernel
theorem dX7_own_42 : decode cX7_own 42 = .ok (.iconst 2, 1) := by decide +kernel
theorem dX7_own_43 : decode cX7_own 43 = .ok (.iadd, 1) := by decide +kernel
theorem dX7_own_44 : decode cX7_own 44 = .ok (.iaload, 1) := by decide +kernel
theorem dX7_own_45 : decode cX7_own 45 = .ok (.iconst 1, 1) := by decide +kernel
theorem dX7_own_46 : decode cX7_own 46 = .ok (.iadd, 1) := by decide +kernel
theorem dX7_own_47 : decode cX7_own 47 = .ok (.istore 4, 2) := by decide +kernel
theorem dX7_own_49 : decode cX7_own 49 = .ok (.iload 4, 2) := by decide +kernel
theorem dX7_own_51 : decode cX7_own 51 = .ok (.aload_n 0, 1) := by decide +kernel
theorem dX7_own_52 : decode cX7_own 52 = .ok (.getfield 9, 3) := by decide +kernel
theorem dX7_own_55 : decode cX7_own 55 = .ok (.iconst 2, 1) := by decide +kernel
theorem dX7_own_56 : decode cX7_own 56 = .ok (.iaload, 1) := by decide +kernel
theorem dX7_own_57 : decode cX7_own 57 = .ok (.if_icmp .gt 41, 3) := by decide +kernel
theorem dX7_own_60 : decode cX7_own 60 = .ok (.aload_n 0, 1) := by decide +kernel
theorem dX7_own_61 : decode cX7_own 61 = .ok (.iload 4, 2) := by decide +kernel
theorem dX7_own_63 : decode cX7_own 63 = .ok (.invokevirtual 102, 3) := by decide +kernel
theorem dX7_own_66 : decode cX7_own 66 = .ok (.iload_n 2, 1) := by decide +kernel
theorem dX7_own_67 : decode cX7_own 67 = .ok (.if_icmp .ne 25, 3) := by decide +kernel
theorem dX7_own_70 : decode cX7_own 70 = .ok (.aload_n 0, 1) := by decide +kernel
theorem dX7_own_71 : decode cX7_own 71 = .ok (.getfield 9, 3) := by decide +kernel
theorem dX7_own_74 : decode cX7_own 74 = .ok (.bipush 36, 2) := by decide +kernel
theorem dX7_own_76 : decode cX7_own 76 = .ok (.iconst 3, 1) := by decide +kernel
theorem dX7_own_77 : decode cX7_own 77 = .ok (.iload 4, 2) := by decide +kernel
theorem dX7_own_79 : decode cX7_own 79 = .ok (.iconst 1, 1) := by decide +kernel
theorem dX7_own_80 : decode cX7_own 80 = .ok (.isub, 1) := by decide +kernel
theorem dX7_own_81 : decode cX7_own 81 = .ok (.imul, 1) := by decide +kernel
theorem dX7_own_82 : decode cX7_own 82 = .ok (.iadd, 1) := by decide +kernel
theorem dX7_own_83 : decode cX7_own 83 = .ok (.iconst 2, 1) := by decide +kernel
theorem dX7_own_84 : decode cX7_own 84 = .ok (.iadd, 1) := by decide +kernel
theorem dX7_own_85 : decode cX7_own 85 = .ok (.iaload, 1) := by decide +kernel
theorem dX7_own_86 : decode cX7_own 86 = .ok (.iload_n 1, 1) := by decide +kernel
theorem dX7_own_87 : decode cX7_own 87 = .ok (.if_icmp .ne 5, 3) := by decide +kernel
theorem dX7_own_90 : decode cX7_own 90 = .ok (.iconst 0, 1) := by decide +kernel
theorem dX7_own_91 : decode cX7_own 91 = .ok (.ireturn, 1) := by decide +kernel
theorem dX7_own_92 : decode cX7_own 92 = .ok (.iinc 4 1, 3) := by decide +kernel
theorem dX7_own_95 : decode cX7_own 95 = .ok (.goto (-46), 3) := by decide +kernel
theorem dX7_own_98 : decode cX7_own 98 = .ok (.iconst 1, 1) := by decide +kernel
theorem dX7_own_99 : decode cX7_own 99 = .ok (.ireturn, 1) := by decide +kernel
theorem dX7_startOf_0 : decode cX7_startOf 0 = .ok (.iload_n 0, 1) := by decide +kernel
theorem dX7_startOf_1 : decode cX7_startOf 1 = .ok (.ifCond .ne 11, 3) := by decide +kernel
theorem dX7_startOf_4 : decode cX7_startOf 4 = .ok (.iload_n 1, 1) := by decide +kernel
theorem dX7_startOf_5 : decode cX7_startOf 5 = .ok (.iload_n 2, 1) := by decide +kernel
theorem dX7_startOf_6 : decode cX7_startOf 6 = .ok (.invokestatic 112, 3) := by decide +kernel
theorem dX7_startOf_9 : decode cX7_startOf 9 = .ok (.goto 34, 3) := by decide +kernel
theorem dX7_startOf_12 : decode cX7_startOf 12 = .ok (.iload_n 0, 1) := by decide +kernel
theorem dX7_startOf_13 : decode cX7_startOf 13 = .ok (.iconst 1, 1) := by decide +kernel
theorem dX7_startOf_14 : decode cX7_startOf 14 = .ok (.if_icmp .ne 11, 3) := by decide +kernel
theorem dX7_startOf_17 : decode cX7_startOf 17 = .ok (.iload_n 1, 1) := by decide +kernel
theorem dX7_startOf_18 : decode cX7_startOf 18 = .ok (.iload_n 2, 1) := by decide +kernel
theorem dX7_startOf_19 : decode cX7_startOf 19 = .ok (.invokestatic 122, 3) := by decide +kernel
theorem dX7_startOf_22 : decode cX7_startOf 22 = .ok (.goto 21, 3) := by decide +kernel
theorem dX7_startOf_25 : decode cX7_startOf 25 = .ok (.iload_n 0, 1) := by decide +kernel
theorem dX7_startOf_26 : decode cX7_startOf 26 = .ok (.iconst 2, 1) := by decide +kernel
theorem dX7_startOf_27 : decode cX7_startOf 27 = .ok (.if_icmp .ne 11, 3) := by decide +kernel
theorem dX7_startOf_30 : decode cX7_startOf 30 = .ok (.iload_n 1, 1) := by decide +kernel
theorem dX7_startOf_31 : decode cX7_startOf 31 = .ok (.iload_n 2, 1) := by decide +kernel
theorem dX7_startOf_32 : decode cX7_startOf 32 = .ok (.invokestatic 119, 3) := by decide +kernel
theorem dX7_startOf_35 : decode cX7_startOf 35 = .ok (.goto 8, 3) := by decide +kernel
theorem dX7_startOf_38 : decode cX7_startOf 38 = .ok (.iload_n 1, 1) := by decide +kernel
theorem dX7_startOf_39 : decode cX7_startOf 39 = .ok (.iload_n 2, 1) := by decide +kernel
theorem dX7_startOf_40 : decode cX7_startOf 40 = .ok (.invokestatic 137, 3) := by decide +kernel
theorem dX7_startOf_43 : decode cX7_startOf 43 = .ok (.ireturn, 1) := by decide +kernel
theorem dX7_dueAt_0 : decode cX7_dueAt 0 = .ok (.ldc2_w 201, 3) := by decide +kernel
theorem dX7_dueAt_3 : decode cX7_dueAt 3 = .ok (.lstore_n 2, 1) := by decide +kernel
theorem dX7_dueAt_4 : decode cX7_dueAt 4 = .ok (.iconst 0, 1) := by decide +kernel
theorem dX7_dueAt_5 : decode cX7_dueAt 5 = .ok (.istore 4, 2) := by decide +kernel
theorem dX7_dueAt_7 : decode cX7_dueAt 7 = .ok (.iload 4, 2) := by decide +kernel
theorem dX7_dueAt_9 : decode cX7_dueAt 9 = .ok (.iload_n 1, 1) := by decide +kernel
theorem dX7_dueAt_10 : decode cX7_dueAt 10 = .ok (.if_icmp .gt 154, 3) := by decide +kernel
theorem dX7_dueAt_13 : decode cX7_dueAt 13 = .ok (.ldc2_w 201, 3) := by decide +kernel
theorem dX7_dueAt_16 : decode cX7_dueAt 16 = .ok (.lstore 5, 2) := by decide +kernel
theorem dX7_dueAt_18 : decode cX7_dueAt 18 = .ok (.iconst 0, 1) := by decide +kernel
theorem dX7_dueAt_19 : decode cX7_dueAt 19 = .ok (.istore 7, 2) := by decide +kernel
theorem dX7_dueAt_21 : decode cX7_dueAt 21 = .ok (.iload 7, 2) := by decide +kernel
theorem dX7_dueAt_23 : decode cX7_dueAt 23 = .ok (.iconst 4, 1) := by decide +kernel
theorem dX7_dueAt_24 : decode cX7_dueAt 24 = .ok (.if_icmp .ge 120, 3) := by decide +kernel
theorem dX7_dueAt_27 : decode cX7_dueAt 27 = .ok (.iconst 0, 1) := by decide +kernel
theorem dX7_dueAt_28 : decode cX7_dueAt 28 = .ok (.istore 8, 2) := by decide +kernel
theorem dX7_dueAt_30 : decode cX7_dueAt 30 = .ok (.iload 8, 2) := by decide +kernel
theorem dX7_dueAt_32 : decode cX7_dueAt 32 = .ok (.bipush 6, 2) := by decide +kernel
theorem dX7_dueAt_34 : decode cX7_dueAt 34 = .ok (.if_icmp .ge 104, 3) := by decide +kernel
theorem dX7_dueAt_37 : decode cX7_dueAt 37 = .ok (.iconst 0, 1) := by decide +kernel
theorem dX7_dueAt_38 : decode cX7_dueAt 38 = .ok (.istore 9, 2) := by decide +kernel
theorem dX7_dueAt_40 : decode cX7_dueAt 40 = .ok (.iload 9, 2) := by decide +kernel
theorem dX7_dueAt_42 : decode cX7_dueAt 42 = .ok (.bipush 10, 2) := by decide +kernel
theorem dX7_dueAt_44 : decode cX7_dueAt 44 = .ok (.if_icmp .ge 88, 3) := by decide +kernel
theorem dX7_dueAt_47 : decode cX7_dueAt 47 = .ok (.iload 7, 2) := by decide +kernel
theorem dX7_dueAt_49 : decode cX7_dueAt 49 = .ok (.iload 8, 2) := by decide +kernel
theorem dX7_dueAt_51 : decode cX7_dueAt 51 = .ok (.iload 9, 2) := by decide +kernel
theorem dX7_dueAt_53 : decode cX7_dueAt 53 = .ok (.invokestatic 203, 3) := by decide +kernel
theorem dX7_dueAt_56 : decode cX7_dueAt 56 = .ok (.istore 10, 2) := by decide +kernel
theorem dX7_dueAt_58 : decode cX7_dueAt 58 = .ok (.aload_n 0, 1) := by decide +kernel
theorem dX7_dueAt_59 : decode cX7_dueAt 59 = .ok (.getfield 9, 3) := by decide +kernel
theorem dX7_dueAt_62 : decode cX7_dueAt 62 = .ok (.iload 10, 2) := by decide +kernel
theorem dX7_dueAt_64 : decode cX7_dueAt 64 = .ok (.iaload, 1) := by decide +kernel
theorem dX7_dueAt_65 : decode cX7_dueAt 65 = .ok (.i2l, 1) := by decide +kernel
theorem dX7_dueAt_66 : decode cX7_dueAt 66 = .ok (.ldc2_w 206, 3) := by decide +kernel
theorem dX7_dueAt_69 : decode cX7_dueAt 69 = .ok (.lmul, 1) := by decide +kernel
theorem dX7_dueAt_70 : decode cX7_dueAt 70 = .ok (.iload 7, 2) := by decide +kernel
theorem dX7_dueAt_72 : decode cX7_dueAt 72 = .ok (.sipush 1000, 3) := by decide +kernel
theorem dX7_dueAt_75 : decode cX7_dueAt 75 = .ok (.imul, 1) := by decide +kernel
theorem dX7_dueAt_76 : decode cX7_dueAt 76 = .ok (.i2l, 1) := by decide +kernel
theorem dX7_dueAt_77 : decode cX7_dueAt 77 = .ok (.ladd, 1) := by decide +kernel
theorem dX7_dueAt_78 : decode cX7_dueAt 78 = .ok (.bipush 100, 2) := by decide +kernel
theorem dX7_dueAt_80 : decode cX7_dueAt 80 = .ok (.iload 8, 2) := by decide +kernel
theorem dX7_dueAt_82 : decode cX7_dueAt 82 = .ok (.imul, 1) := by decide +kernel
theorem dX7_dueAt_83 : decode cX7_dueAt 83 = .ok (.i2l, 1) := by decide +kernel
theorem dX7_dueAt_84 : decode cX7_dueAt 84 = .ok (.ladd, 1) := by decide +kernel
theorem dX7_dueAt_85 : decode cX7_dueAt 85 = .ok (.iload 9, 2) := by decide +kernel
theorem dX7_dueAt_87 : decode cX7_dueAt 87 = .ok (.i2l, 1) := by decide +kernel
theorem dX7_dueAt_88 : decode cX7_dueAt 88 = .ok (.ladd, 1) := by decide +kernel
theorem dX7_dueAt_89 : decode cX7_dueAt 89 = .ok (.lstore 11, 2) := by decide +kernel
theorem dX7_dueAt_91 : decode cX7_dueAt 91 = .ok (.aload_n 0, 1) := by decide +kernel
theorem dX7_dueAt_92 : decode cX7_dueAt 92 = .ok (.iload 10, 2) := by decide +kernel
theorem dX7_dueAt_94 : decode cX7_dueAt 94 = .ok (.invokevirtual 115, 3) := by decide +kernel
theorem dX7_dueAt_97 : decode cX7_dueAt 97 = .ok (.ifCond .eq 29, 3) := by decide +kernel
theorem dX7_dueAt_100 : decode cX7_dueAt 100 = .ok (.lload 11, 2) := by decide +kernel
theorem dX7_dueAt_102 : decode cX7_dueAt 102 = .ok (.lload_n 2, 1) := by decide +kernel
theorem dX7_dueAt_103 : decode cX7_dueAt 103 = .ok (.lcmp, 1) := by decide +kernel
theorem dX7_dueAt_104 : decode cX7_dueAt 104 = .ok (.ifCond .le 22, 3) := by decide +kernel
theorem dX7_dueAt_107 : decode cX7_dueAt 107 = .ok (.lload 5, 2) := by decide +kernel
theorem dX7_dueAt_109 : decode cX7_dueAt 109 = .ok (.lconst 0, 1) := by decide +kernel
theorem dX7_dueAt_110 : decode cX7_dueAt 110 = .ok (.lcmp, 1) := by decide +kernel
theorem dX7_dueAt_111 : decode cX7_dueAt 111 = .ok (.ifCond .lt 11, 3) := by decide +kernel
theorem dX7_dueAt_114 : decode cX7_dueAt 114 = .ok (.lload 11, 2) := by decide +kernel
theorem dX7_dueAt_116 : decode cX7_dueAt 116 = .ok (.lload 5, 2) := by decide +kernel
theorem dX7_dueAt_118 : decode cX7_dueAt 118 = .ok (.lcmp, 1) := by decide +kernel
theorem dX7_dueAt_119 : decode cX7_dueAt 119 = .ok (.ifCond .ge 7, 3) := by decide +kernel
theorem dX7_dueAt_122 : decode cX7_dueAt 122 = .ok (.lload 11, 2) := by decide +kernel
theorem dX7_dueAt_124 : decode cX7_dueAt 124 = .ok (.lstore 5, 2) := by decide +kernel
theorem dX7_dueAt_126 : decode cX7_dueAt 126 = .ok (.iinc 9 1, 3) := by decide +kernel
theorem dX7_dueAt_129 : decode cX7_dueAt 129 = .ok (.goto (-89), 3) := by decide +kernel
theorem dX7_dueAt_132 : decode cX7_dueAt 132 = .ok (.iinc 8 1, 3) := by decide +kernel
theorem dX7_dueAt_135 : decode cX7_dueAt 135 = .ok (.goto (-105), 3) := by decide +kernel
theorem dX7_dueAt_138 : decode cX7_dueAt 138 = .ok (.iinc 7 1, 3) := by decide +kernel
theorem dX7_dueAt_141 : decode cX7_dueAt 141 = .ok (.goto (-120), 3) := by decide +kernel
theorem dX7_dueAt_144 : decode cX7_dueAt 144 = .ok (.lload 5, 2) := by decide +kernel
theorem dX7_dueAt_146 : decode cX7_dueAt 146 = .ok (.lconst 0, 1) := by decide +kernel
theorem dX7_dueAt_147 : decode cX7_dueAt 147 = .ok (.lcmp, 1) := by decide +kernel
theorem dX7_dueAt_148 : decode cX7_dueAt 148 = .ok (.ifCond .ge 7, 3) := by decide +kernel
theorem dX7_dueAt_151 : decode cX7_dueAt 151 = .ok (.ldc2_w 201, 3) := by decide +kernel
theorem dX7_dueAt_154 : decode cX7_dueAt 154 = .ok (.lreturn, 1) := by decide +kernel
theorem dX7_dueAt_155 : decode cX7_dueAt 155 = .ok (.lload 5, 2) := by decide +kernel
theorem dX7_dueAt_157 : decode cX7_dueAt 157 = .ok (.lstore_n 2, 1) := by decide +kernel
theorem dX7_dueAt_158 : decode cX7_dueAt 158 = .ok (.iinc 4 1, 3) := by decide +kernel
theorem dX7_dueAt_161 : decode cX7_dueAt 161 = .ok (.goto (-154), 3) := by decide +kernel
theorem dX7_dueAt_164 : decode cX7_dueAt 164 = .ok (.lload_n 2, 1) := by decide +kernel
theorem dX7_dueAt_165 : decode cX7_dueAt 165 = .ok (.lreturn, 1) := by decide +kernel
theorem dX7_due_0 : decode cX7_due 0 = .ok (.iload_n 1, 1) := by decide +kernel
theorem dX7_due_1 : decode cX7_due 1 = .ok (.ifCond .lt 15, 3) := by decide +kernel
theorem dX7_due_4 : decode cX7_due 4 = .ok (.iload_n 2, 1) := by decide +kernel
theorem dX7_due_5 : decode cX7_due 5 = .ok (.i2l, 1) := by decide +kernel
theorem dX7_due_6 : decode cX7_due 6 = .ok (.lconst 0, 1) := by decide +kernel
theorem dX7_due_7 : decode cX7_due 7 = .ok (.ldc2_w 100, 3) := by decide +kernel
theorem dX7_due_10 : decode cX7_due 10 = .ok (.invokestatic 94, 3) := by decide +kernel
theorem dX7_due_13 : decode cX7_due 13 = .ok (.ifCond .ne 5, 3) := by decide +kernel
theorem dX7_due_16 : decode cX7_due 16 = .ok (.iconst (-1), 1) := by decide +kernel
theorem dX7_due_17 : decode cX7_due 17 = .ok (.ireturn, 1) := by decide +kernel
theorem dX7_due_18 : decode cX7_due 18 = .ok (.iload_n 1, 1) := by decide +kernel
theorem dX7_due_19 : decode cX7_due 19 = .ok (.sipush 240, 3) := by decide +kernel
theorem dX7_due_22 : decode cX7_due 22 = .ok (.if_icmp .lt 6, 3) := by decide +kernel
theorem dX7_due_25 : decode cX7_due 25 = .ok (.bipush (-2), 2) := by decide +kernel
theorem dX7_due_27 : decode cX7_due 27 = .ok (.ireturn, 1) := by decide +kernel
theorem dX7_due_28 : decode cX7_due 28 = .ok (.aload_n 0, 1) := by decide +kernel
theorem dX7_due_29 : decode cX7_due 29 = .ok (.iload_n 1, 1) := by decide +kernel
theorem dX7_due_30 : decode cX7_due 30 = .ok (.invokevirtual 208, 3) := by decide +kernel
theorem dX7_due_33 : decode cX7_due 33 = .ok (.lstore_n 3, 1) := by decide +kernel
theorem dX7_due_34 : decode cX7_due 34 = .ok (.lload_n 3, 1) := by decide +kernel
theorem dX7_due_35 : decode cX7_due 35 = .ok (.lconst 0, 1) := by decide +kernel
theorem dX7_due_36 : decode cX7_due 36 = .ok (.lcmp, 1) := by decide +kernel
theorem dX7_due_37 : decode cX7_due 37 = .ok (.ifCond .ge 6, 3) := by decide +kernel
theorem dX7_due_40 : decode cX7_due 40 = .ok (.bipush (-2), 2) := by decide +kernel
theorem dX7_due_42 : decode cX7_due 42 = .ok (.ireturn, 1) := by decide +kernel
theorem dX7_due_43 : decode cX7_due 43 = .ok (.iload_n 2, 1) := by decide +kernel
theorem dX7_due_44 : decode cX7_due 44 = .ok (.ifCond .ne 11, 3) := by decide +kernel
theorem dX7_due_47 : decode cX7_due 47 = .ok (.lload_n 3, 1) := by decide +kernel
theorem dX7_due_48 : decode cX7_due 48 = .ok (.ldc2_w 206, 3) := by decide +kernel
theorem dX7_due_51 : decode cX7_due 51 = .ok (.ldiv, 1) := by decide +kernel
theorem dX7_due_52 : decode cX7_due 52 = .ok (.goto 25, 3) := by decide +kernel
theorem dX7_due_55 : decode cX7_due 55 = .ok (.iload_n 2, 1) := by decide +kernel
theorem dX7_due_56 : decode cX7_due 56 = .ok (.iconst 1, 1) := by decide +kernel
theorem dX7_due_57 : decode cX7_due 57 = .ok (.if_icmp .ne 15, 3) := by decide +kernel
theorem dX7_due_60 : decode cX7_due 60 = .ok (.lload_n 3, 1) := by decide +kernel
theorem dX7_due_61 : decode cX7_due 61 = .ok (.ldc2_w 212, 3) := by decide +kernel
theorem dX7_due_64 : decode cX7_due 64 = .ok (.ldiv, 1) := by decide +kernel
theorem dX7_due_65 : decode cX7_due 65 = .ok (.ldc2_w 214, 3) := by decide +kernel
theorem dX7_due_68 : decode cX7_due 68 = .ok (.lrem, 1) := by decide +kernel
theorem dX7_due_69 : decode cX7_due 69 = .ok (.goto 8, 3) := by decide +kernel
theorem dX7_due_72 : decode cX7_due 72 = .ok (.lload_n 3, 1) := by decide +kernel
theorem dX7_due_73 : decode cX7_due 73 = .ok (.ldc2_w 212, 3) := by decide +kernel
theorem dX7_due_76 : decode cX7_due 76 = .ok (.lrem, 1) := by decide +kernel
theorem dX7_due_77 : decode cX7_due 77 = .ok (.l2i, 1) := by decide +kernel
theorem dX7_due_78 : decode cX7_due 78 = .ok (.ireturn, 1) := by decide +kernel
theorem dX7_next_0 : decode cX7_next 0 = .ok (.aload_n 0, 1) := by decide +kernel
theorem dX7_next_1 : decode cX7_next 1 = .ok (.iconst 0, 1) := by decide +kernel
theorem dX7_next_2 : decode cX7_next 2 = .ok (.invokevirtual 208, 3) := by decide +kernel
theorem dX7_next_5 : decode cX7_next 5 = .ok (.lstore_n 1, 1) := by decide +kernel
theorem dX7_next_6 : decode cX7_next 6 = .ok (.lload_n 1, 1) := by decide +kernel
theorem dX7_next_7 : decode cX7_next 7 = .ok (.lconst 0, 1) := by decide +kernel
theorem dX7_next_8 : decode cX7_next 8 = .ok (.lcmp, 1) := by decide +kernel
theorem dX7_next_9 : decode cX7_next 9 = .ok (.ifCond .ge 6, 3) := by decide +kernel
theorem dX7_next_12 : decode cX7_next 12 = .ok (.bipush (-2), 2) := by decide +kernel
theorem dX7_next_14 : decode cX7_next 14 = .ok (.ireturn, 1) := by decide +kernel
theorem dX7_next_15 : decode cX7_next 15 = .ok (.aload_n 0, 1) := by decide +kernel
theorem dX7_next_16 : decode cX7_next 16 = .ok (.getfield 9, 3) := by decide +kernel
theorem dX7_next_19 : decode cX7_next 19 = .ok (.iconst 0, 1) := by decide +kernel
theorem dX7_next_20 : decode cX7_next 20 = .ok (.lload_n 1, 1) := by decide +kernel
theorem dX7_next_21 : decode cX7_next 21 = .ok (.ldc2_w 206, 3) := by decide +kernel
theorem dX7_next_24 : decode cX7_next 24 = .ok (.ldiv, 1) := by decide +kernel
theorem dX7_next_25 : decode cX7_next 25 = .ok (.l2i, 1) := by decide +kernel
theorem dX7_next_26 : decode cX7_next 26 = .ok (.iastore, 1) := by decide +kernel
theorem dX7_next_27 : decode cX7_next 27 = .ok (.aload_n 0, 1) := by decide +kernel
theorem dX7_next_28 : decode cX7_next 28 = .ok (.aload_n 0, 1) := by decide +kernel
theorem dX7_next_29 : decode cX7_next 29 = .ok (.getfield 9, 3) := by decide +kernel
theorem dX7_next_32 : decode cX7_next 32 = .ok (.iconst 0, 1) := by decide +kernel
theorem dX7_next_33 : decode cX7_next 33 = .ok (.iaload, 1) := by decide +kernel
theorem dX7_next_34 : decode cX7_next 34 = .ok (.invokevirtual 164, 3) := by decide +kernel
theorem dX7_next_37 : decode cX7_next 37 = .ok (.ireturn, 1) := by decide +kernel
theorem dX7_hottest_0 : decode cX7_hottest 0 = .ok (.iload_n 1, 1) := by decide +kernel
theorem dX7_hottest_1 : decode cX7_hottest 1 = .ok (.invokestatic 158, 3) := by decide +kernel
theorem dX7_hottest_4 : decode cX7_hottest 4 = .ok (.ifCond .ne 5, 3) := by decide +kernel
theorem dX7_hottest_7 : decode cX7_hottest 7 = .ok (.iconst (-1), 1) := by decide +kernel
theorem dX7_hottest_8 : decode cX7_hottest 8 = .ok (.ireturn, 1) := by decide +kernel
theorem dX7_hottest_9 : decode cX7_hottest 9 = .ok (.iconst 0, 1) := by decide +kernel
theorem dX7_hottest_10 : decode cX7_hottest 10 = .ok (.istore_n 2, 1) := by decide +kernel
theorem dX7_hottest_11 : decode cX7_hottest 11 = .ok (.iload_n 2, 1) := by decide +kernel
theorem dX7_hottest_12 : decode cX7_hottest 12 = .ok (.bipush 10, 2) := by decide +kernel
theorem dX7_hottest_14 : decode cX7_hottest 14 = .ok (.if_icmp .ge 92, 3) := by decide +kernel
theorem dX7_hottest_17 : decode cX7_hottest 17 = .ok (.iconst 0, 1) := by decide +kernel
theorem dX7_hottest_18 : decode cX7_hottest 18 = .ok (.istore_n 3, 1) := by decide +kernel
theorem dX7_hottest_19 : decode cX7_hottest 19 = .ok (.iconst 0, 1) := by decide +kernel
theorem dX7_hottest_20 : decode cX7_hottest 20 = .ok (.istore 4, 2) := by decide +kernel
theorem dX7_hottest_22 : decode cX7_hottest 22 = .ok (.iload 4, 2) := by decide +kernel
theorem dX7_hottest_24 : decode cX7_hottest 24 = .ok (.bipush 10, 2) := by decide +kernel
theorem dX7_hottest_26 : decode cX7_hottest 26 = .ok (.if_icmp .ge 67, 3) := by decide +kernel
theorem dX7_hottest_29 : decode cX7_hottest 29 = .ok (.iload_n 3, 1) := by decide +kernel
theorem dX7_hottest_30 : decode cX7_hottest 30 = .ok (.aload_n 0, 1) := by decide +kernel
theorem dX7_hottest_31 : decode cX7_hottest 31 = .ok (.getfield 9, 3) := by decide +kernel
theorem dX7_hottest_34 : decode cX7_hottest 34 = .ok (.bipush 26, 2) := by decide +kernel
theorem dX7_hottest_36 : decode cX7_hottest 36 = .ok (.iload 4, 2) := by decide +kernel
theorem dX7_hottest_38 : decode cX7_hottest 38 = .ok (.iadd, 1) := by decide +kernel
theorem dX7_hottest_39 : decode cX7_hottest 39 = .ok (.iaload, 1) := by decide +kernel
theorem dX7_hottest_40 : decode cX7_hottest 40 = .ok (.aload_n 0, 1) := by decide +kernel
theorem dX7_hottest_41 : decode cX7_hottest 41 = .ok (.getfield 9, 3) := by decide +kernel
theorem dX7_hottest_44 : decode cX7_hottest 44 = .ok (.bipush 26, 2) := by decide +kernel
theorem dX7_hottest_46 : decode cX7_hottest 46 = .ok (.iload_n 2, 1) := by decide +kernel
theorem dX7_hottest_47 : decode cX7_hottest 47 = .ok (.iadd, 1) := by decide +kernel
theorem dX7_hottest_48 : decode cX7_hottest 48 = .ok (.iaload, 1) := by decide +kernel
theorem dX7_hottest_49 : decode cX7_hottest 49 = .ok (.if_icmp .gt 31, 3) := by decide +kernel
theorem dX7_hottest_52 : decode cX7_hottest 52 = .ok (.aload_n 0, 1) := by decide +kernel
theorem dX7_hottest_53 : decode cX7_hottest 53 = .ok (.getfield 9, 3) := by decide +kernel
theorem dX7_hottest_56 : decode cX7_hottest 56 = .ok (.bipush 26, 2) := by decide +kernel
theorem dX7_hottest_58 : decode cX7_hottest 58 = .ok (.iload 4, 2) := by decide +kernel
theorem dX7_hottest_60 : decode cX7_hottest 60 = .ok (.iadd, 1) := by decide +kernel
theorem dX7_hottest_61 : decode cX7_hottest 61 = .ok (.iaload, 1) := by decide +kernel
theorem dX7_hottest_62 : decode cX7_hottest 62 = .ok (.aload_n 0, 1) := by decide +kernel
theorem dX7_hottest_63 : decode cX7_hottest 63 = .ok (.getfield 9, 3) := by decide +kernel
theorem dX7_hottest_66 : decode cX7_hottest 66 = .ok (.bipush 26, 2) := by decide +kernel
theorem dX7_hottest_68 : decode cX7_hottest 68 = .ok (.iload_n 2, 1) := by decide +kernel
theorem dX7_hottest_69 : decode cX7_hottest 69 = .ok (.iadd, 1) := by decide +kernel
theorem dX7_hottest_70 : decode cX7_hottest 70 = .ok (.iaload, 1) := by decide +kernel
theorem dX7_hottest_71 : decode cX7_hottest 71 = .ok (.if_icmp .ne 13, 3) := by decide +kernel
theorem dX7_hottest_74 : decode cX7_hottest 74 = .ok (.iload 4, 2) := by decide +kernel
theorem dX7_hottest_76 : decode cX7_hottest 76 = .ok (.iload_n 2, 1) := by decide +kernel
theorem dX7_hottest_77 : decode cX7_hottest 77 = .ok (.if_icmp .ge 7, 3) := by decide +kernel
theorem dX7_hottest_80 : decode cX7_hottest 80 = .ok (.iconst 1, 1) := by decide +kernel
theorem dX7_hottest_81 : decode cX7_hottest 81 = .ok (.goto 4, 3) := by decide +kernel
theorem dX7_hottest_84 : decode cX7_hottest 84 = .ok (.iconst 0, 1) := by decide +kernel
theorem dX7_hottest_85 : decode cX7_hottest 85 = .ok (.iadd, 1) := by decide +kernel
theorem dX7_hottest_86 : decode cX7_hottest 86 = .ok (.istore_n 3, 1) := by decide +kernel
theorem dX7_hottest_87 : decode cX7_hottest 87 = .ok (.iinc 4 1, 3) := by decide +kernel
theorem dX7_hottest_90 : decode cX7_hottest 90 = .ok (.goto (-68), 3) := by decide +kernel
theorem dX7_hottest_93 : decode cX7_hottest 93 = .ok (.iload_n 3, 1) := by decide +kernel
theorem dX7_hottest_94 : decode cX7_hottest 94 = .ok (.iload_n 1, 1) := by decide +kernel
theorem dX7_hottest_95 : decode cX7_hottest 95 = .ok (.if_icmp .ne 5, 3) := by decide +kernel
theorem dX7_hottest_98 : decode cX7_hottest 98 = .ok (.iload_n 2, 1) := by decide +kernel
theorem dX7_hottest_99 : decode cX7_hottest 99 = .ok (.ireturn, 1) := by decide +kernel
theorem dX7_hottest_100 : decode cX7_hottest 100 = .ok (.iinc 2 1, 3) := by decide +kernel
theorem dX7_hottest_103 : decode cX7_hottest 103 = .ok (.goto (-92), 3) := by decide +kernel
theorem dX7_hottest_106 : decode cX7_hottest 106 = .ok (.iconst (-1), 1) := by decide +kernel
theorem dX7_hottest_107 : decode cX7_hottest 107 = .ok (.ireturn, 1) := by decide +kernel
theorem dX7_led_0 : decode cX7_led 0 = .ok (.iload_n 1, 1) := by decide +kernel
theorem dX7_led_1 : decode cX7_led 1 = .ok (.i2l, 1) := by decide +kernel
theorem dX7_led_2 : decode cX7_led 2 = .ok (.lconst 0, 1) := by decide +kernel
theorem dX7_led_3 : decode cX7_led 3 = .ok (.ldc2_w 98, 3) := by decide +kernel
theorem dX7_led_6 : decode cX7_led 6 = .ok (.invokestatic 94, 3) := by decide +kernel
theorem dX7_led_9 : decode cX7_led 9 = .ok (.ifCond .eq 15, 3) := by decide +kernel
theorem dX7_led_12 : decode cX7_led 12 = .ok (.aload_n 0, 1) := by decide +kernel
theorem dX7_led_13 : decode cX7_led 13 = .ok (.getfield 9, 3) := by decide +kernel
theorem dX7_led_16 : decode cX7_led 16 = .ok (.bipush 16, 2) := by decide +kernel
theorem dX7_led_18 : decode cX7_led 18 = .ok (.iload_n 1, 1) := by decide +kernel
theorem dX7_led_19 : decode cX7_led 19 = .ok (.iadd, 1) := by decide +kernel
theorem dX7_led_20 : decode cX7_led 20 = .ok (.iaload, 1) := by decide +kernel
theorem dX7_led_21 : decode cX7_led 21 = .ok (.goto 4, 3) := by decide +kernel
theorem dX7_led_24 : decode cX7_led 24 = .ok (.iconst (-1), 1) := by decide +kernel
theorem dX7_led_25 : decode cX7_led 25 = .ok (.ireturn, 1) := by decide +kernel
theorem dX7_feed_0 : decode cX7_feed 0 = .ok (.iload_n 1, 1) := by decide +kernel
theorem dX7_feed_1 : decode cX7_feed 1 = .ok (.i2l, 1) := by decide +kernel
theorem dX7_feed_2 : decode cX7_feed 2 = .ok (.lconst 0, 1) := by decide +kernel
theorem dX7_feed_3 : decode cX7_feed 3 = .ok (.ldc2_w 216, 3) := by decide +kernel
theorem dX7_feed_6 : decode cX7_feed 6 = .ok (.invokestatic 94, 3) := by decide +kernel
theorem dX7_feed_9 : decode cX7_feed 9 = .ok (.ifCond .ne 5, 3) := by decide +kernel
theorem dX7_feed_12 : decode cX7_feed 12 = .ok (.iconst (-1), 1) := by decide +kernel
theorem dX7_feed_13 : decode cX7_feed 13 = .ok (.ireturn, 1) := by decide +kernel
theorem dX7_feed_14 : decode cX7_feed 14 = .ok (.aload_n 0, 1) := by decide +kernel
theorem dX7_feed_15 : decode cX7_feed 15 = .ok (.getfield 218, 3) := by decide +kernel
theorem dX7_feed_18 : decode cX7_feed 18 = .ok (.sipush 160, 3) := by decide +kernel
theorem dX7_feed_21 : decode cX7_feed 21 = .ok (.if_icmp .ne 6, 3) := by decide +kernel
theorem dX7_feed_24 : decode cX7_feed 24 = .ok (.bipush (-3), 2) := by decide +kernel
theorem dX7_feed_26 : decode cX7_feed 26 = .ok (.ireturn, 1) := by decide +kernel
theorem dX7_feed_27 : decode cX7_feed 27 = .ok (.aload_n 0, 1) := by decide +kernel
theorem dX7_feed_28 : decode cX7_feed 28 = .ok (.getfield 16, 3) := by decide +kernel
theorem dX7_feed_31 : decode cX7_feed 31 = .ok (.aload_n 0, 1) := by decide +kernel
theorem dX7_feed_32 : decode cX7_feed 32 = .ok (.getfield 218, 3) := by decide +kernel
theorem dX7_feed_35 : decode cX7_feed 35 = .ok (.iload_n 1, 1) := by decide +kernel
theorem dX7_feed_36 : decode cX7_feed 36 = .ok (.iastore, 1) := by decide +kernel
theorem dX7_feed_37 : decode cX7_feed 37 = .ok (.aload_n 0, 1) := by decide +kernel
theorem dX7_feed_38 : decode cX7_feed 38 = .ok (.dup, 1) := by decide +kernel
theorem dX7_feed_39 : decode cX7_feed 39 = .ok (.getfield 218, 3) := by decide +kernel
theorem dX7_feed_42 : decode cX7_feed 42 = .ok (.iconst 1, 1) := by decide +kernel
theorem dX7_feed_43 : decode cX7_feed 43 = .ok (.iadd, 1) := by decide +kernel
theorem dX7_feed_44 : decode cX7_feed 44 = .ok (.putfield 218, 3) := by decide +kernel
theorem dX7_feed_47 : decode cX7_feed 47 = .ok (.aload_n 0, 1) := by decide +kernel
theorem dX7_feed_48 : decode cX7_feed 48 = .ok (.getfield 218, 3) := by decide +kernel
theorem dX7_feed_51 : decode cX7_feed 51 = .ok (.ireturn, 1) := by decide +kernel
theorem dX7_isFigure_0 : decode cX7_isFigure 0 = .ok (.aload_n 0, 1) := by decide +kernel
theorem dX7_isFigure_1 : decode cX7_isFigure 1 = .ok (.getfield 221, 3) := by decide +kernel
theorem dX7_isFigure_4 : decode cX7_isFigure 4 = .ok (.aload_n 0, 1) := by decide +kernel
theorem dX7_isFigure_5 : decode cX7_isFigure 5 = .ok (.getfield 218, 3) := by decide +kernel
theorem dX7_isFigure_8 : decode cX7_isFigure 8 = .ok (.if_icmp .ge 29, 3) := by decide +kernel
theorem dX7_isFigure_11 : decode cX7_isFigure 11 = .ok (.aload_n 0, 1) := by decide +kernel
theorem dX7_isFigure_12 : decode cX7_isFigure 12 = .ok (.getfield 16, 3) := by decide +kernel
theorem dX7_isFigure_15 : decode cX7_isFigure 15 = .ok (.aload_n 0, 1) := by decide +kernel
theorem dX7_isFigure_16 : decode cX7_isFigure 16 = .ok (.getfield 221, 3) := by decide +kernel
theorem dX7_isFigure_19 : decode cX7_isFigure 19 = .ok (.iaload, 1) := by decide +kernel
theorem dX7_isFigure_20 : decode cX7_isFigure 20 = .ok (.i2l, 1) := by decide +kernel
theorem dX7_isFigure_21 : decode cX7_isFigure 21 = .ok (.ldc2_w 224, 3) := by decide +kernel
theorem dX7_isFigure_24 : decode cX7_isFigure 24 = .ok (.ldc2_w 226, 3) := by decide +kernel
theorem dX7_isFigure_27 : decode cX7_isFigure 27 = .ok (.invokestatic 94, 3) := by decide +kernel
theorem dX7_isFigure_30 : decode cX7_isFigure 30 = .ok (.ifCond .eq 7, 3) := by decide +kernel
theorem dX7_isFigure_33 : decode cX7_isFigure 33 = .ok (.iconst 1, 1) := by decide +kernel
theorem dX7_isFigure_34 : decode cX7_isFigure 34 = .ok (.goto 4, 3) := by decide +kernel
theorem dX7_isFigure_37 : decode cX7_isFigure 37 = .ok (.iconst 0, 1) := by decide +kernel
theorem dX7_isFigure_38 : decode cX7_isFigure 38 = .ok (.ireturn, 1) := by decide +kernel
theorem dX7_wrong_0 : decode cX7_wrong 0 = .ok (.aload_n 0, 1) := by decide +kernel
theorem dX7_wrong_1 : decode cX7_wrong 1 = .ok (.aload_n 0, 1) := by decide +kernel
theorem dX7_wrong_2 : decode cX7_wrong 2 = .ok (.getfield 228, 3) := by decide +kernel
theorem dX7_wrong_5 : decode cX7_wrong 5 = .ok (.ifCond .ge 7, 3) := by decide +kernel
theorem dX7_wrong_8 : decode cX7_wrong 8 = .ok (.iload_n 1, 1) := by decide +kernel
theorem dX7_wrong_9 : decode cX7_wrong 9 = .ok (.goto 7, 3) := by decide +kernel
theorem dX7_wrong_12 : decode cX7_wrong 12 = .ok (.aload_n 0, 1) := by decide +kernel
theorem dX7_wrong_13 : decode cX7_wrong 13 = .ok (.getfield 228, 3) := by decide +kernel
theorem dX7_wrong_16 : decode cX7_wrong 16 = .ok (.putfield 228, 3) := by decide +kernel
theorem dX7_wrong_19 : decode cX7_wrong 19 = .ok (.return_, 1) := by decide +kernel
theorem dX7_number_0 : decode cX7_number 0 = .ok (.aload_n 0, 1) := by decide +kernel
theorem dX7_number_1 : decode cX7_number 1 = .ok (.getfield 228, 3) := by decide +kernel
theorem dX7_number_4 : decode cX7_number 4 = .ok (.ifCond .lt 5, 3) := by decide +kernel
theorem dX7_number_7 : decode cX7_number 7 = .ok (.iconst 0, 1) := by decide +kernel
theorem dX7_number_8 : decode cX7_number 8 = .ok (.ireturn, 1) := by decide +kernel
theorem dX7_number_9 : decode cX7_number 9 = .ok (.aload_n 0, 1) := by decide +kernel
theorem dX7_number_10 : decode cX7_number 10 = .ok (.getfield 221, 3) := by decide +kernel
theorem dX7_number_13 : decode cX7_number 13 = .ok (.aload_n 0, 1) := by decide +kernel
theorem dX7_number_14 : decode cX7_number 14 = .ok (.getfield 218, 3) := by decide +kernel
theorem dX7_number_17 : decode cX7_number 17 = .ok (.if_icmp .eq 17, 3) := by decide +kernel
theorem dX7_number_20 : decode cX7_number 20 = .ok (.aload_n 0, 1) := by decide +kernel
theorem dX7_number_21 : decode cX7_number 21 = .ok (.getfield 16, 3) := by decide +kernel
theorem dX7_number_24 : decode cX7_number 24 = .ok (.aload_n 0, 1) := by decide +kernel
theorem dX7_number_25 : decode cX7_number 25 = .ok (.getfield 221, 3) := by decide +kernel
theorem dX7_number_28 : decode cX7_number 28 = .ok (.iaload, 1) := by decide +kernel
theorem dX7_number_29 : decode cX7_number 29 = .ok (.bipush 32, 2) := by decide +kernel
theorem dX7_number_31 : decode cX7_number 31 = .ok (.if_icmp .eq 13, 3) := by decide +kernel
theorem dX7_number_34 : decode cX7_number 34 = .ok (.aload_n 0, 1) := by decide +kernel
theorem dX7_number_35 : decode cX7_number 35 = .ok (.aload_n 0, 1) := by decide +kernel
theorem dX7_number_36 : decode cX7_number 36 = .ok (.getfield 221, 3) := by decide +kernel
theorem dX7_number_39 : decode cX7_number 39 = .ok (.invokevirtual 231, 3) := by decide +kernel
theorem dX7_number_42 : decode cX7_number 42 = .ok (.iconst 0, 1) := by decide +kernel
theorem dX7_number_43 : decode cX7_number 43 = .ok (.ireturn, 1) := by decide +kernel
theorem dX7_number_44 : decode cX7_number 44 = .ok (.aload_n 0, 1) := by decide +kernel
theorem dX7_number_45 : decode cX7_number 45 = .ok (.dup, 1) := by decide +kernel
theorem dX7_number_46 : decode cX7_number 46 = .ok (.getfield 221, 3) := by decide +kernel
theorem dX7_number_49 : decode cX7_number 49 = .ok (.iconst 1, 1) := by decide +kernel
theorem dX7_number_50 : decode cX7_number 50 = .ok (.iadd, 1) := by decide +kernel
theorem dX7_number_51 : decode cX7_number 51 = .ok (.putfield 221, 3) := by decide +kernel
theorem dX7_number_54 : decode cX7_number 54 = .ok (.aload_n 0, 1) := by decide +kernel
theorem dX7_number_55 : decode cX7_number 55 = .ok (.getfield 221, 3) := by decide +kernel
theorem dX7_number_58 : decode cX7_number 58 = .ok (.istore_n 3, 1) := by decide +kernel
theorem dX7_number_59 : decode cX7_number 59 = .ok (.iconst 0, 1) := by decide +kernel
theorem dX7_number_60 : decode cX7_number 60 = .ok (.istore 4, 2) := by decide +kernel
theorem dX7_number_62 : decode cX7_number 62 = .ok (.aload_n 0, 1) := by decide +kernel
theorem dX7_number_63 : decode cX7_number 63 = .ok (.getfield 221, 3) := by decide +kernel
theorem dX7_number_66 : decode cX7_number 66 = .ok (.iload_n 3, 1) := by decide +kernel
theorem dX7_number_67 : decode cX7_number 67 = .ok (.iconst 3, 1) := by decide +kernel
theorem dX7_number_68 : decode cX7_number 68 = .ok (.iadd, 1) := by decide +kernel
theorem dX7_number_69 : decode cX7_number 69 = .ok (.if_icmp .ge 43, 3) := by decide +kernel
theorem dX7_number_72 : decode cX7_number 72 = .ok (.aload_n 0, 1) := by decide +kernel
theorem dX7_number_73 : decode cX7_number 73 = .ok (.invokevirtual 235, 3) := by decide +kernel
theorem dX7_number_76 : decode cX7_number 76 = .ok (.ifCond .eq 36, 3) := by decide +kernel
theorem dX7_number_79 : decode cX7_number 79 = .ok (.bipush 10, 2) := by decide +kernel
theorem dX7_number_81 : decode cX7_number 81 = .ok (.iload 4, 2) := by decide +kernel
theorem dX7_number_83 : decode cX7_number 83 = .ok (.imul, 1) := by decide +kernel
theorem dX7_number_84 : decode cX7_number 84 = .ok (.aload_n 0, 1) := by decide +kernel
theorem dX7_number_85 : decode cX7_number 85 = .ok (.getfield 16, 3) := by decide +kernel
theorem dX7_number_88 : decode cX7_number 88 = .ok (.aload_n 0, 1) := by decide +kernel
theorem dX7_number_89 : decode cX7_number 89 = .ok (.getfield 221, 3) := by decide +kernel
theorem dX7_number_92 : decode cX7_number 92 = .ok (.iaload, 1) := by decide +kernel
theorem dX7_number_93 : decode cX7_number 93 = .ok (.iadd, 1) := by decide +kernel
theorem dX7_number_94 : decode cX7_number 94 = .ok (.bipush 48, 2) := by decide +kernel
theorem dX7_number_96 : decode cX7_number 96 = .ok (.isub, 1) := by decide +kernel
theorem dX7_number_97 : decode cX7_number 97 = .ok (.istore 4, 2) := by decide +kernel
theorem dX7_number_99 : decode cX7_number 99 = .ok (.aload_n 0, 1) := by decide +kernel
theorem dX7_number_100 : decode cX7_number 100 = .ok (.dup, 1) := by decide +kernel
theorem dX7_number_101 : decode cX7_number 101 = .ok (.getfield 221, 3) := by decide +kernel
theorem dX7_number_104 : decode cX7_number 104 = .ok (.iconst 1, 1) := by decide +kernel
theorem dX7_number_105 : decode cX7_number 105 = .ok (.iadd, 1) := by decide +kernel
theorem dX7_number_106 : decode cX7_number 106 = .ok (.putfield 221, 3) := by decide +kernel
theorem dX7_number_109 : decode cX7_number 109 = .ok (.goto (-47), 3) := by decide +kernel
theorem dX7_number_112 : decode cX7_number 112 = .ok (.aload_n 0, 1) := by decide +kernel
theorem dX7_number_113 : decode cX7_number 113 = .ok (.getfield 221, 3) := by decide +kernel
theorem dX7_number_116 : decode cX7_number 116 = .ok (.iload_n 3, 1) := by decide +kernel
theorem dX7_number_117 : decode cX7_number 117 = .ok (.if_icmp .eq 16, 3) := by decide +kernel
theorem dX7_number_120 : decode cX7_number 120 = .ok (.iload 4, 2) := by decide +kernel
theorem dX7_number_122 : decode cX7_number 122 = .ok (.i2l, 1) := by decide +kernel
theorem dX7_number_123 : decode cX7_number 123 = .ok (.iload_n 1, 1) := by decide +kernel
theorem dX7_number_124 : decode cX7_number 124 = .ok (.i2l, 1) := by decide +kernel
theorem dX7_number_125 : decode cX7_number 125 = .ok (.iload_n 2, 1) := by decide +kernel
theorem dX7_number_126 : decode cX7_number 126 = .ok (.i2l, 1) := by decide +kernel
theorem dX7_number_127 : decode cX7_number 127 = .ok (.invokestatic 94, 3) := by decide +kernel
theorem dX7_number_130 : decode cX7_number 130 = .ok (.ifCond .ne 8, 3) := by decide +kernel
theorem dX7_number_133 : decode cX7_number 133 = .ok (.aload_n 0, 1) := by decide +kernel
theorem dX7_number_134 : decode cX7_number 134 = .ok (.iload_n 3, 1) := by decide +kernel
theorem dX7_number_135 : decode cX7_number 135 = .ok (.invokevirtual 231, 3) := by decide +kernel
theorem dX7_number_138 : decode cX7_number 138 = .ok (.iload 4, 2) := by decide +kernel
theorem dX7_number_140 : decode cX7_number 140 = .ok (.ireturn, 1) := by decide +kernel
theorem dX7_word_0 : decode cX7_word 0 = .ok (.lconst 0, 1) := by decide +kernel
theorem dX7_word_1 : decode cX7_word 1 = .ok (.lstore_n 1, 1) := by decide +kernel
theorem dX7_word_2 : decode cX7_word 2 = .ok (.aload_n 0, 1) := by decide +kernel
theorem dX7_word_3 : decode cX7_word 3 = .ok (.getfield 221, 3) := by decide +kernel
theorem dX7_word_6 : decode cX7_word 6 = .ok (.istore_n 3, 1) := by decide +kernel
theorem dX7_word_7 : decode cX7_word 7 = .ok (.aload_n 0, 1) := by decide +kernel
theorem dX7_word_8 : decode cX7_word 8 = .ok (.getfield 221, 3) := by decide +kernel
theorem dX7_word_11 : decode cX7_word 11 = .ok (.aload_n 0, 1) := by decide +kernel
theorem dX7_word_12 : decode cX7_word 12 = .ok (.getfield 218, 3) := by decide +kernel
theorem dX7_word_15 : decode cX7_word 15 = .ok (.if_icmp .ge 78, 3) := by decide +kernel
theorem dX7_word_18 : decode cX7_word 18 = .ok (.aload_n 0, 1) := by decide +kernel
theorem dX7_word_19 : decode cX7_word 19 = .ok (.getfield 16, 3) := by decide +kernel
theorem dX7_word_22 : decode cX7_word 22 = .ok (.aload_n 0, 1) := by decide +kernel
theorem dX7_word_23 : decode cX7_word 23 = .ok (.getfield 221, 3) := by decide +kernel
theorem dX7_word_26 : decode cX7_word 26 = .ok (.iaload, 1) := by decide +kernel
theorem dX7_word_27 : decode cX7_word 27 = .ok (.i2l, 1) := by decide +kernel
theorem dX7_word_28 : decode cX7_word 28 = .ok (.ldc2_w 239, 3) := by decide +kernel
theorem dX7_word_31 : decode cX7_word 31 = .ok (.ldc2_w 241, 3) := by decide +kernel
theorem dX7_word_34 : decode cX7_word 34 = .ok (.invokestatic 94, 3) := by decide +kernel
theorem dX7_word_37 : decode cX7_word 37 = .ok (.ifCond .eq 56, 3) := by decide +kernel
theorem dX7_word_40 : decode cX7_word 40 = .ok (.aload_n 0, 1) := by decide +kernel
theorem dX7_word_41 : decode cX7_word 41 = .ok (.getfield 221, 3) := by decide +kernel
theorem dX7_word_44 : decode cX7_word 44 = .ok (.iload_n 3, 1) := by decide +kernel
theorem dX7_word_45 : decode cX7_word 45 = .ok (.isub, 1) := by decide +kernel
theorem dX7_word_46 : decode cX7_word 46 = .ok (.bipush 8, 2) := by decide +kernel
theorem dX7_word_48 : decode cX7_word 48 = .ok (.if_icmp .ge 28, 3) := by decide +kernel
theorem dX7_word_51 : decode cX7_word 51 = .ok (.ldc2_w 243, 3) := by decide +kernel
theorem dX7_word_54 : decode cX7_word 54 = .ok (.lload_n 1, 1) := by decide +kernel
theorem dX7_word_55 : decode cX7_word 55 = .ok (.lmul, 1) := by decide +kernel
theorem dX7_word_56 : decode cX7_word 56 = .ok (.aload_n 0, 1) := by decide +kernel
theorem dX7_word_57 : decode cX7_word 57 = .ok (.getfield 16, 3) := by decide +kernel
theorem dX7_word_60 : decode cX7_word 60 = .ok (.aload_n 0, 1) := by decide +kernel
theorem dX7_word_61 : decode cX7_word 61 = .ok (.getfield 221, 3) := by decide +kernel
theorem dX7_word_64 : decode cX7_word 64 = .ok (.iaload, 1) := by decide +kernel
theorem dX7_word_65 : decode cX7_word 65 = .ok (.i2l, 1) := by decide +kernel
theorem dX7_word_66 : decode cX7_word 66 = .ok (.ladd, 1) := by decide +kernel
theorem dX7_word_67 : decode cX7_word 67 = .ok (.ldc2_w 239, 3) := by decide +kernel
theorem dX7_word_70 : decode cX7_word 70 = .ok (.lsub, 1) := by decide +kernel
theorem dX7_word_71 : decode cX7_word 71 = .ok (.lconst 1, 1) := by decide +kernel
theorem dX7_word_72 : decode cX7_word 72 = .ok (.ladd, 1) := by decide +kernel
theorem dX7_word_73 : decode cX7_word 73 = .ok (.goto 6, 3) := by decide +kernel
theorem dX7_word_76 : decode cX7_word 76 = .ok (.ldc2_w 201, 3) := by decide +kernel
theorem dX7_word_79 : decode cX7_word 79 = .ok (.lstore_n 1, 1) := by decide +kernel
theorem dX7_word_80 : decode cX7_word 80 = .ok (.aload_n 0, 1) := by decide +kernel
theorem dX7_word_81 : decode cX7_word 81 = .ok (.dup, 1) := by decide +kernel
theorem dX7_word_82 : decode cX7_word 82 = .ok (.getfield 221, 3) := by decide +kernel
theorem dX7_word_85 : decode cX7_word 85 = .ok (.iconst 1, 1) := by decide +kernel
theorem dX7_word_86 : decode cX7_word 86 = .ok (.iadd, 1) := by decide +kernel
theorem dX7_word_87 : decode cX7_word 87 = .ok (.putfield 221, 3) := by decide +kernel
theorem dX7_word_90 : decode cX7_word 90 = .ok (.goto (-83), 3) := by decide +kernel
theorem dX7_word_93 : decode cX7_word 93 = .ok (.lload_n 1, 1) := by decide +kernel
theorem dX7_word_94 : decode cX7_word 94 = .ok (.lreturn, 1) := by decide +kernel
theorem dX7_readsAct_0 : decode cX7_readsAct 0 = .ok (.aload_n 0, 1) := by decide +kernel
theorem dX7_readsAct_1 : decode cX7_readsAct 1 = .ok (.getfield 221, 3) := by decide +kernel
theorem dX7_readsAct_4 : decode cX7_readsAct 4 = .ok (.istore_n 2, 1) := by decide +kernel
theorem dX7_readsAct_5 : decode cX7_readsAct 5 = .ok (.aload_n 0, 1) := by decide +kernel
theorem dX7_readsAct_6 : decode cX7_readsAct 6 = .ok (.invokevirtual 245, 3) := by decide +kernel
theorem dX7_readsAct_9 : decode cX7_readsAct 9 = .ok (.lstore_n 3, 1) := by decide +kernel
theorem dX7_readsAct_10 : decode cX7_readsAct 10 = .ok (.iconst (-1), 1) := by decide +kernel
theorem dX7_readsAct_11 : decode cX7_readsAct 11 = .ok (.istore 5, 2) := by decide +kernel
theorem dX7_readsAct_13 : decode cX7_readsAct 13 = .ok (.iconst 0, 1) := by decide +kernel
theorem dX7_readsAct_14 : decode cX7_readsAct 14 = .ok (.istore 6, 2) := by decide +kernel
theorem dX7_readsAct_16 : decode cX7_readsAct 16 = .ok (.iload 6, 2) := by decide +kernel
theorem dX7_readsAct_18 : decode cX7_readsAct 18 = .ok (.aload_n 0, 1) := by decide +kernel
theorem dX7_readsAct_19 : decode cX7_readsAct 19 = .ok (.getfield 44, 3) := by decide +kernel
theorem dX7_readsAct_22 : decode cX7_readsAct 22 = .ok (.arraylength, 1) := by decide +kernel
theorem dX7_readsAct_23 : decode cX7_readsAct 23 = .ok (.if_icmp .ge 30, 3) := by decide +kernel
theorem dX7_readsAct_26 : decode cX7_readsAct 26 = .ok (.aload_n 0, 1) := by decide +kernel
theorem dX7_readsAct_27 : decode cX7_readsAct 27 = .ok (.getfield 44, 3) := by decide +kernel
theorem dX7_readsAct_30 : decode cX7_readsAct 30 = .ok (.iload 6, 2) := by decide +kernel
theorem dX7_readsAct_32 : decode cX7_readsAct 32 = .ok (.laload, 1) := by decide +kernel
theorem dX7_readsAct_33 : decode cX7_readsAct 33 = .ok (.lload_n 3, 1) := by decide +kernel
theorem dX7_readsAct_34 : decode cX7_readsAct 34 = .ok (.lcmp, 1) := by decide +kernel
theorem dX7_readsAct_35 : decode cX7_readsAct 35 = .ok (.ifCond .ne 8, 3) := by decide +kernel
theorem dX7_readsAct_38 : decode cX7_readsAct 38 = .ok (.iload 6, 2) := by decide +kernel
theorem dX7_readsAct_40 : decode cX7_readsAct 40 = .ok (.goto 5, 3) := by decide +kernel
theorem dX7_readsAct_43 : decode cX7_readsAct 43 = .ok (.iload 5, 2) := by decide +kernel
theorem dX7_readsAct_45 : decode cX7_readsAct 45 = .ok (.istore 5, 2) := by decide +kernel
theorem dX7_readsAct_47 : decode cX7_readsAct 47 = .ok (.iinc 6 1, 3) := by decide +kernel
theorem dX7_readsAct_50 : decode cX7_readsAct 50 = .ok (.goto (-34), 3) := by decide +kernel
theorem dX7_readsAct_53 : decode cX7_readsAct 53 = .ok (.iload 5, 2) := by decide +kernel
theorem dX7_readsAct_55 : decode cX7_readsAct 55 = .ok (.iconst (-1), 1) := by decide +kernel
theorem dX7_readsAct_56 : decode cX7_readsAct 56 = .ok (.if_icmp .ne 9, 3) := by decide +kernel
theorem dX7_readsAct_59 : decode cX7_readsAct 59 = .ok (.aload_n 0, 1) := by decide +kernel
theorem dX7_readsAct_60 : decode cX7_readsAct 60 = .ok (.iload_n 2, 1) := by decide +kernel
theorem dX7_readsAct_61 : decode cX7_readsAct 61 = .ok (.invokevirtual 231, 3) := by decide +kernel
theorem dX7_readsAct_64 : decode cX7_readsAct 64 = .ok (.return_, 1) := by decide +kernel
theorem dX7_readsAct_65 : decode cX7_readsAct 65 = .ok (.aload_n 0, 1) := by decide +kernel
theorem dX7_readsAct_66 : decode cX7_readsAct 66 = .ok (.getfield 19, 3) := by decide +kernel
theorem dX7_readsAct_69 : decode cX7_readsAct 69 = .ok (.iconst 3, 1) := by decide +kernel
theorem dX7_readsAct_70 : decode cX7_readsAct 70 = .ok (.iload_n 1, 1) := by decide +kernel
theorem dX7_readsAct_71 : decode cX7_readsAct 71 = .ok (.imul, 1) := by decide +kernel
theorem dX7_readsAct_72 : decode cX7_readsAct 72 = .ok (.iload 5, 2) := by decide +kernel
theorem dX7_readsAct_74 : decode cX7_readsAct 74 = .ok (.iastore, 1) := by decide +kernel
theorem dX7_readsAct_75 : decode cX7_readsAct 75 = .ok (.iload 5, 2) := by decide +kernel
theorem dX7_readsAct_77 : decode cX7_readsAct 77 = .ok (.ifCond .eq 9, 3) := by decide +kernel
theorem dX7_readsAct_80 : decode cX7_readsAct 80 = .ok (.iload 5, 2) := by decide +kernel
theorem dX7_readsAct_82 : decode cX7_readsAct 82 = .ok (.iconst 3, 1) := by decide +kernel
theorem dX7_readsAct_83 : decode cX7_readsAct 83 = .ok (.if_icmp .ne 51, 3) := by decide +kernel
theorem dX7_readsAct_86 : decode cX7_readsAct 86 = .ok (.aload_n 0, 1) := by decide +kernel
theorem dX7_readsAct_87 : decode cX7_readsAct 87 = .ok (.getfield 19, 3) := by decide +kernel
theorem dX7_readsAct_90 : decode cX7_readsAct 90 = .ok (.iconst 3, 1) := by decide +kernel
theorem dX7_readsAct_91 : decode cX7_readsAct 91 = .ok (.iload_n 1, 1) := by decide +kernel
theorem dX7_readsAct_92 : decode cX7_readsAct 92 = .ok (.imul, 1) := by decide +kernel
theorem dX7_readsAct_93 : decode cX7_readsAct 93 = .ok (.iconst 1, 1) := by decide +kernel
theorem dX7_readsAct_94 : decode cX7_readsAct 94 = .ok (.iadd, 1) := by decide +kernel
theorem dX7_readsAct_95 : decode cX7_readsAct 95 = .ok (.aload_n 0, 1) := by decide +kernel
theorem dX7_readsAct_96 : decode cX7_readsAct 96 = .ok (.iconst 0, 1) := by decide +kernel
theorem dX7_readsAct_97 : decode cX7_readsAct 97 = .ok (.bipush 9, 2) := by decide +kernel
theorem dX7_readsAct_99 : decode cX7_readsAct 99 = .ok (.invokevirtual 249, 3) := by decide +kernel
theorem dX7_readsAct_102 : decode cX7_readsAct 102 = .ok (.iastore, 1) := by decide +kernel
theorem dX7_readsAct_103 : decode cX7_readsAct 103 = .ok (.aload_n 0, 1) := by decide +kernel
theorem dX7_readsAct_104 : decode cX7_readsAct 104 = .ok (.getfield 19, 3) := by decide +kernel
theorem dX7_readsAct_107 : decode cX7_readsAct 107 = .ok (.iconst 3, 1) := by decide +kernel
theorem dX7_readsAct_108 : decode cX7_readsAct 108 = .ok (.iload_n 1, 1) := by decide +kernel
theorem dX7_readsAct_109 : decode cX7_readsAct 109 = .ok (.imul, 1) := by decide +kernel
theorem dX7_readsAct_110 : decode cX7_readsAct 110 = .ok (.iconst 2, 1) := by decide +kernel
theorem dX7_readsAct_111 : decode cX7_readsAct 111 = .ok (.iadd, 1) := by decide +kernel
theorem dX7_readsAct_112 : decode cX7_readsAct 112 = .ok (.iload 5, 2) := by decide +kernel
theorem dX7_readsAct_114 : decode cX7_readsAct 114 = .ok (.iconst 3, 1) := by decide +kernel
theorem dX7_readsAct_115 : decode cX7_readsAct 115 = .ok (.if_icmp .ne 14, 3) := by decide +kernel
theorem dX7_readsAct_118 : decode cX7_readsAct 118 = .ok (.aload_n 0, 1) := by decide +kernel
theorem dX7_readsAct_119 : decode cX7_readsAct 119 = .ok (.iconst 0, 1) := by decide +kernel
theorem dX7_readsAct_120 : decode cX7_readsAct 120 = .ok (.sipush 999, 3) := by decide +kernel
theorem dX7_readsAct_123 : decode cX7_readsAct 123 = .ok (.invokevirtual 249, 3) := by decide +kernel
theorem dX7_readsAct_126 : decode cX7_readsAct 126 = .ok (.goto 4, 3) := by decide +kernel
theorem dX7_readsAct_129 : decode cX7_readsAct 129 = .ok (.iconst 0, 1) := by decide +kernel
theorem dX7_readsAct_130 : decode cX7_readsAct 130 = .ok (.iastore, 1) := by decide +kernel
theorem dX7_readsAct_131 : decode cX7_readsAct 131 = .ok (.goto 84, 3) := by decide +kernel
theorem dX7_readsAct_134 : decode cX7_readsAct 134 = .ok (.iload 5, 2) := by decide +kernel
theorem dX7_readsAct_136 : decode cX7_readsAct 136 = .ok (.iconst 4, 1) := by decide +kernel
theorem dX7_readsAct_137 : decode cX7_readsAct 137 = .ok (.if_icmp .ne 22, 3) := by decide +kernel
theorem dX7_readsAct_140 : decode cX7_readsAct 140 = .ok (.aload_n 0, 1) := by decide +kernel
theorem dX7_readsAct_141 : decode cX7_readsAct 141 = .ok (.getfield 19, 3) := by decide +kernel
theorem dX7_readsAct_144 : decode cX7_readsAct 144 = .ok (.iconst 3, 1) := by decide +kernel
theorem dX7_readsAct_145 : decode cX7_readsAct 145 = .ok (.iload_n 1, 1) := by decide +kernel
theorem dX7_readsAct_146 : decode cX7_readsAct 146 = .ok (.imul, 1) := by decide +kernel
theorem dX7_readsAct_147 : decode cX7_readsAct 147 = .ok (.iconst 1, 1) := by decide +kernel
theorem dX7_readsAct_148 : decode cX7_readsAct 148 = .ok (.iadd, 1) := by decide +kernel
theorem dX7_readsAct_149 : decode cX7_readsAct 149 = .ok (.aload_n 0, 1) := by decide +kernel
theorem dX7_readsAct_150 : decode cX7_readsAct 150 = .ok (.iconst 0, 1) := by decide +kernel
theorem dX7_readsAct_151 : decode cX7_readsAct 151 = .ok (.iconst 2, 1) := by decide +kernel
theorem dX7_readsAct_152 : decode cX7_readsAct 152 = .ok (.invokevirtual 249, 3) := by decide +kernel
theorem dX7_readsAct_155 : decode cX7_readsAct 155 = .ok (.iastore, 1) := by decide +kernel
theorem dX7_readsAct_156 : decode cX7_readsAct 156 = .ok (.goto 59, 3) := by decide +kernel
theorem dX7_readsAct_159 : decode cX7_readsAct 159 = .ok (.iload 5, 2) := by decide +kernel
theorem dX7_readsAct_161 : decode cX7_readsAct 161 = .ok (.iconst 5, 1) := by decide +kernel
theorem dX7_readsAct_162 : decode cX7_readsAct 162 = .ok (.if_icmp .ne 23, 3) := by decide +kernel
theorem dX7_readsAct_165 : decode cX7_readsAct 165 = .ok (.aload_n 0, 1) := by decide +kernel
theorem dX7_readsAct_166 : decode cX7_readsAct 166 = .ok (.getfield 19, 3) := by decide +kernel
theorem dX7_readsAct_169 : decode cX7_readsAct 169 = .ok (.iconst 3, 1) := by decide +kernel
theorem dX7_readsAct_170 : decode cX7_readsAct 170 = .ok (.iload_n 1, 1) := by decide +kernel
theorem dX7_readsAct_171 : decode cX7_readsAct 171 = .ok (.imul, 1) := by decide +kernel
theorem dX7_readsAct_172 : decode cX7_readsAct 172 = .ok (.iconst 1, 1) := by decide +kernel
theorem dX7_readsAct_173 : decode cX7_readsAct 173 = .ok (.iadd, 1) := by decide +kernel
theorem dX7_readsAct_174 : decode cX7_readsAct 174 = .ok (.aload_n 0, 1) := by decide +kernel
theorem dX7_readsAct_175 : decode cX7_readsAct 175 = .ok (.iconst 1, 1) := by decide +kernel
theorem dX7_readsAct_176 : decode cX7_readsAct 176 = .ok (.bipush 50, 2) := by decide +kernel
theorem dX7_readsAct_178 : decode cX7_readsAct 178 = .ok (.invokevirtual 249, 3) := by decide +kernel
theorem dX7_readsAct_181 : decode cX7_readsAct 181 = .ok (.iastore, 1) := by decide +kernel
theorem dX7_readsAct_182 : decode cX7_readsAct 182 = .ok (.goto 33, 3) := by decide +kernel
theorem dX7_readsAct_185 : decode cX7_readsAct 185 = .ok (.iload 5, 2) := by decide +kernel
theorem dX7_readsAct_187 : decode cX7_readsAct 187 = .ok (.bipush 6, 2) := by decide +kernel
theorem dX7_readsAct_189 : decode cX7_readsAct 189 = .ok (.if_icmp .eq 10, 3) := by decide +kernel
theorem dX7_readsAct_192 : decode cX7_readsAct 192 = .ok (.iload 5, 2) := by decide +kernel
theorem dX7_readsAct_194 : decode cX7_readsAct 194 = .ok (.bipush 7, 2) := by decide +kernel
theorem dX7_readsAct_196 : decode cX7_readsAct 196 = .ok (.if_icmp .ne 19, 3) := by decide +kernel
theorem dX7_readsAct_199 : decode cX7_readsAct 199 = .ok (.aload_n 0, 1) := by decide +kernel
theorem dX7_readsAct_200 : decode cX7_readsAct 200 = .ok (.getfield 19, 3) := by decide +kernel
theorem dX7_readsAct_203 : decode cX7_readsAct 203 = .ok (.iconst 3, 1) := by decide +kernel
theorem dX7_readsAct_204 : decode cX7_readsAct 204 = .ok (.iload_n 1, 1) := by decide +kernel
theorem dX7_readsAct_205 : decode cX7_readsAct 205 = .ok (.imul, 1) := by decide +kernel
theorem dX7_readsAct_206 : decode cX7_readsAct 206 = .ok (.iconst 1, 1) := by decide +kernel
theorem dX7_readsAct_207 : decode cX7_readsAct 207 = .ok (.iadd, 1) := by decide +kernel
theorem dX7_readsAct_208 : decode cX7_readsAct 208 = .ok (.aload_n 0, 1) := by decide +kernel
theorem dX7_readsAct_209 : decode cX7_readsAct 209 = .ok (.iconst 0, 1) := by decide +kernel
theorem dX7_readsAct_210 : decode cX7_readsAct 210 = .ok (.iconst 5, 1) := by decide +kernel
theorem dX7_readsAct_211 : decode cX7_readsAct 211 = .ok (.invokevirtual 249, 3) := by decide +kernel
theorem dX7_readsAct_214 : decode cX7_readsAct 214 = .ok (.iastore, 1) := by decide +kernel
theorem dX7_readsAct_215 : decode cX7_readsAct 215 = .ok (.return_, 1) := by decide +kernel
theorem dX7_plan_0 : decode cX7_plan 0 = .ok (.iload_n 1, 1) := by decide +kernel
theorem dX7_plan_1 : decode cX7_plan 1 = .ok (.invokestatic 155, 3) := by decide +kernel
theorem dX7_plan_4 : decode cX7_plan 4 = .ok (.ifCond .ne 5, 3) := by decide +kernel
theorem dX7_plan_7 : decode cX7_plan 7 = .ok (.iconst (-1), 1) := by decide +kernel
theorem dX7_plan_8 : decode cX7_plan 8 = .ok (.ireturn, 1) := by decide +kernel
theorem dX7_plan_9 : decode cX7_plan 9 = .ok (.aload_n 0, 1) := by decide +kernel
theorem dX7_plan_10 : decode cX7_plan 10 = .ok (.iconst 0, 1) := by decide +kernel
theorem dX7_plan_11 : decode cX7_plan 11 = .ok (.putfield 221, 3) := by decide +kernel
theorem dX7_plan_14 : decode cX7_plan 14 = .ok (.aload_n 0, 1) := by decide +kernel
theorem dX7_plan_15 : decode cX7_plan 15 = .ok (.iconst (-1), 1) := by decide +kernel
theorem dX7_plan_16 : decode cX7_plan 16 = .ok (.putfield 228, 3) := by decide +kernel
theorem dX7_plan_19 : decode cX7_plan 19 = .ok (.iconst 0, 1) := by decide +kernel
theorem dX7_plan_20 : decode cX7_plan 20 = .ok (.istore_n 2, 1) := by decide +kernel
theorem dX7_plan_21 : decode cX7_plan 21 = .ok (.iconst 1, 1) := by decide +kernel
theorem dX7_plan_22 : decode cX7_plan 22 = .ok (.istore_n 3, 1) := by decide +kernel
theorem dX7_plan_23 : decode cX7_plan 23 = .ok (.iload_n 3, 1) := by decide +kernel
theorem dX7_plan_24 : decode cX7_plan 24 = .ok (.ifCond .eq 93, 3) := by decide +kernel
theorem dX7_plan_27 : decode cX7_plan 27 = .ok (.aload_n 0, 1) := by decide +kernel
theorem dX7_plan_28 : decode cX7_plan 28 = .ok (.getfield 228, 3) := by decide +kernel
theorem dX7_plan_31 : decode cX7_plan 31 = .ok (.ifCond .ge 86, 3) := by decide +kernel
theorem dX7_plan_34 : decode cX7_plan 34 = .ok (.iload_n 2, 1) := by decide +kernel
theorem dX7_plan_35 : decode cX7_plan 35 = .ok (.iconst 5, 1) := by decide +kernel
theorem dX7_plan_36 : decode cX7_plan 36 = .ok (.if_icmp .ne 14, 3) := by decide +kernel
theorem dX7_plan_39 : decode cX7_plan 39 = .ok (.aload_n 0, 1) := by decide +kernel
theorem dX7_plan_40 : decode cX7_plan 40 = .ok (.aload_n 0, 1) := by decide +kernel
theorem dX7_plan_41 : decode cX7_plan 41 = .ok (.getfield 221, 3) := by decide +kernel
theorem dX7_plan_44 : decode cX7_plan 44 = .ok (.invokevirtual 231, 3) := by decide +kernel
theorem dX7_plan_47 : decode cX7_plan 47 = .ok (.goto 11, 3) := by decide +kernel
theorem dX7_plan_50 : decode cX7_plan 50 = .ok (.aload_n 0, 1) := by decide +kernel
theorem dX7_plan_51 : decode cX7_plan 51 = .ok (.iload_n 2, 1) := by decide +kernel
theorem dX7_plan_52 : decode cX7_plan 52 = .ok (.invokevirtual 252, 3) := by decide +kernel
theorem dX7_plan_55 : decode cX7_plan 55 = .ok (.iinc 2 1, 3) := by decide +kernel
theorem dX7_plan_58 : decode cX7_plan 58 = .ok (.aload_n 0, 1) := by decide +kernel
theorem dX7_plan_59 : decode cX7_plan 59 = .ok (.getfield 228, 3) := by decide +kernel
theorem dX7_plan_62 : decode cX7_plan 62 = .ok (.ifCond .ge 32, 3) := by decide +kernel
theorem dX7_plan_65 : decode cX7_plan 65 = .ok (.aload_n 0, 1) := by decide +kernel
theorem dX7_plan_66 : decode cX7_plan 66 = .ok (.getfield 221, 3) := by decide +kernel
theorem dX7_plan_69 : decode cX7_plan 69 = .ok (.aload_n 0, 1) := by decide +kernel
theorem dX7_plan_70 : decode cX7_plan 70 = .ok (.getfield 218, 3) := by decide +kernel
theorem dX7_plan_73 : decode cX7_plan 73 = .ok (.if_icmp .ge 21, 3) := by decide +kernel
theorem dX7_plan_76 : decode cX7_plan 76 = .ok (.aload_n 0, 1) := by decide +kernel
theorem dX7_plan_77 : decode cX7_plan 77 = .ok (.getfield 16, 3) := by decide +kernel
theorem dX7_plan_80 : decode cX7_plan 80 = .ok (.aload_n 0, 1) := by decide +kernel
theorem dX7_plan_81 : decode cX7_plan 81 = .ok (.getfield 221, 3) := by decide +kernel
theorem dX7_plan_84 : decode cX7_plan 84 = .ok (.iaload, 1) := by decide +kernel
theorem dX7_plan_85 : decode cX7_plan 85 = .ok (.bipush 59, 2) := by decide +kernel
theorem dX7_plan_87 : decode cX7_plan 87 = .ok (.if_icmp .ne 7, 3) := by decide +kernel
theorem dX7_plan_90 : decode cX7_plan 90 = .ok (.iconst 1, 1) := by decide +kernel
theorem dX7_plan_91 : decode cX7_plan 91 = .ok (.goto 4, 3) := by decide +kernel
theorem dX7_plan_94 : decode cX7_plan 94 = .ok (.iconst 0, 1) := by decide +kernel
theorem dX7_plan_95 : decode cX7_plan 95 = .ok (.istore_n 3, 1) := by decide +kernel
theorem dX7_plan_96 : decode cX7_plan 96 = .ok (.aload_n 0, 1) := by decide +kernel
theorem dX7_plan_97 : decode cX7_plan 97 = .ok (.dup, 1) := by decide +kernel
theorem dX7_plan_98 : decode cX7_plan 98 = .ok (.getfield 221, 3) := by decide +kernel
theorem dX7_plan_101 : decode cX7_plan 101 = .ok (.iload_n 3, 1) := by decide +kernel
theorem dX7_plan_102 : decode cX7_plan 102 = .ok (.ifCond .eq 7, 3) := by decide +kernel

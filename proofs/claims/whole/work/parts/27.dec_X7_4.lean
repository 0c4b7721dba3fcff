theorem dX7_plan_105 : decode cX7_plan 105 = .ok (.iconst 1, 1) := by decide +kernel
theorem dX7_plan_106 : decode cX7_plan 106 = .ok (.goto 4, 3) := by decide +kernel
theorem dX7_plan_109 : decode cX7_plan 109 = .ok (.iconst 0, 1) := by decide +kernel
theorem dX7_plan_110 : decode cX7_plan 110 = .ok (.iadd, 1) := by decide +kernel
theorem dX7_plan_111 : decode cX7_plan 111 = .ok (.putfield 221, 3) := by decide +kernel
theorem dX7_plan_114 : decode cX7_plan 114 = .ok (.goto (-91), 3) := by decide +kernel
theorem dX7_plan_117 : decode cX7_plan 117 = .ok (.aload_n 0, 1) := by decide +kernel
theorem dX7_plan_118 : decode cX7_plan 118 = .ok (.getfield 228, 3) := by decide +kernel
theorem dX7_plan_121 : decode cX7_plan 121 = .ok (.ifCond .ge 22, 3) := by decide +kernel
theorem dX7_plan_124 : decode cX7_plan 124 = .ok (.aload_n 0, 1) := by decide +kernel
theorem dX7_plan_125 : decode cX7_plan 125 = .ok (.getfield 221, 3) := by decide +kernel
theorem dX7_plan_128 : decode cX7_plan 128 = .ok (.aload_n 0, 1) := by decide +kernel
theorem dX7_plan_129 : decode cX7_plan 129 = .ok (.getfield 218, 3) := by decide +kernel
theorem dX7_plan_132 : decode cX7_plan 132 = .ok (.if_icmp .ge 11, 3) := by decide +kernel
theorem dX7_plan_135 : decode cX7_plan 135 = .ok (.aload_n 0, 1) := by decide +kernel
theorem dX7_plan_136 : decode cX7_plan 136 = .ok (.aload_n 0, 1) := by decide +kernel
theorem dX7_plan_137 : decode cX7_plan 137 = .ok (.getfield 221, 3) := by decide +kernel
theorem dX7_plan_140 : decode cX7_plan 140 = .ok (.invokevirtual 231, 3) := by decide +kernel
theorem dX7_plan_143 : decode cX7_plan 143 = .ok (.aload_n 0, 1) := by decide +kernel
theorem dX7_plan_144 : decode cX7_plan 144 = .ok (.iconst 0, 1) := by decide +kernel
theorem dX7_plan_145 : decode cX7_plan 145 = .ok (.putfield 218, 3) := by decide +kernel
theorem dX7_plan_148 : decode cX7_plan 148 = .ok (.aload_n 0, 1) := by decide +kernel
theorem dX7_plan_149 : decode cX7_plan 149 = .ok (.getfield 228, 3) := by decide +kernel
theorem dX7_plan_152 : decode cX7_plan 152 = .ok (.ifCond .lt 11, 3) := by decide +kernel
theorem dX7_plan_155 : decode cX7_plan 155 = .ok (.bipush (-100), 2) := by decide +kernel
theorem dX7_plan_157 : decode cX7_plan 157 = .ok (.aload_n 0, 1) := by decide +kernel
theorem dX7_plan_158 : decode cX7_plan 158 = .ok (.getfield 228, 3) := by decide +kernel
theorem dX7_plan_161 : decode cX7_plan 161 = .ok (.isub, 1) := by decide +kernel
theorem dX7_plan_162 : decode cX7_plan 162 = .ok (.ireturn, 1) := by decide +kernel
theorem dX7_plan_163 : decode cX7_plan 163 = .ok (.aload_n 0, 1) := by decide +kernel
theorem dX7_plan_164 : decode cX7_plan 164 = .ok (.getfield 25, 3) := by decide +kernel
theorem dX7_plan_167 : decode cX7_plan 167 = .ok (.iload_n 1, 1) := by decide +kernel
theorem dX7_plan_168 : decode cX7_plan 168 = .ok (.iload_n 2, 1) := by decide +kernel
theorem dX7_plan_169 : decode cX7_plan 169 = .ok (.iastore, 1) := by decide +kernel
theorem dX7_plan_170 : decode cX7_plan 170 = .ok (.aload_n 0, 1) := by decide +kernel
theorem dX7_plan_171 : decode cX7_plan 171 = .ok (.getfield 19, 3) := by decide +kernel
theorem dX7_plan_174 : decode cX7_plan 174 = .ok (.iconst 0, 1) := by decide +kernel
theorem dX7_plan_175 : decode cX7_plan 175 = .ok (.aload_n 0, 1) := by decide +kernel
theorem dX7_plan_176 : decode cX7_plan 176 = .ok (.getfield 22, 3) := by decide +kernel
theorem dX7_plan_179 : decode cX7_plan 179 = .ok (.bipush 15, 2) := by decide +kernel
theorem dX7_plan_181 : decode cX7_plan 181 = .ok (.iload_n 1, 1) := by decide +kernel
theorem dX7_plan_182 : decode cX7_plan 182 = .ok (.imul, 1) := by decide +kernel
theorem dX7_plan_183 : decode cX7_plan 183 = .ok (.iconst 3, 1) := by decide +kernel
theorem dX7_plan_184 : decode cX7_plan 184 = .ok (.iload_n 2, 1) := by decide +kernel
theorem dX7_plan_185 : decode cX7_plan 185 = .ok (.imul, 1) := by decide +kernel
theorem dX7_plan_186 : decode cX7_plan 186 = .ok (.invokestatic 86, 3) := by decide +kernel
theorem dX7_plan_189 : decode cX7_plan 189 = .ok (.iload_n 2, 1) := by decide +kernel
theorem dX7_plan_190 : decode cX7_plan 190 = .ok (.ireturn, 1) := by decide +kernel
theorem dX7_does_0 : decode cX7_does 0 = .ok (.bipush 15, 2) := by decide +kernel
theorem dX7_does_2 : decode cX7_does 2 = .ok (.iload_n 1, 1) := by decide +kernel
theorem dX7_does_3 : decode cX7_does 3 = .ok (.imul, 1) := by decide +kernel
theorem dX7_does_4 : decode cX7_does 4 = .ok (.iconst 3, 1) := by decide +kernel
theorem dX7_does_5 : decode cX7_does 5 = .ok (.iload_n 2, 1) := by decide +kernel
theorem dX7_does_6 : decode cX7_does 6 = .ok (.imul, 1) := by decide +kernel
theorem dX7_does_7 : decode cX7_does 7 = .ok (.iadd, 1) := by decide +kernel
theorem dX7_does_8 : decode cX7_does 8 = .ok (.istore_n 3, 1) := by decide +kernel
theorem dX7_does_9 : decode cX7_does 9 = .ok (.aload_n 0, 1) := by decide +kernel
theorem dX7_does_10 : decode cX7_does 10 = .ok (.getfield 22, 3) := by decide +kernel
theorem dX7_does_13 : decode cX7_does 13 = .ok (.iload_n 3, 1) := by decide +kernel
theorem dX7_does_14 : decode cX7_does 14 = .ok (.iconst 1, 1) := by decide +kernel
theorem dX7_does_15 : decode cX7_does 15 = .ok (.iadd, 1) := by decide +kernel
theorem dX7_does_16 : decode cX7_does 16 = .ok (.iaload, 1) := by decide +kernel
theorem dX7_does_17 : decode cX7_does 17 = .ok (.istore 4, 2) := by decide +kernel
theorem dX7_does_19 : decode cX7_does 19 = .ok (.aload_n 0, 1) := by decide +kernel
theorem dX7_does_20 : decode cX7_does 20 = .ok (.getfield 22, 3) := by decide +kernel
theorem dX7_does_23 : decode cX7_does 23 = .ok (.iload_n 3, 1) := by decide +kernel
theorem dX7_does_24 : decode cX7_does 24 = .ok (.iconst 2, 1) := by decide +kernel
theorem dX7_does_25 : decode cX7_does 25 = .ok (.iadd, 1) := by decide +kernel
theorem dX7_does_26 : decode cX7_does 26 = .ok (.iaload, 1) := by decide +kernel
theorem dX7_does_27 : decode cX7_does 27 = .ok (.istore 5, 2) := by decide +kernel
theorem dX7_does_29 : decode cX7_does 29 = .ok (.aload_n 0, 1) := by decide +kernel
theorem dX7_does_30 : decode cX7_does 30 = .ok (.getfield 22, 3) := by decide +kernel
theorem dX7_does_33 : decode cX7_does 33 = .ok (.iload_n 3, 1) := by decide +kernel
theorem dX7_does_34 : decode cX7_does 34 = .ok (.iaload, 1) := by decide +kernel
theorem dX7_does_35 : decode cX7_does 35 = .ok (.tableswitch 117 0 6 #[41, 52, 61, 70, 83, 93, 107], 41) := by decide +kernel
theorem dX7_does_76 : decode cX7_does 76 = .ok (.aload_n 0, 1) := by decide +kernel
theorem dX7_does_77 : decode cX7_does 77 = .ok (.iload_n 1, 1) := by decide +kernel
theorem dX7_does_78 : decode cX7_does 78 = .ok (.iload 4, 2) := by decide +kernel
theorem dX7_does_80 : decode cX7_does 80 = .ok (.invokevirtual 161, 3) := by decide +kernel
theorem dX7_does_83 : decode cX7_does 83 = .ok (.pop, 1) := by decide +kernel
theorem dX7_does_84 : decode cX7_does 84 = .ok (.goto 75, 3) := by decide +kernel
theorem dX7_does_87 : decode cX7_does 87 = .ok (.aload_n 0, 1) := by decide +kernel
theorem dX7_does_88 : decode cX7_does 88 = .ok (.iload_n 1, 1) := by decide +kernel
theorem dX7_does_89 : decode cX7_does 89 = .ok (.invokevirtual 167, 3) := by decide +kernel
theorem dX7_does_92 : decode cX7_does 92 = .ok (.pop, 1) := by decide +kernel
theorem dX7_does_93 : decode cX7_does 93 = .ok (.goto 66, 3) := by decide +kernel
theorem dX7_does_96 : decode cX7_does 96 = .ok (.aload_n 0, 1) := by decide +kernel
theorem dX7_does_97 : decode cX7_does 97 = .ok (.iload_n 1, 1) := by decide +kernel
theorem dX7_does_98 : decode cX7_does 98 = .ok (.invokevirtual 170, 3) := by decide +kernel
theorem dX7_does_101 : decode cX7_does 101 = .ok (.pop, 1) := by decide +kernel
theorem dX7_does_102 : decode cX7_does 102 = .ok (.goto 57, 3) := by decide +kernel
theorem dX7_does_105 : decode cX7_does 105 = .ok (.aload_n 0, 1) := by decide +kernel
theorem dX7_does_106 : decode cX7_does 106 = .ok (.iload_n 1, 1) := by decide +kernel
theorem dX7_does_107 : decode cX7_does 107 = .ok (.iload 4, 2) := by decide +kernel
theorem dX7_does_109 : decode cX7_does 109 = .ok (.iload 5, 2) := by decide +kernel
theorem dX7_does_111 : decode cX7_does 111 = .ok (.invokevirtual 175, 3) := by decide +kernel
theorem dX7_does_114 : decode cX7_does 114 = .ok (.pop, 1) := by decide +kernel
theorem dX7_does_115 : decode cX7_does 115 = .ok (.goto 44, 3) := by decide +kernel
theorem dX7_does_118 : decode cX7_does 118 = .ok (.aload_n 0, 1) := by decide +kernel
theorem dX7_does_119 : decode cX7_does 119 = .ok (.iload 4, 2) := by decide +kernel
theorem dX7_does_121 : decode cX7_does 121 = .ok (.invokevirtual 182, 3) := by decide +kernel
theorem dX7_does_124 : decode cX7_does 124 = .ok (.pop, 1) := by decide +kernel
theorem dX7_does_125 : decode cX7_does 125 = .ok (.goto 34, 3) := by decide +kernel
theorem dX7_does_128 : decode cX7_does 128 = .ok (.aload_n 0, 1) := by decide +kernel
theorem dX7_does_129 : decode cX7_does 129 = .ok (.getfield 9, 3) := by decide +kernel
theorem dX7_does_132 : decode cX7_does 132 = .ok (.iconst 0, 1) := by decide +kernel
theorem dX7_does_133 : decode cX7_does 133 = .ok (.dup2, 1) := by decide +kernel
theorem dX7_does_134 : decode cX7_does 134 = .ok (.iaload, 1) := by decide +kernel
theorem dX7_does_135 : decode cX7_does 135 = .ok (.iload 4, 2) := by decide +kernel
theorem dX7_does_137 : decode cX7_does 137 = .ok (.iadd, 1) := by decide +kernel
theorem dX7_does_138 : decode cX7_does 138 = .ok (.iastore, 1) := by decide +kernel
theorem dX7_does_139 : decode cX7_does 139 = .ok (.goto 20, 3) := by decide +kernel
theorem dX7_does_142 : decode cX7_does 142 = .ok (.aload_n 0, 1) := by decide +kernel
theorem dX7_does_143 : decode cX7_does 143 = .ok (.iload 4, 2) := by decide +kernel
theorem dX7_does_145 : decode cX7_does 145 = .ok (.iconst 1, 1) := by decide +kernel
theorem dX7_does_146 : decode cX7_does 146 = .ok (.invokevirtual 190, 3) := by decide +kernel
theorem dX7_does_149 : decode cX7_does 149 = .ok (.goto 10, 3) := by decide +kernel
theorem dX7_does_152 : decode cX7_does 152 = .ok (.aload_n 0, 1) := by decide +kernel
theorem dX7_does_153 : decode cX7_does 153 = .ok (.iload 4, 2) := by decide +kernel
theorem dX7_does_155 : decode cX7_does 155 = .ok (.iconst 0, 1) := by decide +kernel
theorem dX7_does_156 : decode cX7_does 156 = .ok (.invokevirtual 190, 3) := by decide +kernel
theorem dX7_does_159 : decode cX7_does 159 = .ok (.return_, 1) := by decide +kernel
theorem dX7_actsOf_0 : decode cX7_actsOf 0 = .ok (.iload_n 1, 1) := by decide +kernel
theorem dX7_actsOf_1 : decode cX7_actsOf 1 = .ok (.i2l, 1) := by decide +kernel
theorem dX7_actsOf_2 : decode cX7_actsOf 2 = .ok (.lconst 1, 1) := by decide +kernel
theorem dX7_actsOf_3 : decode cX7_actsOf 3 = .ok (.ldc2_w 255, 3) := by decide +kernel
theorem dX7_actsOf_6 : decode cX7_actsOf 6 = .ok (.invokestatic 94, 3) := by decide +kernel
theorem dX7_actsOf_9 : decode cX7_actsOf 9 = .ok (.ifCond .ne 5, 3) := by decide +kernel
theorem dX7_actsOf_12 : decode cX7_actsOf 12 = .ok (.iconst (-1), 1) := by decide +kernel
theorem dX7_actsOf_13 : decode cX7_actsOf 13 = .ok (.ireturn, 1) := by decide +kernel
theorem dX7_actsOf_14 : decode cX7_actsOf 14 = .ok (.iconst 0, 1) := by decide +kernel
theorem dX7_actsOf_15 : decode cX7_actsOf 15 = .ok (.istore_n 2, 1) := by decide +kernel
theorem dX7_actsOf_16 : decode cX7_actsOf 16 = .ok (.iconst 0, 1) := by decide +kernel
theorem dX7_actsOf_17 : decode cX7_actsOf 17 = .ok (.istore_n 3, 1) := by decide +kernel
theorem dX7_actsOf_18 : decode cX7_actsOf 18 = .ok (.iconst 0, 1) := by decide +kernel
theorem dX7_actsOf_19 : decode cX7_actsOf 19 = .ok (.istore 4, 2) := by decide +kernel
theorem dX7_actsOf_21 : decode cX7_actsOf 21 = .ok (.iload 4, 2) := by decide +kernel
theorem dX7_actsOf_23 : decode cX7_actsOf 23 = .ok (.bipush 6, 2) := by decide +kernel
theorem dX7_actsOf_25 : decode cX7_actsOf 25 = .ok (.if_icmp .ge 44, 3) := by decide +kernel
theorem dX7_actsOf_28 : decode cX7_actsOf 28 = .ok (.iload_n 1, 1) := by decide +kernel
theorem dX7_actsOf_29 : decode cX7_actsOf 29 = .ok (.iload 4, 2) := by decide +kernel
theorem dX7_actsOf_31 : decode cX7_actsOf 31 = .ok (.ishr, 1) := by decide +kernel
theorem dX7_actsOf_32 : decode cX7_actsOf 32 = .ok (.iconst 1, 1) := by decide +kernel
theorem dX7_actsOf_33 : decode cX7_actsOf 33 = .ok (.iand, 1) := by decide +kernel
theorem dX7_actsOf_34 : decode cX7_actsOf 34 = .ok (.iconst 1, 1) := by decide +kernel
theorem dX7_actsOf_35 : decode cX7_actsOf 35 = .ok (.if_icmp .ne 28, 3) := by decide +kernel
theorem dX7_actsOf_38 : decode cX7_actsOf 38 = .ok (.iinc 2 1, 3) := by decide +kernel
theorem dX7_actsOf_41 : decode cX7_actsOf 41 = .ok (.iload_n 3, 1) := by decide +kernel
theorem dX7_actsOf_42 : decode cX7_actsOf 42 = .ok (.aload_n 0, 1) := by decide +kernel
theorem dX7_actsOf_43 : decode cX7_actsOf 43 = .ok (.getfield 25, 3) := by decide +kernel
theorem dX7_actsOf_46 : decode cX7_actsOf 46 = .ok (.iload 4, 2) := by decide +kernel
theorem dX7_actsOf_48 : decode cX7_actsOf 48 = .ok (.iaload, 1) := by decide +kernel
theorem dX7_actsOf_49 : decode cX7_actsOf 49 = .ok (.iadd, 1) := by decide +kernel
theorem dX7_actsOf_50 : decode cX7_actsOf 50 = .ok (.istore_n 3, 1) := by decide +kernel
theorem dX7_actsOf_51 : decode cX7_actsOf 51 = .ok (.aload_n 0, 1) := by decide +kernel
theorem dX7_actsOf_52 : decode cX7_actsOf 52 = .ok (.getfield 25, 3) := by decide +kernel
theorem dX7_actsOf_55 : decode cX7_actsOf 55 = .ok (.iload 4, 2) := by decide +kernel
theorem dX7_actsOf_57 : decode cX7_actsOf 57 = .ok (.iaload, 1) := by decide +kernel
theorem dX7_actsOf_58 : decode cX7_actsOf 58 = .ok (.ifCond .ne 5, 3) := by decide +kernel
theorem dX7_actsOf_61 : decode cX7_actsOf 61 = .ok (.iconst (-1), 1) := by decide +kernel
theorem dX7_actsOf_62 : decode cX7_actsOf 62 = .ok (.ireturn, 1) := by decide +kernel
theorem dX7_actsOf_63 : decode cX7_actsOf 63 = .ok (.iinc 4 1, 3) := by decide +kernel
theorem dX7_actsOf_66 : decode cX7_actsOf 66 = .ok (.goto (-45), 3) := by decide +kernel
theorem dX7_actsOf_69 : decode cX7_actsOf 69 = .ok (.iload_n 2, 1) := by decide +kernel
theorem dX7_actsOf_70 : decode cX7_actsOf 70 = .ok (.iconst 3, 1) := by decide +kernel
theorem dX7_actsOf_71 : decode cX7_actsOf 71 = .ok (.if_icmp .le 7, 3) := by decide +kernel
theorem dX7_actsOf_74 : decode cX7_actsOf 74 = .ok (.iconst (-1), 1) := by decide +kernel
theorem dX7_actsOf_75 : decode cX7_actsOf 75 = .ok (.goto 15, 3) := by decide +kernel
theorem dX7_actsOf_78 : decode cX7_actsOf 78 = .ok (.iload_n 3, 1) := by decide +kernel
theorem dX7_actsOf_79 : decode cX7_actsOf 79 = .ok (.bipush 8, 2) := by decide +kernel
theorem dX7_actsOf_81 : decode cX7_actsOf 81 = .ok (.if_icmp .le 8, 3) := by decide +kernel
theorem dX7_actsOf_84 : decode cX7_actsOf 84 = .ok (.bipush (-5), 2) := by decide +kernel
theorem dX7_actsOf_86 : decode cX7_actsOf 86 = .ok (.goto 4, 3) := by decide +kernel
theorem dX7_actsOf_89 : decode cX7_actsOf 89 = .ok (.iload_n 3, 1) := by decide +kernel
theorem dX7_actsOf_90 : decode cX7_actsOf 90 = .ok (.ireturn, 1) := by decide +kernel
theorem dX7_firstOrder_0 : decode cX7_firstOrder 0 = .ok (.iconst 0, 1) := by decide +kernel
theorem dX7_firstOrder_1 : decode cX7_firstOrder 1 = .ok (.istore_n 2, 1) := by decide +kernel
theorem dX7_firstOrder_2 : decode cX7_firstOrder 2 = .ok (.iconst 0, 1) := by decide +kernel
theorem dX7_firstOrder_3 : decode cX7_firstOrder 3 = .ok (.istore_n 3, 1) := by decide +kernel
theorem dX7_firstOrder_4 : decode cX7_firstOrder 4 = .ok (.iload_n 3, 1) := by decide +kernel
theorem dX7_firstOrder_5 : decode cX7_firstOrder 5 = .ok (.bipush 6, 2) := by decide +kernel
theorem dX7_firstOrder_7 : decode cX7_firstOrder 7 = .ok (.if_icmp .ge 48, 3) := by decide +kernel
theorem dX7_firstOrder_10 : decode cX7_firstOrder 10 = .ok (.iconst 0, 1) := by decide +kernel
theorem dX7_firstOrder_11 : decode cX7_firstOrder 11 = .ok (.istore 4, 2) := by decide +kernel
theorem dX7_firstOrder_13 : decode cX7_firstOrder 13 = .ok (.iload_n 1, 1) := by decide +kernel
theorem dX7_firstOrder_14 : decode cX7_firstOrder 14 = .ok (.iload_n 3, 1) := by decide +kernel
theorem dX7_firstOrder_15 : decode cX7_firstOrder 15 = .ok (.ishr, 1) := by decide +kernel
theorem dX7_firstOrder_16 : decode cX7_firstOrder 16 = .ok (.iconst 1, 1) := by decide +kernel
theorem dX7_firstOrder_17 : decode cX7_firstOrder 17 = .ok (.iand, 1) := by decide +kernel
theorem dX7_firstOrder_18 : decode cX7_firstOrder 18 = .ok (.iconst 1, 1) := by decide +kernel
theorem dX7_firstOrder_19 : decode cX7_firstOrder 19 = .ok (.if_icmp .ne 30, 3) := by decide +kernel
theorem dX7_firstOrder_22 : decode cX7_firstOrder 22 = .ok (.iload 4, 2) := by decide +kernel
theorem dX7_firstOrder_24 : decode cX7_firstOrder 24 = .ok (.aload_n 0, 1) := by decide +kernel
theorem dX7_firstOrder_25 : decode cX7_firstOrder 25 = .ok (.getfield 25, 3) := by decide +kernel
theorem dX7_firstOrder_28 : decode cX7_firstOrder 28 = .ok (.iload_n 3, 1) := by decide +kernel
theorem dX7_firstOrder_29 : decode cX7_firstOrder 29 = .ok (.iaload, 1) := by decide +kernel
theorem dX7_firstOrder_30 : decode cX7_firstOrder 30 = .ok (.if_icmp .ge 19, 3) := by decide +kernel
theorem dX7_firstOrder_33 : decode cX7_firstOrder 33 = .ok (.aload_n 0, 1) := by decide +kernel
theorem dX7_firstOrder_34 : decode cX7_firstOrder 34 = .ok (.getfield 51, 3) := by decide +kernel
theorem dX7_firstOrder_37 : decode cX7_firstOrder 37 = .ok (.iload_n 2, 1) := by decide +kernel
theorem dX7_firstOrder_38 : decode cX7_firstOrder 38 = .ok (.iload_n 3, 1) := by decide +kernel
theorem dX7_firstOrder_39 : decode cX7_firstOrder 39 = .ok (.iastore, 1) := by decide +kernel
theorem dX7_firstOrder_40 : decode cX7_firstOrder 40 = .ok (.iinc 2 1, 3) := by decide +kernel
theorem dX7_firstOrder_43 : decode cX7_firstOrder 43 = .ok (.iinc 4 1, 3) := by decide +kernel
theorem dX7_firstOrder_46 : decode cX7_firstOrder 46 = .ok (.goto (-33), 3) := by decide +kernel
theorem dX7_firstOrder_49 : decode cX7_firstOrder 49 = .ok (.iinc 3 1, 3) := by decide +kernel
theorem dX7_firstOrder_52 : decode cX7_firstOrder 52 = .ok (.goto (-48), 3) := by decide +kernel
theorem dX7_firstOrder_55 : decode cX7_firstOrder 55 = .ok (.return_, 1) := by decide +kernel
theorem dX7_nextOrder_0 : decode cX7_nextOrder 0 = .ok (.aload_n 0, 1) := by decide +kernel
theorem dX7_nextOrder_1 : decode cX7_nextOrder 1 = .ok (.getfield 257, 3) := by decide +kernel
theorem dX7_nextOrder_4 : decode cX7_nextOrder 4 = .ok (.iconst 2, 1) := by decide +kernel
theorem dX7_nextOrder_5 : decode cX7_nextOrder 5 = .ok (.isub, 1) := by decide +kernel
theorem dX7_nextOrder_6 : decode cX7_nextOrder 6 = .ok (.istore_n 1, 1) := by decide +kernel
theorem dX7_nextOrder_7 : decode cX7_nextOrder 7 = .ok (.iload_n 1, 1) := by decide +kernel
theorem dX7_nextOrder_8 : decode cX7_nextOrder 8 = .ok (.ifCond .lt 26, 3) := by decide +kernel
theorem dX7_nextOrder_11 : decode cX7_nextOrder 11 = .ok (.aload_n 0, 1) := by decide +kernel
theorem dX7_nextOrder_12 : decode cX7_nextOrder 12 = .ok (.getfield 51, 3) := by decide +kernel
theorem dX7_nextOrder_15 : decode cX7_nextOrder 15 = .ok (.iload_n 1, 1) := by decide +kernel
theorem dX7_nextOrder_16 : decode cX7_nextOrder 16 = .ok (.iaload, 1) := by decide +kernel
theorem dX7_nextOrder_17 : decode cX7_nextOrder 17 = .ok (.aload_n 0, 1) := by decide +kernel
theorem dX7_nextOrder_18 : decode cX7_nextOrder 18 = .ok (.getfield 51, 3) := by decide +kernel
theorem dX7_nextOrder_21 : decode cX7_nextOrder 21 = .ok (.iload_n 1, 1) := by decide +kernel
theorem dX7_nextOrder_22 : decode cX7_nextOrder 22 = .ok (.iconst 1, 1) := by decide +kernel
theorem dX7_nextOrder_23 : decode cX7_nextOrder 23 = .ok (.iadd, 1) := by decide +kernel
theorem dX7_nextOrder_24 : decode cX7_nextOrder 24 = .ok (.iaload, 1) := by decide +kernel
theorem dX7_nextOrder_25 : decode cX7_nextOrder 25 = .ok (.if_icmp .lt 9, 3) := by decide +kernel
theorem dX7_nextOrder_28 : decode cX7_nextOrder 28 = .ok (.iinc 1 (-1), 3) := by decide +kernel
theorem dX7_nextOrder_31 : decode cX7_nextOrder 31 = .ok (.goto (-24), 3) := by decide +kernel
theorem dX7_nextOrder_34 : decode cX7_nextOrder 34 = .ok (.iload_n 1, 1) := by decide +kernel
theorem dX7_nextOrder_35 : decode cX7_nextOrder 35 = .ok (.ifCond .ge 5, 3) := by decide +kernel
theorem dX7_nextOrder_38 : decode cX7_nextOrder 38 = .ok (.iconst 0, 1) := by decide +kernel
theorem dX7_nextOrder_39 : decode cX7_nextOrder 39 = .ok (.ireturn, 1) := by decide +kernel
theorem dX7_nextOrder_40 : decode cX7_nextOrder 40 = .ok (.aload_n 0, 1) := by decide +kernel
theorem dX7_nextOrder_41 : decode cX7_nextOrder 41 = .ok (.getfield 257, 3) := by decide +kernel
theorem dX7_nextOrder_44 : decode cX7_nextOrder 44 = .ok (.iconst 1, 1) := by decide +kernel
theorem dX7_nextOrder_45 : decode cX7_nextOrder 45 = .ok (.isub, 1) := by decide +kernel
theorem dX7_nextOrder_46 : decode cX7_nextOrder 46 = .ok (.istore_n 2, 1) := by decide +kernel
theorem dX7_nextOrder_47 : decode cX7_nextOrder 47 = .ok (.aload_n 0, 1) := by decide +kernel
theorem dX7_nextOrder_48 : decode cX7_nextOrder 48 = .ok (.getfield 51, 3) := by decide +kernel
theorem dX7_nextOrder_51 : decode cX7_nextOrder 51 = .ok (.iload_n 2, 1) := by decide +kernel
theorem dX7_nextOrder_52 : decode cX7_nextOrder 52 = .ok (.iaload, 1) := by decide +kernel
theorem dX7_nextOrder_53 : decode cX7_nextOrder 53 = .ok (.aload_n 0, 1) := by decide +kernel
theorem dX7_nextOrder_54 : decode cX7_nextOrder 54 = .ok (.getfield 51, 3) := by decide +kernel
theorem dX7_nextOrder_57 : decode cX7_nextOrder 57 = .ok (.iload_n 1, 1) := by decide +kernel
theorem dX7_nextOrder_58 : decode cX7_nextOrder 58 = .ok (.iaload, 1) := by decide +kernel
theorem dX7_nextOrder_59 : decode cX7_nextOrder 59 = .ok (.if_icmp .gt 9, 3) := by decide +kernel
theorem dX7_nextOrder_62 : decode cX7_nextOrder 62 = .ok (.iinc 2 (-1), 3) := by decide +kernel
theorem dX7_nextOrder_65 : decode cX7_nextOrder 65 = .ok (.goto (-18), 3) := by decide +kernel
theorem dX7_nextOrder_68 : decode cX7_nextOrder 68 = .ok (.aload_n 0, 1) := by decide +kernel
theorem dX7_nextOrder_69 : decode cX7_nextOrder 69 = .ok (.getfield 51, 3) := by decide +kernel
theorem dX7_nextOrder_72 : decode cX7_nextOrder 72 = .ok (.iload_n 1, 1) := by decide +kernel
theorem dX7_nextOrder_73 : decode cX7_nextOrder 73 = .ok (.iaload, 1) := by decide +kernel
theorem dX7_nextOrder_74 : decode cX7_nextOrder 74 = .ok (.istore_n 3, 1) := by decide +kernel
theorem dX7_nextOrder_75 : decode cX7_nextOrder 75 = .ok (.aload_n 0, 1) := by decide +kernel
theorem dX7_nextOrder_76 : decode cX7_nextOrder 76 = .ok (.getfield 51, 3) := by decide +kernel
theorem dX7_nextOrder_79 : decode cX7_nextOrder 79 = .ok (.iload_n 1, 1) := by decide +kernel
theorem dX7_nextOrder_80 : decode cX7_nextOrder 80 = .ok (.aload_n 0, 1) := by decide +kernel
theorem dX7_nextOrder_81 : decode cX7_nextOrder 81 = .ok (.getfield 51, 3) := by decide +kernel
theorem dX7_nextOrder_84 : decode cX7_nextOrder 84 = .ok (.iload_n 2, 1) := by decide +kernel
theorem dX7_nextOrder_85 : decode cX7_nextOrder 85 = .ok (.iaload, 1) := by decide +kernel
theorem dX7_nextOrder_86 : decode cX7_nextOrder 86 = .ok (.iastore, 1) := by decide +kernel
theorem dX7_nextOrder_87 : decode cX7_nextOrder 87 = .ok (.aload_n 0, 1) := by decide +kernel
theorem dX7_nextOrder_88 : decode cX7_nextOrder 88 = .ok (.getfield 51, 3) := by decide +kernel
theorem dX7_nextOrder_91 : decode cX7_nextOrder 91 = .ok (.iload_n 2, 1) := by decide +kernel
theorem dX7_nextOrder_92 : decode cX7_nextOrder 92 = .ok (.iload_n 3, 1) := by decide +kernel
theorem dX7_nextOrder_93 : decode cX7_nextOrder 93 = .ok (.iastore, 1) := by decide +kernel
theorem dX7_nextOrder_94 : decode cX7_nextOrder 94 = .ok (.iload_n 1, 1) := by decide +kernel
theorem dX7_nextOrder_95 : decode cX7_nextOrder 95 = .ok (.iconst 1, 1) := by decide +kernel
theorem dX7_nextOrder_96 : decode cX7_nextOrder 96 = .ok (.iadd, 1) := by decide +kernel
theorem dX7_nextOrder_97 : decode cX7_nextOrder 97 = .ok (.istore 4, 2) := by decide +kernel
theorem dX7_nextOrder_99 : decode cX7_nextOrder 99 = .ok (.aload_n 0, 1) := by decide +kernel
theorem dX7_nextOrder_100 : decode cX7_nextOrder 100 = .ok (.getfield 257, 3) := by decide +kernel
theorem dX7_nextOrder_103 : decode cX7_nextOrder 103 = .ok (.iconst 1, 1) := by decide +kernel
theorem dX7_nextOrder_104 : decode cX7_nextOrder 104 = .ok (.isub, 1) := by decide +kernel
theorem dX7_nextOrder_105 : decode cX7_nextOrder 105 = .ok (.istore 5, 2) := by decide +kernel
theorem dX7_nextOrder_107 : decode cX7_nextOrder 107 = .ok (.iload 4, 2) := by decide +kernel
theorem dX7_nextOrder_109 : decode cX7_nextOrder 109 = .ok (.iload 5, 2) := by decide +kernel
theorem dX7_nextOrder_111 : decode cX7_nextOrder 111 = .ok (.if_icmp .ge 42, 3) := by decide +kernel
theorem dX7_nextOrder_114 : decode cX7_nextOrder 114 = .ok (.aload_n 0, 1) := by decide +kernel
theorem dX7_nextOrder_115 : decode cX7_nextOrder 115 = .ok (.getfield 51, 3) := by decide +kernel
theorem dX7_nextOrder_118 : decode cX7_nextOrder 118 = .ok (.iload 4, 2) := by decide +kernel
theorem dX7_nextOrder_120 : decode cX7_nextOrder 120 = .ok (.iaload, 1) := by decide +kernel
theorem dX7_nextOrder_121 : decode cX7_nextOrder 121 = .ok (.istore_n 3, 1) := by decide +kernel
theorem dX7_nextOrder_122 : decode cX7_nextOrder 122 = .ok (.aload_n 0, 1) := by decide +kernel
theorem dX7_nextOrder_123 : decode cX7_nextOrder 123 = .ok (.getfield 51, 3) := by decide +kernel
theorem dX7_nextOrder_126 : decode cX7_nextOrder 126 = .ok (.iload 4, 2) := by decide +kernel
theorem dX7_nextOrder_128 : decode cX7_nextOrder 128 = .ok (.aload_n 0, 1) := by decide +kernel
theorem dX7_nextOrder_129 : decode cX7_nextOrder 129 = .ok (.getfield 51, 3) := by decide +kernel
theorem dX7_nextOrder_132 : decode cX7_nextOrder 132 = .ok (.iload 5, 2) := by decide +kernel
theorem dX7_nextOrder_134 : decode cX7_nextOrder 134 = .ok (.iaload, 1) := by decide +kernel
theorem dX7_nextOrder_135 : decode cX7_nextOrder 135 = .ok (.iastore, 1) := by decide +kernel
theorem dX7_nextOrder_136 : decode cX7_nextOrder 136 = .ok (.aload_n 0, 1) := by decide +kernel
theorem dX7_nextOrder_137 : decode cX7_nextOrder 137 = .ok (.getfield 51, 3) := by decide +kernel
theorem dX7_nextOrder_140 : decode cX7_nextOrder 140 = .ok (.iload 5, 2) := by decide +kernel
theorem dX7_nextOrder_142 : decode cX7_nextOrder 142 = .ok (.iload_n 3, 1) := by decide +kernel
theorem dX7_nextOrder_143 : decode cX7_nextOrder 143 = .ok (.iastore, 1) := by decide +kernel
theorem dX7_nextOrder_144 : decode cX7_nextOrder 144 = .ok (.iinc 4 1, 3) := by decide +kernel
theorem dX7_nextOrder_147 : decode cX7_nextOrder 147 = .ok (.iinc 5 (-1), 3) := by decide +kernel
theorem dX7_nextOrder_150 : decode cX7_nextOrder 150 = .ok (.goto (-43), 3) := by decide +kernel
theorem dX7_nextOrder_153 : decode cX7_nextOrder 153 = .ok (.iconst 1, 1) := by decide +kernel
theorem dX7_nextOrder_154 : decode cX7_nextOrder 154 = .ok (.ireturn, 1) := by decide +kernel
theorem dX7_loads_0 : decode cX7_loads 0 = .ok (.aload_n 0, 1) := by decide +kernel
theorem dX7_loads_1 : decode cX7_loads 1 = .ok (.getfield 9, 3) := by decide +kernel
theorem dX7_loads_4 : decode cX7_loads 4 = .ok (.bipush 13, 2) := by decide +kernel
theorem dX7_loads_6 : decode cX7_loads 6 = .ok (.iaload, 1) := by decide +kernel
theorem dX7_loads_7 : decode cX7_loads 7 = .ok (.aload_n 0, 1) := by decide +kernel
theorem dX7_loads_8 : decode cX7_loads 8 = .ok (.getfield 9, 3) := by decide +kernel
theorem dX7_loads_11 : decode cX7_loads 11 = .ok (.bipush 14, 2) := by decide +kernel
theorem dX7_loads_13 : decode cX7_loads 13 = .ok (.iaload, 1) := by decide +kernel
theorem dX7_loads_14 : decode cX7_loads 14 = .ok (.iadd, 1) := by decide +kernel
theorem dX7_loads_15 : decode cX7_loads 15 = .ok (.aload_n 0, 1) := by decide +kernel
theorem dX7_loads_16 : decode cX7_loads 16 = .ok (.getfield 9, 3) := by decide +kernel
theorem dX7_loads_19 : decode cX7_loads 19 = .ok (.bipush 15, 2) := by decide +kernel
theorem dX7_loads_21 : decode cX7_loads 21 = .ok (.iaload, 1) := by decide +kernel
theorem dX7_loads_22 : decode cX7_loads 22 = .ok (.iadd, 1) := by decide +kernel
theorem dX7_loads_23 : decode cX7_loads 23 = .ok (.ireturn, 1) := by decide +kernel
theorem dX7_goesThrough_0 : decode cX7_goesThrough 0 = .ok (.aload_n 0, 1) := by decide +kernel
theorem dX7_goesThrough_1 : decode cX7_goesThrough 1 = .ok (.getfield 9, 3) := by decide +kernel
theorem dX7_goesThrough_4 : decode cX7_goesThrough 4 = .ok (.iconst 0, 1) := by decide +kernel
theorem dX7_goesThrough_5 : decode cX7_goesThrough 5 = .ok (.aload_n 0, 1) := by decide +kernel
theorem dX7_goesThrough_6 : decode cX7_goesThrough 6 = .ok (.getfield 48, 3) := by decide +kernel
theorem dX7_goesThrough_9 : decode cX7_goesThrough 9 = .ok (.iconst 0, 1) := by decide +kernel
theorem dX7_goesThrough_10 : decode cX7_goesThrough 10 = .ok (.sipush 1014, 3) := by decide +kernel
theorem dX7_goesThrough_13 : decode cX7_goesThrough 13 = .ok (.invokestatic 86, 3) := by decide +kernel
theorem dX7_goesThrough_16 : decode cX7_goesThrough 16 = .ok (.iconst 0, 1) := by decide +kernel
theorem dX7_goesThrough_17 : decode cX7_goesThrough 17 = .ok (.istore_n 3, 1) := by decide +kernel
theorem dX7_goesThrough_18 : decode cX7_goesThrough 18 = .ok (.iload_n 3, 1) := by decide +kernel
theorem dX7_goesThrough_19 : decode cX7_goesThrough 19 = .ok (.sipush 1000, 3) := by decide +kernel
theorem dX7_goesThrough_22 : decode cX7_goesThrough 22 = .ok (.if_icmp .ge 16, 3) := by decide +kernel
theorem dX7_goesThrough_25 : decode cX7_goesThrough 25 = .ok (.aload_n 0, 1) := by decide +kernel
theorem dX7_goesThrough_26 : decode cX7_goesThrough 26 = .ok (.getfield 60, 3) := by decide +kernel
theorem dX7_goesThrough_29 : decode cX7_goesThrough 29 = .ok (.iload_n 3, 1) := by decide +kernel
theorem dX7_goesThrough_30 : decode cX7_goesThrough 30 = .ok (.iconst 0, 1) := by decide +kernel
theorem dX7_goesThrough_31 : decode cX7_goesThrough 31 = .ok (.bastore, 1) := by decide +kernel
theorem dX7_goesThrough_32 : decode cX7_goesThrough 32 = .ok (.iinc 3 1, 3) := by decide +kernel
theorem dX7_goesThrough_35 : decode cX7_goesThrough 35 = .ok (.goto (-17), 3) := by decide +kernel
theorem dX7_goesThrough_38 : decode cX7_goesThrough 38 = .ok (.aload_n 0, 1) := by decide +kernel
theorem dX7_goesThrough_39 : decode cX7_goesThrough 39 = .ok (.iconst 0, 1) := by decide +kernel
theorem dX7_goesThrough_40 : decode cX7_goesThrough 40 = .ok (.putfield 260, 3) := by decide +kernel
theorem dX7_goesThrough_43 : decode cX7_goesThrough 43 = .ok (.aload_n 0, 1) := by decide +kernel
theorem dX7_goesThrough_44 : decode cX7_goesThrough 44 = .ok (.iconst 0, 1) := by decide +kernel
theorem dX7_goesThrough_45 : decode cX7_goesThrough 45 = .ok (.putfield 263, 3) := by decide +kernel
theorem dX7_goesThrough_48 : decode cX7_goesThrough 48 = .ok (.aload_n 0, 1) := by decide +kernel
theorem dX7_goesThrough_49 : decode cX7_goesThrough 49 = .ok (.ldc_w 268, 3) := by decide +kernel
theorem dX7_goesThrough_52 : decode cX7_goesThrough 52 = .ok (.putfield 269, 3) := by decide +kernel
theorem dX7_goesThrough_55 : decode cX7_goesThrough 55 = .ok (.aload_n 0, 1) := by decide +kernel
theorem dX7_goesThrough_56 : decode cX7_goesThrough 56 = .ok (.iconst 0, 1) := by decide +kernel
theorem dX7_goesThrough_57 : decode cX7_goesThrough 57 = .ok (.putfield 272, 3) := by decide +kernel
theorem dX7_goesThrough_60 : decode cX7_goesThrough 60 = .ok (.aload_n 0, 1) := by decide +kernel
theorem dX7_goesThrough_61 : decode cX7_goesThrough 61 = .ok (.iconst 0, 1) := by decide +kernel
theorem dX7_goesThrough_62 : decode cX7_goesThrough 62 = .ok (.putfield 275, 3) := by decide +kernel
theorem dX7_goesThrough_65 : decode cX7_goesThrough 65 = .ok (.aload_n 0, 1) := by decide +kernel
theorem dX7_goesThrough_66 : decode cX7_goesThrough 66 = .ok (.iload_n 1, 1) := by decide +kernel
theorem dX7_goesThrough_67 : decode cX7_goesThrough 67 = .ok (.invokevirtual 278, 3) := by decide +kernel
theorem dX7_goesThrough_70 : decode cX7_goesThrough 70 = .ok (.iconst 1, 1) := by decide +kernel
theorem dX7_goesThrough_71 : decode cX7_goesThrough 71 = .ok (.istore_n 3, 1) := by decide +kernel
theorem dX7_goesThrough_72 : decode cX7_goesThrough 72 = .ok (.iload_n 3, 1) := by decide +kernel
theorem dX7_goesThrough_73 : decode cX7_goesThrough 73 = .ok (.ifCond .eq 126, 3) := by decide +kernel
theorem dX7_goesThrough_76 : decode cX7_goesThrough 76 = .ok (.aload_n 0, 1) := by decide +kernel
theorem dX7_goesThrough_77 : decode cX7_goesThrough 77 = .ok (.getfield 48, 3) := by decide +kernel
theorem dX7_goesThrough_80 : decode cX7_goesThrough 80 = .ok (.iconst 0, 1) := by decide +kernel
theorem dX7_goesThrough_81 : decode cX7_goesThrough 81 = .ok (.aload_n 0, 1) := by decide +kernel
theorem dX7_goesThrough_82 : decode cX7_goesThrough 82 = .ok (.getfield 9, 3) := by decide +kernel
theorem dX7_goesThrough_85 : decode cX7_goesThrough 85 = .ok (.iconst 0, 1) := by decide +kernel
theorem dX7_goesThrough_86 : decode cX7_goesThrough 86 = .ok (.sipush 1014, 3) := by decide +kernel
theorem dX7_goesThrough_89 : decode cX7_goesThrough 89 = .ok (.invokestatic 86, 3) := by decide +kernel
theorem dX7_goesThrough_92 : decode cX7_goesThrough 92 = .ok (.aload_n 0, 1) := by decide +kernel
theorem dX7_goesThrough_93 : decode cX7_goesThrough 93 = .ok (.invokevirtual 281, 3) := by decide +kernel
theorem dX7_goesThrough_96 : decode cX7_goesThrough 96 = .ok (.istore 4, 2) := by decide +kernel
theorem dX7_goesThrough_98 : decode cX7_goesThrough 98 = .ok (.iconst 0, 1) := by decide +kernel
theorem dX7_goesThrough_99 : decode cX7_goesThrough 99 = .ok (.istore 5, 2) := by decide +kernel
theorem dX7_goesThrough_101 : decode cX7_goesThrough 101 = .ok (.iload 5, 2) := by decide +kernel
theorem dX7_goesThrough_103 : decode cX7_goesThrough 103 = .ok (.bipush 6, 2) := by decide +kernel
theorem dX7_goesThrough_105 : decode cX7_goesThrough 105 = .ok (.if_icmp .ge 17, 3) := by decide +kernel
theorem dX7_goesThrough_108 : decode cX7_goesThrough 108 = .ok (.aload_n 0, 1) := by decide +kernel
theorem dX7_goesThrough_109 : decode cX7_goesThrough 109 = .ok (.getfield 57, 3) := by decide +kernel
theorem dX7_goesThrough_112 : decode cX7_goesThrough 112 = .ok (.iload 5, 2) := by decide +kernel
theorem dX7_goesThrough_114 : decode cX7_goesThrough 114 = .ok (.iconst 0, 1) := by decide +kernel
theorem dX7_goesThrough_115 : decode cX7_goesThrough 115 = .ok (.iastore, 1) := by decide +kernel
theorem dX7_goesThrough_116 : decode cX7_goesThrough 116 = .ok (.iinc 5 1, 3) := by decide +kernel
theorem dX7_goesThrough_119 : decode cX7_goesThrough 119 = .ok (.goto (-18), 3) := by decide +kernel
theorem dX7_goesThrough_122 : decode cX7_goesThrough 122 = .ok (.iconst 0, 1) := by decide +kernel
theorem dX7_goesThrough_123 : decode cX7_goesThrough 123 = .ok (.istore 5, 2) := by decide +kernel
theorem dX7_goesThrough_125 : decode cX7_goesThrough 125 = .ok (.iload 5, 2) := by decide +kernel
theorem dX7_goesThrough_127 : decode cX7_goesThrough 127 = .ok (.aload_n 0, 1) := by decide +kernel
theorem dX7_goesThrough_128 : decode cX7_goesThrough 128 = .ok (.getfield 257, 3) := by decide +kernel
theorem dX7_goesThrough_131 : decode cX7_goesThrough 131 = .ok (.if_icmp .ge 48, 3) := by decide +kernel
theorem dX7_goesThrough_134 : decode cX7_goesThrough 134 = .ok (.aload_n 0, 1) := by decide +kernel
theorem dX7_goesThrough_135 : decode cX7_goesThrough 135 = .ok (.aload_n 0, 1) := by decide +kernel
theorem dX7_goesThrough_136 : decode cX7_goesThrough 136 = .ok (.getfield 51, 3) := by decide +kernel
theorem dX7_goesThrough_139 : decode cX7_goesThrough 139 = .ok (.iload 5, 2) := by decide +kernel
theorem dX7_goesThrough_141 : decode cX7_goesThrough 141 = .ok (.iaload, 1) := by decide +kernel
theorem dX7_goesThrough_142 : decode cX7_goesThrough 142 = .ok (.aload_n 0, 1) := by decide +kernel
theorem dX7_goesThrough_143 : decode cX7_goesThrough 143 = .ok (.getfield 57, 3) := by decide +kernel
theorem dX7_goesThrough_146 : decode cX7_goesThrough 146 = .ok (.aload_n 0, 1) := by decide +kernel
theorem dX7_goesThrough_147 : decode cX7_goesThrough 147 = .ok (.getfield 51, 3) := by decide +kernel
theorem dX7_goesThrough_150 : decode cX7_goesThrough 150 = .ok (.iload 5, 2) := by decide +kernel
theorem dX7_goesThrough_152 : decode cX7_goesThrough 152 = .ok (.iaload, 1) := by decide +kernel
theorem dX7_goesThrough_153 : decode cX7_goesThrough 153 = .ok (.iaload, 1) := by decide +kernel
theorem dX7_goesThrough_154 : decode cX7_goesThrough 154 = .ok (.invokevirtual 285, 3) := by decide +kernel
theorem dX7_goesThrough_157 : decode cX7_goesThrough 157 = .ok (.aload_n 0, 1) := by decide +kernel
theorem dX7_goesThrough_158 : decode cX7_goesThrough 158 = .ok (.getfield 57, 3) := by decide +kernel
theorem dX7_goesThrough_161 : decode cX7_goesThrough 161 = .ok (.aload_n 0, 1) := by decide +kernel
theorem dX7_goesThrough_162 : decode cX7_goesThrough 162 = .ok (.getfield 51, 3) := by decide +kernel
theorem dX7_goesThrough_165 : decode cX7_goesThrough 165 = .ok (.iload 5, 2) := by decide +kernel
theorem dX7_goesThrough_167 : decode cX7_goesThrough 167 = .ok (.iaload, 1) := by decide +kernel
theorem dX7_goesThrough_168 : decode cX7_goesThrough 168 = .ok (.dup2, 1) := by decide +kernel
theorem dX7_goesThrough_169 : decode cX7_goesThrough 169 = .ok (.iaload, 1) := by decide +kernel
theorem dX7_goesThrough_170 : decode cX7_goesThrough 170 = .ok (.iconst 1, 1) := by decide +kernel
theorem dX7_goesThrough_171 : decode cX7_goesThrough 171 = .ok (.iadd, 1) := by decide +kernel
theorem dX7_goesThrough_172 : decode cX7_goesThrough 172 = .ok (.iastore, 1) := by decide +kernel
theorem dX7_goesThrough_173 : decode cX7_goesThrough 173 = .ok (.iinc 5 1, 3) := by decide +kernel
theorem dX7_goesThrough_176 : decode cX7_goesThrough 176 = .ok (.goto (-51), 3) := by decide +kernel
theorem dX7_goesThrough_179 : decode cX7_goesThrough 179 = .ok (.aload_n 0, 1) := by decide +kernel
theorem dX7_goesThrough_180 : decode cX7_goesThrough 180 = .ok (.iload_n 2, 1) := by decide +kernel
theorem dX7_goesThrough_181 : decode cX7_goesThrough 181 = .ok (.aload_n 0, 1) := by decide +kernel
theorem dX7_goesThrough_182 : decode cX7_goesThrough 182 = .ok (.invokevirtual 281, 3) := by decide +kernel
theorem dX7_goesThrough_185 : decode cX7_goesThrough 185 = .ok (.iload 4, 2) := by decide +kernel
theorem dX7_goesThrough_187 : decode cX7_goesThrough 187 = .ok (.isub, 1) := by decide +kernel
theorem dX7_goesThrough_188 : decode cX7_goesThrough 188 = .ok (.invokevirtual 288, 3) := by decide +kernel
theorem dX7_goesThrough_191 : decode cX7_goesThrough 191 = .ok (.aload_n 0, 1) := by decide +kernel
theorem dX7_goesThrough_192 : decode cX7_goesThrough 192 = .ok (.invokevirtual 291, 3) := by decide +kernel
theorem dX7_goesThrough_195 : decode cX7_goesThrough 195 = .ok (.istore_n 3, 1) := by decide +kernel
theorem dX7_goesThrough_196 : decode cX7_goesThrough 196 = .ok (.goto (-124), 3) := by decide +kernel
theorem dX7_goesThrough_199 : decode cX7_goesThrough 199 = .ok (.aload_n 0, 1) := by decide +kernel
theorem dX7_goesThrough_200 : decode cX7_goesThrough 200 = .ok (.getfield 48, 3) := by decide +kernel
theorem dX7_goesThrough_203 : decode cX7_goesThrough 203 = .ok (.iconst 0, 1) := by decide +kernel
theorem dX7_goesThrough_204 : decode cX7_goesThrough 204 = .ok (.aload_n 0, 1) := by decide +kernel
theorem dX7_goesThrough_205 : decode cX7_goesThrough 205 = .ok (.getfield 9, 3) := by decide +kernel
theorem dX7_goesThrough_208 : decode cX7_goesThrough 208 = .ok (.iconst 0, 1) := by decide +kernel
theorem dX7_goesThrough_209 : decode cX7_goesThrough 209 = .ok (.sipush 1014, 3) := by decide +kernel
theorem dX7_goesThrough_212 : decode cX7_goesThrough 212 = .ok (.invokestatic 86, 3) := by decide +kernel
theorem dX7_goesThrough_215 : decode cX7_goesThrough 215 = .ok (.return_, 1) := by decide +kernel
theorem dX7_judges_0 : decode cX7_judges 0 = .ok (.aload_n 0, 1) := by decide +kernel
theorem dX7_judges_1 : decode cX7_judges 1 = .ok (.dup, 1) := by decide +kernel
theorem dX7_judges_2 : decode cX7_judges 2 = .ok (.getfield 260, 3) := by decide +kernel
theorem dX7_judges_5 : decode cX7_judges 5 = .ok (.iconst 1, 1) := by decide +kernel
theorem dX7_judges_6 : decode cX7_judges 6 = .ok (.iadd, 1) := by decide +kernel
theorem dX7_judges_7 : decode cX7_judges 7 = .ok (.putfield 260, 3) := by decide +kernel
theorem dX7_judges_10 : decode cX7_judges 10 = .ok (.iconst 0, 1) := by decide +kernel
theorem dX7_judges_11 : decode cX7_judges 11 = .ok (.istore_n 3, 1) := by decide +kernel
theorem dX7_judges_12 : decode cX7_judges 12 = .ok (.iconst 0, 1) := by decide +kernel
theorem dX7_judges_13 : decode cX7_judges 13 = .ok (.istore 4, 2) := by decide +kernel
theorem dX7_judges_15 : decode cX7_judges 15 = .ok (.iload 4, 2) := by decide +kernel
theorem dX7_judges_17 : decode cX7_judges 17 = .ok (.bipush 6, 2) := by decide +kernel
theorem dX7_judges_19 : decode cX7_judges 19 = .ok (.if_icmp .ge 28, 3) := by decide +kernel
theorem dX7_judges_22 : decode cX7_judges 22 = .ok (.iload_n 3, 1) := by decide +kernel
theorem dX7_judges_23 : decode cX7_judges 23 = .ok (.ifCond .ne 12, 3) := by decide +kernel
theorem dX7_judges_26 : decode cX7_judges 26 = .ok (.aload_n 0, 1) := by decide +kernel
theorem dX7_judges_27 : decode cX7_judges 27 = .ok (.iload 4, 2) := by decide +kernel
theorem dX7_judges_29 : decode cX7_judges 29 = .ok (.invokevirtual 294, 3) := by decide +kernel
theorem dX7_judges_32 : decode cX7_judges 32 = .ok (.ifCond .eq 7, 3) := by decide +kernel
theorem dX7_judges_35 : decode cX7_judges 35 = .ok (.iconst 1, 1) := by decide +kernel
theorem dX7_judges_36 : decode cX7_judges 36 = .ok (.goto 4, 3) := by decide +kernel
theorem dX7_judges_39 : decode cX7_judges 39 = .ok (.iconst 0, 1) := by decide +kernel
theorem dX7_judges_40 : decode cX7_judges 40 = .ok (.istore_n 3, 1) := by decide +kernel
theorem dX7_judges_41 : decode cX7_judges 41 = .ok (.iinc 4 1, 3) := by decide +kernel
theorem dX7_judges_44 : decode cX7_judges 44 = .ok (.goto (-29), 3) := by decide +kernel
theorem dX7_judges_47 : decode cX7_judges 47 = .ok (.iload_n 3, 1) := by decide +kernel
theorem dX7_judges_48 : decode cX7_judges 48 = .ok (.ifCond .eq 38, 3) := by decide +kernel
theorem dX7_judges_51 : decode cX7_judges 51 = .ok (.aload_n 0, 1) := by decide +kernel
theorem dX7_judges_52 : decode cX7_judges 52 = .ok (.dup, 1) := by decide +kernel
theorem dX7_judges_53 : decode cX7_judges 53 = .ok (.getfield 263, 3) := by decide +kernel
theorem dX7_judges_56 : decode cX7_judges 56 = .ok (.iconst 1, 1) := by decide +kernel
theorem dX7_judges_57 : decode cX7_judges 57 = .ok (.iadd, 1) := by decide +kernel
theorem dX7_judges_58 : decode cX7_judges 58 = .ok (.putfield 263, 3) := by decide +kernel
theorem dX7_judges_61 : decode cX7_judges 61 = .ok (.aload_n 0, 1) := by decide +kernel
theorem dX7_judges_62 : decode cX7_judges 62 = .ok (.getfield 263, 3) := by decide +kernel
theorem dX7_judges_65 : decode cX7_judges 65 = .ok (.iconst 1, 1) := by decide +kernel
theorem dX7_judges_66 : decode cX7_judges 66 = .ok (.if_icmp .ne 20, 3) := by decide +kernel
theorem dX7_judges_69 : decode cX7_judges 69 = .ok (.aload_n 0, 1) := by decide +kernel
theorem dX7_judges_70 : decode cX7_judges 70 = .ok (.getfield 51, 3) := by decide +kernel
theorem dX7_judges_73 : decode cX7_judges 73 = .ok (.iconst 0, 1) := by decide +kernel
theorem dX7_judges_74 : decode cX7_judges 74 = .ok (.aload_n 0, 1) := by decide +kernel
theorem dX7_judges_75 : decode cX7_judges 75 = .ok (.getfield 54, 3) := by decide +kernel
theorem dX7_judges_78 : decode cX7_judges 78 = .ok (.iconst 0, 1) := by decide +kernel
theorem dX7_judges_79 : decode cX7_judges 79 = .ok (.aload_n 0, 1) := by decide +kernel
theorem dX7_judges_80 : decode cX7_judges 80 = .ok (.getfield 257, 3) := by decide +kernel
theorem dX7_judges_83 : decode cX7_judges 83 = .ok (.invokestatic 86, 3) := by decide +kernel
theorem dX7_judges_86 : decode cX7_judges 86 = .ok (.aload_n 0, 1) := by decide +kernel
theorem dX7_judges_87 : decode cX7_judges 87 = .ok (.aload_n 0, 1) := by decide +kernel
theorem dX7_judges_88 : decode cX7_judges 88 = .ok (.getfield 269, 3) := by decide +kernel
theorem dX7_judges_91 : decode cX7_judges 91 = .ok (.iload_n 2, 1) := by decide +kernel
theorem dX7_judges_92 : decode cX7_judges 92 = .ok (.invokestatic 297, 3) := by decide +kernel
theorem dX7_judges_95 : decode cX7_judges 95 = .ok (.putfield 269, 3) := by decide +kernel
theorem dX7_judges_98 : decode cX7_judges 98 = .ok (.aload_n 0, 1) := by decide +kernel
theorem dX7_judges_99 : decode cX7_judges 99 = .ok (.aload_n 0, 1) := by decide +kernel
theorem dX7_judges_100 : decode cX7_judges 100 = .ok (.getfield 272, 3) := by decide +kernel
theorem dX7_judges_103 : decode cX7_judges 103 = .ok (.iload_n 2, 1) := by decide +kernel
theorem dX7_judges_104 : decode cX7_judges 104 = .ok (.invokestatic 302, 3) := by decide +kernel
theorem dX7_judges_107 : decode cX7_judges 107 = .ok (.putfield 272, 3) := by decide +kernel
theorem dX7_judges_110 : decode cX7_judges 110 = .ok (.iconst 0, 1) := by decide +kernel
theorem dX7_judges_111 : decode cX7_judges 111 = .ok (.iload_n 1, 1) := by decide +kernel
theorem dX7_judges_112 : decode cX7_judges 112 = .ok (.invokestatic 112, 3) := by decide +kernel
theorem dX7_judges_115 : decode cX7_judges 115 = .ok (.istore 4, 2) := by decide +kernel
theorem dX7_judges_117 : decode cX7_judges 117 = .ok (.aload_n 0, 1) := by decide +kernel
theorem dX7_judges_118 : decode cX7_judges 118 = .ok (.iload 4, 2) := by decide +kernel
theorem dX7_judges_120 : decode cX7_judges 120 = .ok (.invokevirtual 115, 3) := by decide +kernel
theorem dX7_judges_123 : decode cX7_judges 123 = .ok (.ifCond .eq 45, 3) := by decide +kernel
theorem dX7_judges_126 : decode cX7_judges 126 = .ok (.aload_n 0, 1) := by decide +kernel
theorem dX7_judges_127 : decode cX7_judges 127 = .ok (.getfield 60, 3) := by decide +kernel
theorem dX7_judges_130 : decode cX7_judges 130 = .ok (.aload_n 0, 1) := by decide +kernel
theorem dX7_judges_131 : decode cX7_judges 131 = .ok (.getfield 9, 3) := by decide +kernel
theorem dX7_judges_134 : decode cX7_judges 134 = .ok (.iload 4, 2) := by decide +kernel
theorem dX7_judges_136 : decode cX7_judges 136 = .ok (.iconst 1, 1) := by decide +kernel
theorem dX7_judges_137 : decode cX7_judges 137 = .ok (.iadd, 1) := by decide +kernel
theorem dX7_judges_138 : decode cX7_judges 138 = .ok (.iaload, 1) := by decide +kernel
theorem dX7_judges_139 : decode cX7_judges 139 = .ok (.baload, 1) := by decide +kernel
theorem dX7_judges_140 : decode cX7_judges 140 = .ok (.ifCond .ne 28, 3) := by decide +kernel
theorem dX7_judges_143 : decode cX7_judges 143 = .ok (.aload_n 0, 1) := by decide +kernel
theorem dX7_judges_144 : decode cX7_judges 144 = .ok (.getfield 60, 3) := by decide +kernel
theorem dX7_judges_147 : decode cX7_judges 147 = .ok (.aload_n 0, 1) := by decide +kernel
theorem dX7_judges_148 : decode cX7_judges 148 = .ok (.getfield 9, 3) := by decide +kernel
theorem dX7_judges_151 : decode cX7_judges 151 = .ok (.iload 4, 2) := by decide +kernel
theorem dX7_judges_153 : decode cX7_judges 153 = .ok (.iconst 1, 1) := by decide +kernel
theorem dX7_judges_154 : decode cX7_judges 154 = .ok (.iadd, 1) := by decide +kernel
theorem dX7_judges_155 : decode cX7_judges 155 = .ok (.iaload, 1) := by decide +kernel
theorem dX7_judges_156 : decode cX7_judges 156 = .ok (.iconst 1, 1) := by decide +kernel
theorem dX7_judges_157 : decode cX7_judges 157 = .ok (.bastore, 1) := by decide +kernel
theorem dX7_judges_158 : decode cX7_judges 158 = .ok (.aload_n 0, 1) := by decide +kernel
theorem dX7_judges_159 : decode cX7_judges 159 = .ok (.dup, 1) := by decide +kernel
theorem dX7_judges_160 : decode cX7_judges 160 = .ok (.getfield 275, 3) := by decide +kernel
theorem dX7_judges_163 : decode cX7_judges 163 = .ok (.iconst 1, 1) := by decide +kernel
theorem dX7_judges_164 : decode cX7_judges 164 = .ok (.iadd, 1) := by decide +kernel
theorem dX7_judges_165 : decode cX7_judges 165 = .ok (.putfield 275, 3) := by decide +kernel
theorem dX7_judges_168 : decode cX7_judges 168 = .ok (.return_, 1) := by decide +kernel
theorem dX7_orders_0 : decode cX7_orders 0 = .ok (.aload_n 0, 1) := by decide +kernel
theorem dX7_orders_1 : decode cX7_orders 1 = .ok (.iload_n 1, 1) := by decide +kernel
theorem dX7_orders_2 : decode cX7_orders 2 = .ok (.invokevirtual 305, 3) := by decide +kernel
theorem dX7_orders_5 : decode cX7_orders 5 = .ok (.istore 4, 2) := by decide +kernel
theorem dX7_orders_7 : decode cX7_orders 7 = .ok (.iload 4, 2) := by decide +kernel
theorem dX7_orders_9 : decode cX7_orders 9 = .ok (.iconst (-1), 1) := by decide +kernel
theorem dX7_orders_10 : decode cX7_orders 10 = .ok (.if_icmp .eq 22, 3) := by decide +kernel
theorem dX7_orders_13 : decode cX7_orders 13 = .ok (.iload_n 2, 1) := by decide +kernel
theorem dX7_orders_14 : decode cX7_orders 14 = .ok (.invokestatic 158, 3) := by decide +kernel
theorem dX7_orders_17 : decode cX7_orders 17 = .ok (.ifCond .eq 15, 3) := by decide +kernel
theorem dX7_orders_20 : decode cX7_orders 20 = .ok (.iload_n 3, 1) := by decide +kernel
theorem dX7_orders_21 : decode cX7_orders 21 = .ok (.i2l, 1) := by decide +kernel
theorem dX7_orders_22 : decode cX7_orders 22 = .ok (.lconst 0, 1) := by decide +kernel
theorem dX7_orders_23 : decode cX7_orders 23 = .ok (.ldc2_w 308, 3) := by decide +kernel
theorem dX7_orders_26 : decode cX7_orders 26 = .ok (.invokestatic 94, 3) := by decide +kernel
theorem dX7_orders_29 : decode cX7_orders 29 = .ok (.ifCond .ne 5, 3) := by decide +kernel
theorem dX7_orders_32 : decode cX7_orders 32 = .ok (.iconst (-1), 1) := by decide +kernel
theorem dX7_orders_33 : decode cX7_orders 33 = .ok (.ireturn, 1) := by decide +kernel
theorem dX7_orders_34 : decode cX7_orders 34 = .ok (.iload 4, 2) := by decide +kernel
theorem dX7_orders_36 : decode cX7_orders 36 = .ok (.bipush (-5), 2) := by decide +kernel
theorem dX7_orders_38 : decode cX7_orders 38 = .ok (.if_icmp .ne 6, 3) := by decide +kernel
theorem dX7_orders_41 : decode cX7_orders 41 = .ok (.bipush (-5), 2) := by decide +kernel
theorem dX7_orders_43 : decode cX7_orders 43 = .ok (.ireturn, 1) := by decide +kernel
theorem dX7_orders_44 : decode cX7_orders 44 = .ok (.aload_n 0, 1) := by decide +kernel
theorem dX7_orders_45 : decode cX7_orders 45 = .ok (.iload 4, 2) := by decide +kernel
theorem dX7_orders_47 : decode cX7_orders 47 = .ok (.putfield 257, 3) := by decide +kernel
theorem dX7_orders_50 : decode cX7_orders 50 = .ok (.aload_n 0, 1) := by decide +kernel
theorem dX7_orders_51 : decode cX7_orders 51 = .ok (.iload_n 1, 1) := by decide +kernel
theorem dX7_orders_52 : decode cX7_orders 52 = .ok (.iload_n 2, 1) := by decide +kernel
theorem dX7_orders_53 : decode cX7_orders 53 = .ok (.invokevirtual 310, 3) := by decide +kernel
theorem dX7_orders_56 : decode cX7_orders 56 = .ok (.iload_n 3, 1) := by decide +kernel
theorem dX7_orders_57 : decode cX7_orders 57 = .ok (.tableswitch 51 0 3 #[31, 36, 41, 46], 31) := by decide +kernel
theorem dX7_orders_88 : decode cX7_orders 88 = .ok (.aload_n 0, 1) := by decide +kernel
theorem dX7_orders_89 : decode cX7_orders 89 = .ok (.getfield 260, 3) := by decide +kernel
theorem dX7_orders_92 : decode cX7_orders 92 = .ok (.ireturn, 1) := by decide +kernel
theorem dX7_orders_93 : decode cX7_orders 93 = .ok (.aload_n 0, 1) := by decide +kernel
theorem dX7_orders_94 : decode cX7_orders 94 = .ok (.getfield 263, 3) := by decide +kernel
theorem dX7_orders_97 : decode cX7_orders 97 = .ok (.ireturn, 1) := by decide +kernel
theorem dX7_orders_98 : decode cX7_orders 98 = .ok (.aload_n 0, 1) := by decide +kernel
theorem dX7_orders_99 : decode cX7_orders 99 = .ok (.getfield 269, 3) := by decide +kernel
theorem dX7_orders_102 : decode cX7_orders 102 = .ok (.ireturn, 1) := by decide +kernel
theorem dX7_orders_103 : decode cX7_orders 103 = .ok (.aload_n 0, 1) := by decide +kernel
theorem dX7_orders_104 : decode cX7_orders 104 = .ok (.getfield 272, 3) := by decide +kernel
theorem dX7_orders_107 : decode cX7_orders 107 = .ok (.ireturn, 1) := by decide +kernel
theorem dX7_orders_108 : decode cX7_orders 108 = .ok (.aload_n 0, 1) := by decide +kernel
theorem dX7_orders_109 : decode cX7_orders 109 = .ok (.getfield 275, 3) := by decide +kernel
theorem dX7_orders_112 : decode cX7_orders 112 = .ok (.ireturn, 1) := by decide +kernel
theorem dX7_witness_0 : decode cX7_witness 0 = .ok (.aload_n 0, 1) := by decide +kernel
theorem dX7_witness_1 : decode cX7_witness 1 = .ok (.iload_n 1, 1) := by decide +kernel
theorem dX7_witness_2 : decode cX7_witness 2 = .ok (.invokevirtual 305, 3) := by decide +kernel
theorem dX7_witness_5 : decode cX7_witness 5 = .ok (.istore_n 3, 1) := by decide +kernel
theorem dX7_witness_6 : decode cX7_witness 6 = .ok (.iload_n 3, 1) := by decide +kernel
theorem dX7_witness_7 : decode cX7_witness 7 = .ok (.iconst (-1), 1) := by decide +kernel
theorem dX7_witness_8 : decode cX7_witness 8 = .ok (.if_icmp .eq 7, 3) := by decide +kernel
theorem dX7_witness_11 : decode cX7_witness 11 = .ok (.iload_n 2, 1) := by decide +kernel
theorem dX7_witness_12 : decode cX7_witness 12 = .ok (.ifCond .ge 5, 3) := by decide +kernel
theorem dX7_witness_15 : decode cX7_witness 15 = .ok (.iconst (-1), 1) := by decide +kernel
theorem dX7_witness_16 : decode cX7_witness 16 = .ok (.ireturn, 1) := by decide +kernel
theorem dX7_witness_17 : decode cX7_witness 17 = .ok (.iload_n 3, 1) := by decide +kernel
theorem dX7_witness_18 : decode cX7_witness 18 = .ok (.bipush (-5), 2) := by decide +kernel
theorem dX7_witness_20 : decode cX7_witness 20 = .ok (.if_icmp .ne 6, 3) := by decide +kernel
theorem dX7_witness_23 : decode cX7_witness 23 = .ok (.bipush (-5), 2) := by decide +kernel
theorem dX7_witness_25 : decode cX7_witness 25 = .ok (.ireturn, 1) := by decide +kernel
theorem dX7_witness_26 : decode cX7_witness 26 = .ok (.aload_n 0, 1) := by decide +kernel
theorem dX7_witness_27 : decode cX7_witness 27 = .ok (.iload_n 3, 1) := by decide +kernel
theorem dX7_witness_28 : decode cX7_witness 28 = .ok (.putfield 257, 3) := by decide +kernel
theorem dX7_witness_31 : decode cX7_witness 31 = .ok (.aload_n 0, 1) := by decide +kernel
theorem dX7_witness_32 : decode cX7_witness 32 = .ok (.iload_n 1, 1) := by decide +kernel
theorem dX7_witness_33 : decode cX7_witness 33 = .ok (.iconst 0, 1) := by decide +kernel
theorem dX7_witness_34 : decode cX7_witness 34 = .ok (.invokevirtual 310, 3) := by decide +kernel
theorem dX7_witness_37 : decode cX7_witness 37 = .ok (.aload_n 0, 1) := by decide +kernel
theorem dX7_witness_38 : decode cX7_witness 38 = .ok (.getfield 263, 3) := by decide +kernel
theorem dX7_witness_41 : decode cX7_witness 41 = .ok (.ifCond .eq 11, 3) := by decide +kernel
theorem dX7_witness_44 : decode cX7_witness 44 = .ok (.iload_n 2, 1) := by decide +kernel
theorem dX7_witness_45 : decode cX7_witness 45 = .ok (.aload_n 0, 1) := by decide +kernel
theorem dX7_witness_46 : decode cX7_witness 46 = .ok (.getfield 257, 3) := by decide +kernel
theorem dX7_witness_49 : decode cX7_witness 49 = .ok (.if_icmp .lt 8, 3) := by decide +kernel
theorem dX7_witness_52 : decode cX7_witness 52 = .ok (.bipush (-2), 2) := by decide +kernel
theorem dX7_witness_54 : decode cX7_witness 54 = .ok (.goto 9, 3) := by decide +kernel
theorem dX7_witness_57 : decode cX7_witness 57 = .ok (.aload_n 0, 1) := by decide +kernel
theorem dX7_witness_58 : decode cX7_witness 58 = .ok (.getfield 54, 3) := by decide +kernel
theorem dX7_witness_61 : decode cX7_witness 61 = .ok (.iload_n 2, 1) := by decide +kernel
theorem dX7_witness_62 : decode cX7_witness 62 = .ok (.iaload, 1) := by decide +kernel
theorem dX7_witness_63 : decode cX7_witness 63 = .ok (.ireturn, 1) := by decide +kernel
theorem dX7_allHave_0 : decode cX7_allHave 0 = .ok (.iconst 0, 1) := by decide +kernel
theorem dX7_allHave_1 : decode cX7_allHave 1 = .ok (.istore_n 2, 1) := by decide +kernel
theorem dX7_allHave_2 : decode cX7_allHave 2 = .ok (.iload_n 2, 1) := by decide +kernel
theorem dX7_allHave_3 : decode cX7_allHave 3 = .ok (.bipush 6, 2) := by decide +kernel
theorem dX7_allHave_5 : decode cX7_allHave 5 = .ok (.if_icmp .ge 29, 3) := by decide +kernel
theorem dX7_allHave_8 : decode cX7_allHave 8 = .ok (.iload_n 1, 1) := by decide +kernel
theorem dX7_allHave_9 : decode cX7_allHave 9 = .ok (.iload_n 2, 1) := by decide +kernel
theorem dX7_allHave_10 : decode cX7_allHave 10 = .ok (.ishr, 1) := by decide +kernel
theorem dX7_allHave_11 : decode cX7_allHave 11 = .ok (.iconst 1, 1) := by decide +kernel
theorem dX7_allHave_12 : decode cX7_allHave 12 = .ok (.iand, 1) := by decide +kernel
theorem dX7_allHave_13 : decode cX7_allHave 13 = .ok (.iconst 1, 1) := by decide +kernel
theorem dX7_allHave_14 : decode cX7_allHave 14 = .ok (.if_icmp .ne 14, 3) := by decide +kernel
theorem dX7_allHave_17 : decode cX7_allHave 17 = .ok (.aload_n 0, 1) := by decide +kernel
theorem dX7_allHave_18 : decode cX7_allHave 18 = .ok (.getfield 64, 3) := by decide +kernel
theorem dX7_allHave_21 : decode cX7_allHave 21 = .ok (.iload_n 2, 1) := by decide +kernel
theorem dX7_allHave_22 : decode cX7_allHave 22 = .ok (.baload, 1) := by decide +kernel
theorem dX7_allHave_23 : decode cX7_allHave 23 = .ok (.ifCond .ne 5, 3) := by decide +kernel
theorem dX7_allHave_26 : decode cX7_allHave 26 = .ok (.iconst 0, 1) := by decide +kernel
theorem dX7_allHave_27 : decode cX7_allHave 27 = .ok (.ireturn, 1) := by decide +kernel
theorem dX7_allHave_28 : decode cX7_allHave 28 = .ok (.iinc 2 1, 3) := by decide +kernel
theorem dX7_allHave_31 : decode cX7_allHave 31 = .ok (.goto (-29), 3) := by decide +kernel
theorem dX7_allHave_34 : decode cX7_allHave 34 = .ok (.iconst 1, 1) := by decide +kernel
theorem dX7_allHave_35 : decode cX7_allHave 35 = .ok (.ireturn, 1) := by decide +kernel
theorem dX7_stormRound_0 : decode cX7_stormRound 0 = .ok (.iconst 0, 1) := by decide +kernel
theorem dX7_stormRound_1 : decode cX7_stormRound 1 = .ok (.istore 4, 2) := by decide +kernel
theorem dX7_stormRound_3 : decode cX7_stormRound 3 = .ok (.iload 4, 2) := by decide +kernel
theorem dX7_stormRound_5 : decode cX7_stormRound 5 = .ok (.bipush 6, 2) := by decide +kernel
theorem dX7_stormRound_7 : decode cX7_stormRound 7 = .ok (.if_icmp .ge 76, 3) := by decide +kernel
theorem dX7_stormRound_10 : decode cX7_stormRound 10 = .ok (.iload_n 1, 1) := by decide +kernel
theorem dX7_stormRound_11 : decode cX7_stormRound 11 = .ok (.iload 4, 2) := by decide +kernel
theorem dX7_stormRound_13 : decode cX7_stormRound 13 = .ok (.ishr, 1) := by decide +kernel
theorem dX7_stormRound_14 : decode cX7_stormRound 14 = .ok (.iconst 1, 1) := by decide +kernel
theorem dX7_stormRound_15 : decode cX7_stormRound 15 = .ok (.iand, 1) := by decide +kernel
theorem dX7_stormRound_16 : decode cX7_stormRound 16 = .ok (.iconst 1, 1) := by decide +kernel
theorem dX7_stormRound_17 : decode cX7_stormRound 17 = .ok (.if_icmp .ne 60, 3) := by decide +kernel
theorem dX7_stormRound_20 : decode cX7_stormRound 20 = .ok (.aload_n 0, 1) := by decide +kernel
theorem dX7_stormRound_21 : decode cX7_stormRound 21 = .ok (.getfield 64, 3) := by decide +kernel
theorem dX7_stormRound_24 : decode cX7_stormRound 24 = .ok (.iload 4, 2) := by decide +kernel
theorem dX7_stormRound_26 : decode cX7_stormRound 26 = .ok (.baload, 1) := by decide +kernel
theorem dX7_stormRound_27 : decode cX7_stormRound 27 = .ok (.ifCond .ne 50, 3) := by decide +kernel
theorem dX7_stormRound_30 : decode cX7_stormRound 30 = .ok (.aload_n 0, 1) := by decide +kernel
theorem dX7_stormRound_31 : decode cX7_stormRound 31 = .ok (.iload 4, 2) := by decide +kernel
theorem dX7_stormRound_33 : decode cX7_stormRound 33 = .ok (.iload_n 2, 1) := by decide +kernel
theorem dX7_stormRound_34 : decode cX7_stormRound 34 = .ok (.invokevirtual 161, 3) := by decide +kernel
theorem dX7_stormRound_37 : decode cX7_stormRound 37 = .ok (.istore 5, 2) := by decide +kernel
theorem dX7_stormRound_39 : decode cX7_stormRound 39 = .ok (.aload_n 0, 1) := by decide +kernel
theorem dX7_stormRound_40 : decode cX7_stormRound 40 = .ok (.getfield 64, 3) := by decide +kernel
theorem dX7_stormRound_43 : decode cX7_stormRound 43 = .ok (.iload 4, 2) := by decide +kernel
theorem dX7_stormRound_45 : decode cX7_stormRound 45 = .ok (.iload 5, 2) := by decide +kernel
theorem dX7_stormRound_47 : decode cX7_stormRound 47 = .ok (.i2l, 1) := by decide +kernel
theorem dX7_stormRound_48 : decode cX7_stormRound 48 = .ok (.lconst 0, 1) := by decide +kernel
theorem dX7_stormRound_49 : decode cX7_stormRound 49 = .ok (.ldc2_w 173, 3) := by decide +kernel
theorem dX7_stormRound_52 : decode cX7_stormRound 52 = .ok (.invokestatic 94, 3) := by decide +kernel
theorem dX7_stormRound_55 : decode cX7_stormRound 55 = .ok (.ifCond .ne 16, 3) := by decide +kernel
theorem dX7_stormRound_58 : decode cX7_stormRound 58 = .ok (.iload_n 3, 1) := by decide +kernel
theorem dX7_stormRound_59 : decode cX7_stormRound 59 = .ok (.iconst 1, 1) := by decide +kernel
theorem dX7_stormRound_60 : decode cX7_stormRound 60 = .ok (.if_icmp .ne 15, 3) := by decide +kernel
theorem dX7_stormRound_63 : decode cX7_stormRound 63 = .ok (.iload 5, 2) := by decide +kernel
theorem dX7_stormRound_65 : decode cX7_stormRound 65 = .ok (.sipush 1000, 3) := by decide +kernel
theorem dX7_stormRound_68 : decode cX7_stormRound 68 = .ok (.if_icmp .lt 7, 3) := by decide +kernel
theorem dX7_stormRound_71 : decode cX7_stormRound 71 = .ok (.iconst 1, 1) := by decide +kernel
theorem dX7_stormRound_72 : decode cX7_stormRound 72 = .ok (.goto 4, 3) := by decide +kernel
theorem dX7_stormRound_75 : decode cX7_stormRound 75 = .ok (.iconst 0, 1) := by decide +kernel
theorem dX7_stormRound_76 : decode cX7_stormRound 76 = .ok (.bastore, 1) := by decide +kernel
theorem dX7_stormRound_77 : decode cX7_stormRound 77 = .ok (.iinc 4 1, 3) := by decide +kernel
theorem dX7_stormRound_80 : decode cX7_stormRound 80 = .ok (.goto (-77), 3) := by decide +kernel
theorem dX7_stormRound_83 : decode cX7_stormRound 83 = .ok (.iconst 0, 1) := by decide +kernel
theorem dX7_stormRound_84 : decode cX7_stormRound 84 = .ok (.istore 4, 2) := by decide +kernel
theorem dX7_stormRound_86 : decode cX7_stormRound 86 = .ok (.iload 4, 2) := by decide +kernel
theorem dX7_stormRound_88 : decode cX7_stormRound 88 = .ok (.bipush 6, 2) := by decide +kernel
theorem dX7_stormRound_90 : decode cX7_stormRound 90 = .ok (.if_icmp .ge 74, 3) := by decide +kernel
theorem dX7_stormRound_93 : decode cX7_stormRound 93 = .ok (.aload_n 0, 1) := by decide +kernel
theorem dX7_stormRound_94 : decode cX7_stormRound 94 = .ok (.getfield 67, 3) := by decide +kernel
theorem dX7_stormRound_97 : decode cX7_stormRound 97 = .ok (.iload 4, 2) := by decide +kernel
theorem dX7_stormRound_99 : decode cX7_stormRound 99 = .ok (.iload_n 1, 1) := by decide +kernel
theorem dX7_stormRound_100 : decode cX7_stormRound 100 = .ok (.iload 4, 2) := by decide +kernel
theorem dX7_stormRound_102 : decode cX7_stormRound 102 = .ok (.ishr, 1) := by decide +kernel
theorem dX7_stormRound_103 : decode cX7_stormRound 103 = .ok (.iconst 1, 1) := by decide +kernel
theorem dX7_stormRound_104 : decode cX7_stormRound 104 = .ok (.iand, 1) := by decide +kernel
theorem dX7_stormRound_105 : decode cX7_stormRound 105 = .ok (.iconst 1, 1) := by decide +kernel
theorem dX7_stormRound_106 : decode cX7_stormRound 106 = .ok (.if_icmp .ne 33, 3) := by decide +kernel
theorem dX7_stormRound_109 : decode cX7_stormRound 109 = .ok (.aload_n 0, 1) := by decide +kernel
theorem dX7_stormRound_110 : decode cX7_stormRound 110 = .ok (.getfield 64, 3) := by decide +kernel
theorem dX7_stormRound_113 : decode cX7_stormRound 113 = .ok (.iload 4, 2) := by decide +kernel
theorem dX7_stormRound_115 : decode cX7_stormRound 115 = .ok (.baload, 1) := by decide +kernel
theorem dX7_stormRound_116 : decode cX7_stormRound 116 = .ok (.ifCond .ne 23, 3) := by decide +kernel
theorem dX7_stormRound_119 : decode cX7_stormRound 119 = .ok (.aload_n 0, 1) := by decide +kernel
theorem dX7_stormRound_120 : decode cX7_stormRound 120 = .ok (.getfield 9, 3) := by decide +kernel
theorem dX7_stormRound_123 : decode cX7_stormRound 123 = .ok (.iload 4, 2) := by decide +kernel
theorem dX7_stormRound_125 : decode cX7_stormRound 125 = .ok (.invokestatic 82, 3) := by decide +kernel

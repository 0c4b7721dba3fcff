theorem dX2_init_0 : decode cX2_init 0 = .ok (.aload_n 0, 1) := by decide +kernel
theorem dX2_init_1 : decode cX2_init 1 = .ok (.invokespecial 3, 3) := by decide +kernel
theorem dX2_init_4 : decode cX2_init 4 = .ok (.aload_n 0, 1) := by decide +kernel
theorem dX2_init_5 : decode cX2_init 5 = .ok (.iconst 5, 1) := by decide +kernel
theorem dX2_init_6 : decode cX2_init 6 = .ok (.newarray .int, 2) := by decide +kernel
theorem dX2_init_8 : decode cX2_init 8 = .ok (.putfield 9, 3) := by decide +kernel
theorem dX2_init_11 : decode cX2_init 11 = .ok (.aload_n 0, 1) := by decide +kernel
theorem dX2_init_12 : decode cX2_init 12 = .ok (.iconst 5, 1) := by decide +kernel
theorem dX2_init_13 : decode cX2_init 13 = .ok (.newarray .int, 2) := by decide +kernel
theorem dX2_init_15 : decode cX2_init 15 = .ok (.putfield 15, 3) := by decide +kernel
theorem dX2_init_18 : decode cX2_init 18 = .ok (.aload_n 0, 1) := by decide +kernel
theorem dX2_init_19 : decode cX2_init 19 = .ok (.iconst 5, 1) := by decide +kernel
theorem dX2_init_20 : decode cX2_init 20 = .ok (.newarray .int, 2) := by decide +kernel
theorem dX2_init_22 : decode cX2_init 22 = .ok (.putfield 18, 3) := by decide +kernel
theorem dX2_init_25 : decode cX2_init 25 = .ok (.return_, 1) := by decide +kernel
theorem dX2_add_0 : decode cX2_add 0 = .ok (.aload_n 0, 1) := by decide +kernel
theorem dX2_add_1 : decode cX2_add 1 = .ok (.getfield 21, 3) := by decide +kernel
theorem dX2_add_4 : decode cX2_add 4 = .ok (.iconst 5, 1) := by decide +kernel
theorem dX2_add_5 : decode cX2_add 5 = .ok (.if_icmp .ge 43, 3) := by decide +kernel
theorem dX2_add_8 : decode cX2_add 8 = .ok (.aload_n 0, 1) := by decide +kernel
theorem dX2_add_9 : decode cX2_add 9 = .ok (.getfield 9, 3) := by decide +kernel
theorem dX2_add_12 : decode cX2_add 12 = .ok (.aload_n 0, 1) := by decide +kernel
theorem dX2_add_13 : decode cX2_add 13 = .ok (.getfield 21, 3) := by decide +kernel
theorem dX2_add_16 : decode cX2_add 16 = .ok (.iload_n 1, 1) := by decide +kernel
theorem dX2_add_17 : decode cX2_add 17 = .ok (.iastore, 1) := by decide +kernel
theorem dX2_add_18 : decode cX2_add 18 = .ok (.aload_n 0, 1) := by decide +kernel
theorem dX2_add_19 : decode cX2_add 19 = .ok (.getfield 15, 3) := by decide +kernel
theorem dX2_add_22 : decode cX2_add 22 = .ok (.aload_n 0, 1) := by decide +kernel
theorem dX2_add_23 : decode cX2_add 23 = .ok (.getfield 21, 3) := by decide +kernel
theorem dX2_add_26 : decode cX2_add 26 = .ok (.iload_n 2, 1) := by decide +kernel
theorem dX2_add_27 : decode cX2_add 27 = .ok (.iastore, 1) := by decide +kernel
theorem dX2_add_28 : decode cX2_add 28 = .ok (.aload_n 0, 1) := by decide +kernel
theorem dX2_add_29 : decode cX2_add 29 = .ok (.getfield 18, 3) := by decide +kernel
theorem dX2_add_32 : decode cX2_add 32 = .ok (.aload_n 0, 1) := by decide +kernel
theorem dX2_add_33 : decode cX2_add 33 = .ok (.getfield 21, 3) := by decide +kernel
theorem dX2_add_36 : decode cX2_add 36 = .ok (.iload_n 3, 1) := by decide +kernel
theorem dX2_add_37 : decode cX2_add 37 = .ok (.iastore, 1) := by decide +kernel
theorem dX2_add_38 : decode cX2_add 38 = .ok (.aload_n 0, 1) := by decide +kernel
theorem dX2_add_39 : decode cX2_add 39 = .ok (.dup, 1) := by decide +kernel
theorem dX2_add_40 : decode cX2_add 40 = .ok (.getfield 21, 3) := by decide +kernel
theorem dX2_add_43 : decode cX2_add 43 = .ok (.iconst 1, 1) := by decide +kernel
theorem dX2_add_44 : decode cX2_add 44 = .ok (.iadd, 1) := by decide +kernel
theorem dX2_add_45 : decode cX2_add 45 = .ok (.putfield 21, 3) := by decide +kernel
theorem dX2_add_48 : decode cX2_add 48 = .ok (.return_, 1) := by decide +kernel
theorem dX2_perform_0 : decode cX2_perform 0 = .ok (.iload_n 1, 1) := by decide +kernel
theorem dX2_perform_1 : decode cX2_perform 1 = .ok (.ifCond .lt 11, 3) := by decide +kernel
theorem dX2_perform_4 : decode cX2_perform 4 = .ok (.iload_n 1, 1) := by decide +kernel
theorem dX2_perform_5 : decode cX2_perform 5 = .ok (.aload_n 0, 1) := by decide +kernel
theorem dX2_perform_6 : decode cX2_perform 6 = .ok (.getfield 21, 3) := by decide +kernel
theorem dX2_perform_9 : decode cX2_perform 9 = .ok (.if_icmp .lt 4, 3) := by decide +kernel
theorem dX2_perform_12 : decode cX2_perform 12 = .ok (.return_, 1) := by decide +kernel
theorem dX2_perform_13 : decode cX2_perform 13 = .ok (.aload_n 0, 1) := by decide +kernel
theorem dX2_perform_14 : decode cX2_perform 14 = .ok (.getfield 9, 3) := by decide +kernel
theorem dX2_perform_17 : decode cX2_perform 17 = .ok (.iload_n 1, 1) := by decide +kernel
theorem dX2_perform_18 : decode cX2_perform 18 = .ok (.iaload, 1) := by decide +kernel
theorem dX2_perform_19 : decode cX2_perform 19 = .ok (.tableswitch 138 0 6 #[41, 56, 65, 74, 95, 109, 123], 41) := by decide +kernel
theorem dX2_perform_60 : decode cX2_perform 60 = .ok (.aload_n 3, 1) := by decide +kernel
theorem dX2_perform_61 : decode cX2_perform 61 = .ok (.iload_n 2, 1) := by decide +kernel
theorem dX2_perform_62 : decode cX2_perform 62 = .ok (.aload_n 0, 1) := by decide +kernel
theorem dX2_perform_63 : decode cX2_perform 63 = .ok (.getfield 15, 3) := by decide +kernel
theorem dX2_perform_66 : decode cX2_perform 66 = .ok (.iload_n 1, 1) := by decide +kernel
theorem dX2_perform_67 : decode cX2_perform 67 = .ok (.iaload, 1) := by decide +kernel
theorem dX2_perform_68 : decode cX2_perform 68 = .ok (.invokevirtual 25, 3) := by decide +kernel
theorem dX2_perform_71 : decode cX2_perform 71 = .ok (.pop, 1) := by decide +kernel
theorem dX2_perform_72 : decode cX2_perform 72 = .ok (.goto 97, 3) := by decide +kernel
theorem dX2_perform_75 : decode cX2_perform 75 = .ok (.aload_n 3, 1) := by decide +kernel
theorem dX2_perform_76 : decode cX2_perform 76 = .ok (.iload_n 2, 1) := by decide +kernel
theorem dX2_perform_77 : decode cX2_perform 77 = .ok (.invokevirtual 31, 3) := by decide +kernel
theorem dX2_perform_80 : decode cX2_perform 80 = .ok (.pop, 1) := by decide +kernel
theorem dX2_perform_81 : decode cX2_perform 81 = .ok (.goto 88, 3) := by decide +kernel
theorem dX2_perform_84 : decode cX2_perform 84 = .ok (.aload_n 3, 1) := by decide +kernel
theorem dX2_perform_85 : decode cX2_perform 85 = .ok (.iload_n 2, 1) := by decide +kernel
theorem dX2_perform_86 : decode cX2_perform 86 = .ok (.invokevirtual 35, 3) := by decide +kernel
theorem dX2_perform_89 : decode cX2_perform 89 = .ok (.pop, 1) := by decide +kernel
theorem dX2_perform_90 : decode cX2_perform 90 = .ok (.goto 79, 3) := by decide +kernel
theorem dX2_perform_93 : decode cX2_perform 93 = .ok (.aload_n 3, 1) := by decide +kernel
theorem dX2_perform_94 : decode cX2_perform 94 = .ok (.iload_n 2, 1) := by decide +kernel
theorem dX2_perform_95 : decode cX2_perform 95 = .ok (.aload_n 0, 1) := by decide +kernel
theorem dX2_perform_96 : decode cX2_perform 96 = .ok (.getfield 15, 3) := by decide +kernel
theorem dX2_perform_99 : decode cX2_perform 99 = .ok (.iload_n 1, 1) := by decide +kernel
theorem dX2_perform_100 : decode cX2_perform 100 = .ok (.iaload, 1) := by decide +kernel
theorem dX2_perform_101 : decode cX2_perform 101 = .ok (.aload_n 0, 1) := by decide +kernel
theorem dX2_perform_102 : decode cX2_perform 102 = .ok (.getfield 18, 3) := by decide +kernel
theorem dX2_perform_105 : decode cX2_perform 105 = .ok (.iload_n 1, 1) := by decide +kernel
theorem dX2_perform_106 : decode cX2_perform 106 = .ok (.iaload, 1) := by decide +kernel
theorem dX2_perform_107 : decode cX2_perform 107 = .ok (.invokevirtual 38, 3) := by decide +kernel
theorem dX2_perform_110 : decode cX2_perform 110 = .ok (.pop, 1) := by decide +kernel
theorem dX2_perform_111 : decode cX2_perform 111 = .ok (.goto 58, 3) := by decide +kernel
theorem dX2_perform_114 : decode cX2_perform 114 = .ok (.aload_n 3, 1) := by decide +kernel
theorem dX2_perform_115 : decode cX2_perform 115 = .ok (.aload_n 0, 1) := by decide +kernel
theorem dX2_perform_116 : decode cX2_perform 116 = .ok (.getfield 15, 3) := by decide +kernel
theorem dX2_perform_119 : decode cX2_perform 119 = .ok (.iload_n 1, 1) := by decide +kernel
theorem dX2_perform_120 : decode cX2_perform 120 = .ok (.iaload, 1) := by decide +kernel
theorem dX2_perform_121 : decode cX2_perform 121 = .ok (.invokevirtual 42, 3) := by decide +kernel
theorem dX2_perform_124 : decode cX2_perform 124 = .ok (.pop, 1) := by decide +kernel
theorem dX2_perform_125 : decode cX2_perform 125 = .ok (.goto 44, 3) := by decide +kernel
theorem dX2_perform_128 : decode cX2_perform 128 = .ok (.aload_n 3, 1) := by decide +kernel
theorem dX2_perform_129 : decode cX2_perform 129 = .ok (.aload_n 0, 1) := by decide +kernel
theorem dX2_perform_130 : decode cX2_perform 130 = .ok (.getfield 15, 3) := by decide +kernel
theorem dX2_perform_133 : decode cX2_perform 133 = .ok (.iload_n 1, 1) := by decide +kernel
theorem dX2_perform_134 : decode cX2_perform 134 = .ok (.iaload, 1) := by decide +kernel
theorem dX2_perform_135 : decode cX2_perform 135 = .ok (.invokevirtual 45, 3) := by decide +kernel
theorem dX2_perform_138 : decode cX2_perform 138 = .ok (.pop, 1) := by decide +kernel
theorem dX2_perform_139 : decode cX2_perform 139 = .ok (.goto 30, 3) := by decide +kernel
theorem dX2_perform_142 : decode cX2_perform 142 = .ok (.aload_n 3, 1) := by decide +kernel
theorem dX2_perform_143 : decode cX2_perform 143 = .ok (.aload_n 0, 1) := by decide +kernel
theorem dX2_perform_144 : decode cX2_perform 144 = .ok (.getfield 15, 3) := by decide +kernel
theorem dX2_perform_147 : decode cX2_perform 147 = .ok (.iload_n 1, 1) := by decide +kernel
theorem dX2_perform_148 : decode cX2_perform 148 = .ok (.iaload, 1) := by decide +kernel
theorem dX2_perform_149 : decode cX2_perform 149 = .ok (.iconst 1, 1) := by decide +kernel
theorem dX2_perform_150 : decode cX2_perform 150 = .ok (.invokevirtual 48, 3) := by decide +kernel
theorem dX2_perform_153 : decode cX2_perform 153 = .ok (.pop, 1) := by decide +kernel
theorem dX2_perform_154 : decode cX2_perform 154 = .ok (.goto 15, 3) := by decide +kernel
theorem dX2_perform_157 : decode cX2_perform 157 = .ok (.aload_n 3, 1) := by decide +kernel
theorem dX2_perform_158 : decode cX2_perform 158 = .ok (.aload_n 0, 1) := by decide +kernel
theorem dX2_perform_159 : decode cX2_perform 159 = .ok (.getfield 15, 3) := by decide +kernel
theorem dX2_perform_162 : decode cX2_perform 162 = .ok (.iload_n 1, 1) := by decide +kernel
theorem dX2_perform_163 : decode cX2_perform 163 = .ok (.iaload, 1) := by decide +kernel
theorem dX2_perform_164 : decode cX2_perform 164 = .ok (.iconst 0, 1) := by decide +kernel
theorem dX2_perform_165 : decode cX2_perform 165 = .ok (.invokevirtual 48, 3) := by decide +kernel
theorem dX2_perform_168 : decode cX2_perform 168 = .ok (.pop, 1) := by decide +kernel
theorem dX2_perform_169 : decode cX2_perform 169 = .ok (.return_, 1) := by decide +kernel

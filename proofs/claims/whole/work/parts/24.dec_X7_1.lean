theorem dX7_doLook_239 : decode cX7_doLook 239 = .ok (.getfield 9, 3) := by decide +kernel
theorem dX7_doLook_242 : decode cX7_doLook 242 = .ok (.iload_n 2, 1) := by decide +kernel
theorem dX7_doLook_243 : decode cX7_doLook 243 = .ok (.iconst 5, 1) := by decide +kernel
theorem dX7_doLook_244 : decode cX7_doLook 244 = .ok (.iadd, 1) := by decide +kernel
theorem dX7_doLook_245 : decode cX7_doLook 245 = .ok (.iaload, 1) := by decide +kernel
theorem dX7_doLook_246 : decode cX7_doLook 246 = .ok (.invokevirtual 128, 3) := by decide +kernel
theorem dX7_doLook_249 : decode cX7_doLook 249 = .ok (.iastore, 1) := by decide +kernel
theorem dX7_doLook_250 : decode cX7_doLook 250 = .ok (.aload_n 0, 1) := by decide +kernel
theorem dX7_doLook_251 : decode cX7_doLook 251 = .ok (.getfield 9, 3) := by decide +kernel
theorem dX7_doLook_254 : decode cX7_doLook 254 = .ok (.iload_n 2, 1) := by decide +kernel
theorem dX7_doLook_255 : decode cX7_doLook 255 = .ok (.bipush 6, 2) := by decide +kernel
theorem dX7_doLook_257 : decode cX7_doLook 257 = .ok (.iadd, 1) := by decide +kernel
theorem dX7_doLook_258 : decode cX7_doLook 258 = .ok (.iconst 0, 1) := by decide +kernel
theorem dX7_doLook_259 : decode cX7_doLook 259 = .ok (.iastore, 1) := by decide +kernel
theorem dX7_doLook_260 : decode cX7_doLook 260 = .ok (.aload_n 0, 1) := by decide +kernel
theorem dX7_doLook_261 : decode cX7_doLook 261 = .ok (.getfield 9, 3) := by decide +kernel
theorem dX7_doLook_264 : decode cX7_doLook 264 = .ok (.iload_n 2, 1) := by decide +kernel
theorem dX7_doLook_265 : decode cX7_doLook 265 = .ok (.iconst 4, 1) := by decide +kernel
theorem dX7_doLook_266 : decode cX7_doLook 266 = .ok (.iadd, 1) := by decide +kernel
theorem dX7_doLook_267 : decode cX7_doLook 267 = .ok (.iaload, 1) := by decide +kernel
theorem dX7_doLook_268 : decode cX7_doLook 268 = .ok (.ireturn, 1) := by decide +kernel
theorem dX7_entriesIn_0 : decode cX7_entriesIn 0 = .ok (.iconst 0, 1) := by decide +kernel
theorem dX7_entriesIn_1 : decode cX7_entriesIn 1 = .ok (.istore_n 2, 1) := by decide +kernel
theorem dX7_entriesIn_2 : decode cX7_entriesIn 2 = .ok (.iconst 0, 1) := by decide +kernel
theorem dX7_entriesIn_3 : decode cX7_entriesIn 3 = .ok (.istore_n 3, 1) := by decide +kernel
theorem dX7_entriesIn_4 : decode cX7_entriesIn 4 = .ok (.iload_n 3, 1) := by decide +kernel
theorem dX7_entriesIn_5 : decode cX7_entriesIn 5 = .ok (.bipush 10, 2) := by decide +kernel
theorem dX7_entriesIn_7 : decode cX7_entriesIn 7 = .ok (.if_icmp .ge 29, 3) := by decide +kernel
theorem dX7_entriesIn_10 : decode cX7_entriesIn 10 = .ok (.iload_n 2, 1) := by decide +kernel
theorem dX7_entriesIn_11 : decode cX7_entriesIn 11 = .ok (.aload_n 0, 1) := by decide +kernel
theorem dX7_entriesIn_12 : decode cX7_entriesIn 12 = .ok (.iload_n 1, 1) := by decide +kernel
theorem dX7_entriesIn_13 : decode cX7_entriesIn 13 = .ok (.iload_n 3, 1) := by decide +kernel
theorem dX7_entriesIn_14 : decode cX7_entriesIn 14 = .ok (.invokestatic 112, 3) := by decide +kernel
theorem dX7_entriesIn_17 : decode cX7_entriesIn 17 = .ok (.invokevirtual 115, 3) := by decide +kernel
theorem dX7_entriesIn_20 : decode cX7_entriesIn 20 = .ok (.ifCond .eq 7, 3) := by decide +kernel
theorem dX7_entriesIn_23 : decode cX7_entriesIn 23 = .ok (.iconst 1, 1) := by decide +kernel
theorem dX7_entriesIn_24 : decode cX7_entriesIn 24 = .ok (.goto 4, 3) := by decide +kernel
theorem dX7_entriesIn_27 : decode cX7_entriesIn 27 = .ok (.iconst 0, 1) := by decide +kernel
theorem dX7_entriesIn_28 : decode cX7_entriesIn 28 = .ok (.iadd, 1) := by decide +kernel
theorem dX7_entriesIn_29 : decode cX7_entriesIn 29 = .ok (.istore_n 2, 1) := by decide +kernel
theorem dX7_entriesIn_30 : decode cX7_entriesIn 30 = .ok (.iinc 3 1, 3) := by decide +kernel
theorem dX7_entriesIn_33 : decode cX7_entriesIn 33 = .ok (.goto (-29), 3) := by decide +kernel
theorem dX7_entriesIn_36 : decode cX7_entriesIn 36 = .ok (.iload_n 2, 1) := by decide +kernel
theorem dX7_entriesIn_37 : decode cX7_entriesIn 37 = .ok (.ireturn, 1) := by decide +kernel
theorem dX7_leastIn_0 : decode cX7_leastIn 0 = .ok (.iconst (-1), 1) := by decide +kernel
theorem dX7_leastIn_1 : decode cX7_leastIn 1 = .ok (.istore_n 3, 1) := by decide +kernel
theorem dX7_leastIn_2 : decode cX7_leastIn 2 = .ok (.iload_n 2, 1) := by decide +kernel
theorem dX7_leastIn_3 : decode cX7_leastIn 3 = .ok (.ifCond .ne 7, 3) := by decide +kernel
theorem dX7_leastIn_6 : decode cX7_leastIn 6 = .ok (.iconst 4, 1) := by decide +kernel
theorem dX7_leastIn_7 : decode cX7_leastIn 7 = .ok (.goto 22, 3) := by decide +kernel
theorem dX7_leastIn_10 : decode cX7_leastIn 10 = .ok (.iload_n 2, 1) := by decide +kernel
theorem dX7_leastIn_11 : decode cX7_leastIn 11 = .ok (.iconst 1, 1) := by decide +kernel
theorem dX7_leastIn_12 : decode cX7_leastIn 12 = .ok (.if_icmp .ne 7, 3) := by decide +kernel
theorem dX7_leastIn_15 : decode cX7_leastIn 15 = .ok (.iconst 5, 1) := by decide +kernel
theorem dX7_leastIn_16 : decode cX7_leastIn 16 = .ok (.goto 13, 3) := by decide +kernel
theorem dX7_leastIn_19 : decode cX7_leastIn 19 = .ok (.iload_n 2, 1) := by decide +kernel
theorem dX7_leastIn_20 : decode cX7_leastIn 20 = .ok (.iconst 2, 1) := by decide +kernel
theorem dX7_leastIn_21 : decode cX7_leastIn 21 = .ok (.if_icmp .ne 7, 3) := by decide +kernel
theorem dX7_leastIn_24 : decode cX7_leastIn 24 = .ok (.iconst 3, 1) := by decide +kernel
theorem dX7_leastIn_25 : decode cX7_leastIn 25 = .ok (.goto 4, 3) := by decide +kernel
theorem dX7_leastIn_28 : decode cX7_leastIn 28 = .ok (.iconst 2, 1) := by decide +kernel
theorem dX7_leastIn_29 : decode cX7_leastIn 29 = .ok (.istore 4, 2) := by decide +kernel
theorem dX7_leastIn_31 : decode cX7_leastIn 31 = .ok (.iconst 0, 1) := by decide +kernel
theorem dX7_leastIn_32 : decode cX7_leastIn 32 = .ok (.istore 5, 2) := by decide +kernel
theorem dX7_leastIn_34 : decode cX7_leastIn 34 = .ok (.iload 5, 2) := by decide +kernel
theorem dX7_leastIn_36 : decode cX7_leastIn 36 = .ok (.bipush 10, 2) := by decide +kernel
theorem dX7_leastIn_38 : decode cX7_leastIn 38 = .ok (.if_icmp .ge 60, 3) := by decide +kernel
theorem dX7_leastIn_41 : decode cX7_leastIn 41 = .ok (.aload_n 0, 1) := by decide +kernel
theorem dX7_leastIn_42 : decode cX7_leastIn 42 = .ok (.iload_n 1, 1) := by decide +kernel
theorem dX7_leastIn_43 : decode cX7_leastIn 43 = .ok (.iload 5, 2) := by decide +kernel
theorem dX7_leastIn_45 : decode cX7_leastIn 45 = .ok (.invokestatic 112, 3) := by decide +kernel
theorem dX7_leastIn_48 : decode cX7_leastIn 48 = .ok (.invokevirtual 115, 3) := by decide +kernel
theorem dX7_leastIn_51 : decode cX7_leastIn 51 = .ok (.ifCond .eq 41, 3) := by decide +kernel
theorem dX7_leastIn_54 : decode cX7_leastIn 54 = .ok (.iload_n 3, 1) := by decide +kernel
theorem dX7_leastIn_55 : decode cX7_leastIn 55 = .ok (.iconst (-1), 1) := by decide +kernel
theorem dX7_leastIn_56 : decode cX7_leastIn 56 = .ok (.if_icmp .eq 33, 3) := by decide +kernel
theorem dX7_leastIn_59 : decode cX7_leastIn 59 = .ok (.aload_n 0, 1) := by decide +kernel
theorem dX7_leastIn_60 : decode cX7_leastIn 60 = .ok (.getfield 9, 3) := by decide +kernel
theorem dX7_leastIn_63 : decode cX7_leastIn 63 = .ok (.iload_n 1, 1) := by decide +kernel
theorem dX7_leastIn_64 : decode cX7_leastIn 64 = .ok (.iload 5, 2) := by decide +kernel
theorem dX7_leastIn_66 : decode cX7_leastIn 66 = .ok (.invokestatic 112, 3) := by decide +kernel
theorem dX7_leastIn_69 : decode cX7_leastIn 69 = .ok (.iload 4, 2) := by decide +kernel
theorem dX7_leastIn_71 : decode cX7_leastIn 71 = .ok (.iadd, 1) := by decide +kernel
theorem dX7_leastIn_72 : decode cX7_leastIn 72 = .ok (.iaload, 1) := by decide +kernel
theorem dX7_leastIn_73 : decode cX7_leastIn 73 = .ok (.aload_n 0, 1) := by decide +kernel
theorem dX7_leastIn_74 : decode cX7_leastIn 74 = .ok (.getfield 9, 3) := by decide +kernel
theorem dX7_leastIn_77 : decode cX7_leastIn 77 = .ok (.iload_n 1, 1) := by decide +kernel
theorem dX7_leastIn_78 : decode cX7_leastIn 78 = .ok (.iload_n 3, 1) := by decide +kernel
theorem dX7_leastIn_79 : decode cX7_leastIn 79 = .ok (.invokestatic 112, 3) := by decide +kernel
theorem dX7_leastIn_82 : decode cX7_leastIn 82 = .ok (.iload 4, 2) := by decide +kernel
theorem dX7_leastIn_84 : decode cX7_leastIn 84 = .ok (.iadd, 1) := by decide +kernel
theorem dX7_leastIn_85 : decode cX7_leastIn 85 = .ok (.iaload, 1) := by decide +kernel
theorem dX7_leastIn_86 : decode cX7_leastIn 86 = .ok (.if_icmp .ge 6, 3) := by decide +kernel
theorem dX7_leastIn_89 : decode cX7_leastIn 89 = .ok (.iload 5, 2) := by decide +kernel
theorem dX7_leastIn_91 : decode cX7_leastIn 91 = .ok (.istore_n 3, 1) := by decide +kernel
theorem dX7_leastIn_92 : decode cX7_leastIn 92 = .ok (.iinc 5 1, 3) := by decide +kernel
theorem dX7_leastIn_95 : decode cX7_leastIn 95 = .ok (.goto (-61), 3) := by decide +kernel
theorem dX7_leastIn_98 : decode cX7_leastIn 98 = .ok (.iload_n 3, 1) := by decide +kernel
theorem dX7_leastIn_99 : decode cX7_leastIn 99 = .ok (.ireturn, 1) := by decide +kernel
theorem dX7_fills_0 : decode cX7_fills 0 = .ok (.aload_n 0, 1) := by decide +kernel
theorem dX7_fills_1 : decode cX7_fills 1 = .ok (.getfield 9, 3) := by decide +kernel
theorem dX7_fills_4 : decode cX7_fills 4 = .ok (.iload_n 1, 1) := by decide +kernel
theorem dX7_fills_5 : decode cX7_fills 5 = .ok (.iload_n 2, 1) := by decide +kernel
theorem dX7_fills_6 : decode cX7_fills 6 = .ok (.invokestatic 119, 3) := by decide +kernel
theorem dX7_fills_9 : decode cX7_fills 9 = .ok (.iconst 0, 1) := by decide +kernel
theorem dX7_fills_10 : decode cX7_fills 10 = .ok (.iastore, 1) := by decide +kernel
theorem dX7_fills_11 : decode cX7_fills 11 = .ok (.aload_n 0, 1) := by decide +kernel
theorem dX7_fills_12 : decode cX7_fills 12 = .ok (.getfield 9, 3) := by decide +kernel
theorem dX7_fills_15 : decode cX7_fills 15 = .ok (.iload_n 1, 1) := by decide +kernel
theorem dX7_fills_16 : decode cX7_fills 16 = .ok (.iload_n 2, 1) := by decide +kernel
theorem dX7_fills_17 : decode cX7_fills 17 = .ok (.invokestatic 122, 3) := by decide +kernel
theorem dX7_fills_20 : decode cX7_fills 20 = .ok (.iconst 0, 1) := by decide +kernel
theorem dX7_fills_21 : decode cX7_fills 21 = .ok (.iastore, 1) := by decide +kernel
theorem dX7_fills_22 : decode cX7_fills 22 = .ok (.aload_n 0, 1) := by decide +kernel
theorem dX7_fills_23 : decode cX7_fills 23 = .ok (.getfield 9, 3) := by decide +kernel
theorem dX7_fills_26 : decode cX7_fills 26 = .ok (.iload_n 1, 1) := by decide +kernel
theorem dX7_fills_27 : decode cX7_fills 27 = .ok (.iload_n 2, 1) := by decide +kernel
theorem dX7_fills_28 : decode cX7_fills 28 = .ok (.invokestatic 112, 3) := by decide +kernel
theorem dX7_fills_31 : decode cX7_fills 31 = .ok (.iconst 0, 1) := by decide +kernel
theorem dX7_fills_32 : decode cX7_fills 32 = .ok (.iastore, 1) := by decide +kernel
theorem dX7_fills_33 : decode cX7_fills 33 = .ok (.aload_n 0, 1) := by decide +kernel
theorem dX7_fills_34 : decode cX7_fills 34 = .ok (.iload_n 1, 1) := by decide +kernel
theorem dX7_fills_35 : decode cX7_fills 35 = .ok (.invokevirtual 131, 3) := by decide +kernel
theorem dX7_fills_38 : decode cX7_fills 38 = .ok (.aload_n 0, 1) := by decide +kernel
theorem dX7_fills_39 : decode cX7_fills 39 = .ok (.getfield 9, 3) := by decide +kernel
theorem dX7_fills_42 : decode cX7_fills 42 = .ok (.iconst 3, 1) := by decide +kernel
theorem dX7_fills_43 : decode cX7_fills 43 = .ok (.iaload, 1) := by decide +kernel
theorem dX7_fills_44 : decode cX7_fills 44 = .ok (.if_icmp .lt 39, 3) := by decide +kernel
theorem dX7_fills_47 : decode cX7_fills 47 = .ok (.aload_n 0, 1) := by decide +kernel
theorem dX7_fills_48 : decode cX7_fills 48 = .ok (.getfield 9, 3) := by decide +kernel
theorem dX7_fills_51 : decode cX7_fills 51 = .ok (.iload_n 1, 1) := by decide +kernel
theorem dX7_fills_52 : decode cX7_fills 52 = .ok (.aload_n 0, 1) := by decide +kernel
theorem dX7_fills_53 : decode cX7_fills 53 = .ok (.iload_n 1, 1) := by decide +kernel
theorem dX7_fills_54 : decode cX7_fills 54 = .ok (.aload_n 0, 1) := by decide +kernel
theorem dX7_fills_55 : decode cX7_fills 55 = .ok (.getfield 9, 3) := by decide +kernel
theorem dX7_fills_58 : decode cX7_fills 58 = .ok (.bipush 8, 2) := by decide +kernel
theorem dX7_fills_60 : decode cX7_fills 60 = .ok (.iaload, 1) := by decide +kernel
theorem dX7_fills_61 : decode cX7_fills 61 = .ok (.invokevirtual 134, 3) := by decide +kernel
theorem dX7_fills_64 : decode cX7_fills 64 = .ok (.invokestatic 112, 3) := by decide +kernel
theorem dX7_fills_67 : decode cX7_fills 67 = .ok (.iconst 0, 1) := by decide +kernel
theorem dX7_fills_68 : decode cX7_fills 68 = .ok (.iastore, 1) := by decide +kernel
theorem dX7_fills_69 : decode cX7_fills 69 = .ok (.aload_n 0, 1) := by decide +kernel
theorem dX7_fills_70 : decode cX7_fills 70 = .ok (.getfield 9, 3) := by decide +kernel
theorem dX7_fills_73 : decode cX7_fills 73 = .ok (.bipush 23, 2) := by decide +kernel
theorem dX7_fills_75 : decode cX7_fills 75 = .ok (.dup2, 1) := by decide +kernel
theorem dX7_fills_76 : decode cX7_fills 76 = .ok (.iaload, 1) := by decide +kernel
theorem dX7_fills_77 : decode cX7_fills 77 = .ok (.iconst 1, 1) := by decide +kernel
theorem dX7_fills_78 : decode cX7_fills 78 = .ok (.iadd, 1) := by decide +kernel
theorem dX7_fills_79 : decode cX7_fills 79 = .ok (.iastore, 1) := by decide +kernel
theorem dX7_fills_80 : decode cX7_fills 80 = .ok (.goto (-47), 3) := by decide +kernel
theorem dX7_fills_83 : decode cX7_fills 83 = .ok (.iload_n 1, 1) := by decide +kernel
theorem dX7_fills_84 : decode cX7_fills 84 = .ok (.iload_n 2, 1) := by decide +kernel
theorem dX7_fills_85 : decode cX7_fills 85 = .ok (.invokestatic 112, 3) := by decide +kernel
theorem dX7_fills_88 : decode cX7_fills 88 = .ok (.istore 5, 2) := by decide +kernel
theorem dX7_fills_90 : decode cX7_fills 90 = .ok (.aload_n 0, 1) := by decide +kernel
theorem dX7_fills_91 : decode cX7_fills 91 = .ok (.getfield 9, 3) := by decide +kernel
theorem dX7_fills_94 : decode cX7_fills 94 = .ok (.iload 5, 2) := by decide +kernel
theorem dX7_fills_96 : decode cX7_fills 96 = .ok (.aload_n 0, 1) := by decide +kernel
theorem dX7_fills_97 : decode cX7_fills 97 = .ok (.getfield 9, 3) := by decide +kernel
theorem dX7_fills_100 : decode cX7_fills 100 = .ok (.iconst 0, 1) := by decide +kernel
theorem dX7_fills_101 : decode cX7_fills 101 = .ok (.iaload, 1) := by decide +kernel
theorem dX7_fills_102 : decode cX7_fills 102 = .ok (.aload_n 0, 1) := by decide +kernel
theorem dX7_fills_103 : decode cX7_fills 103 = .ok (.getfield 9, 3) := by decide +kernel
theorem dX7_fills_106 : decode cX7_fills 106 = .ok (.iconst 4, 1) := by decide +kernel
theorem dX7_fills_107 : decode cX7_fills 107 = .ok (.iaload, 1) := by decide +kernel
theorem dX7_fills_108 : decode cX7_fills 108 = .ok (.iadd, 1) := by decide +kernel
theorem dX7_fills_109 : decode cX7_fills 109 = .ok (.iastore, 1) := by decide +kernel
theorem dX7_fills_110 : decode cX7_fills 110 = .ok (.aload_n 0, 1) := by decide +kernel
theorem dX7_fills_111 : decode cX7_fills 111 = .ok (.getfield 9, 3) := by decide +kernel
theorem dX7_fills_114 : decode cX7_fills 114 = .ok (.iload 5, 2) := by decide +kernel
theorem dX7_fills_116 : decode cX7_fills 116 = .ok (.iconst 1, 1) := by decide +kernel
theorem dX7_fills_117 : decode cX7_fills 117 = .ok (.iadd, 1) := by decide +kernel
theorem dX7_fills_118 : decode cX7_fills 118 = .ok (.iload_n 3, 1) := by decide +kernel
theorem dX7_fills_119 : decode cX7_fills 119 = .ok (.iastore, 1) := by decide +kernel
theorem dX7_fills_120 : decode cX7_fills 120 = .ok (.aload_n 0, 1) := by decide +kernel
theorem dX7_fills_121 : decode cX7_fills 121 = .ok (.getfield 9, 3) := by decide +kernel
theorem dX7_fills_124 : decode cX7_fills 124 = .ok (.iload 5, 2) := by decide +kernel
theorem dX7_fills_126 : decode cX7_fills 126 = .ok (.iconst 2, 1) := by decide +kernel
theorem dX7_fills_127 : decode cX7_fills 127 = .ok (.iadd, 1) := by decide +kernel
theorem dX7_fills_128 : decode cX7_fills 128 = .ok (.iload 4, 2) := by decide +kernel
theorem dX7_fills_130 : decode cX7_fills 130 = .ok (.iastore, 1) := by decide +kernel
theorem dX7_fills_131 : decode cX7_fills 131 = .ok (.aload_n 0, 1) := by decide +kernel
theorem dX7_fills_132 : decode cX7_fills 132 = .ok (.getfield 9, 3) := by decide +kernel
theorem dX7_fills_135 : decode cX7_fills 135 = .ok (.iload 5, 2) := by decide +kernel
theorem dX7_fills_137 : decode cX7_fills 137 = .ok (.iconst 3, 1) := by decide +kernel
theorem dX7_fills_138 : decode cX7_fills 138 = .ok (.iadd, 1) := by decide +kernel
theorem dX7_fills_139 : decode cX7_fills 139 = .ok (.aload_n 0, 1) := by decide +kernel
theorem dX7_fills_140 : decode cX7_fills 140 = .ok (.getfield 9, 3) := by decide +kernel
theorem dX7_fills_143 : decode cX7_fills 143 = .ok (.iconst 0, 1) := by decide +kernel
theorem dX7_fills_144 : decode cX7_fills 144 = .ok (.iaload, 1) := by decide +kernel
theorem dX7_fills_145 : decode cX7_fills 145 = .ok (.iastore, 1) := by decide +kernel
theorem dX7_fills_146 : decode cX7_fills 146 = .ok (.aload_n 0, 1) := by decide +kernel
theorem dX7_fills_147 : decode cX7_fills 147 = .ok (.getfield 9, 3) := by decide +kernel
theorem dX7_fills_150 : decode cX7_fills 150 = .ok (.iload 5, 2) := by decide +kernel
theorem dX7_fills_152 : decode cX7_fills 152 = .ok (.iconst 4, 1) := by decide +kernel
theorem dX7_fills_153 : decode cX7_fills 153 = .ok (.iadd, 1) := by decide +kernel
theorem dX7_fills_154 : decode cX7_fills 154 = .ok (.aload_n 0, 1) := by decide +kernel
theorem dX7_fills_155 : decode cX7_fills 155 = .ok (.getfield 9, 3) := by decide +kernel
theorem dX7_fills_158 : decode cX7_fills 158 = .ok (.iconst 0, 1) := by decide +kernel
theorem dX7_fills_159 : decode cX7_fills 159 = .ok (.iaload, 1) := by decide +kernel
theorem dX7_fills_160 : decode cX7_fills 160 = .ok (.iastore, 1) := by decide +kernel
theorem dX7_fills_161 : decode cX7_fills 161 = .ok (.aload_n 0, 1) := by decide +kernel
theorem dX7_fills_162 : decode cX7_fills 162 = .ok (.getfield 9, 3) := by decide +kernel
theorem dX7_fills_165 : decode cX7_fills 165 = .ok (.iload 5, 2) := by decide +kernel
theorem dX7_fills_167 : decode cX7_fills 167 = .ok (.iconst 5, 1) := by decide +kernel
theorem dX7_fills_168 : decode cX7_fills 168 = .ok (.iadd, 1) := by decide +kernel
theorem dX7_fills_169 : decode cX7_fills 169 = .ok (.iconst 0, 1) := by decide +kernel
theorem dX7_fills_170 : decode cX7_fills 170 = .ok (.iastore, 1) := by decide +kernel
theorem dX7_fills_171 : decode cX7_fills 171 = .ok (.return_, 1) := by decide +kernel
theorem dX7_doFill_0 : decode cX7_doFill 0 = .ok (.iload_n 1, 1) := by decide +kernel
theorem dX7_doFill_1 : decode cX7_doFill 1 = .ok (.invokestatic 82, 3) := by decide +kernel
theorem dX7_doFill_4 : decode cX7_doFill 4 = .ok (.istore_n 2, 1) := by decide +kernel
theorem dX7_doFill_5 : decode cX7_doFill 5 = .ok (.aload_n 0, 1) := by decide +kernel
theorem dX7_doFill_6 : decode cX7_doFill 6 = .ok (.getfield 9, 3) := by decide +kernel
theorem dX7_doFill_9 : decode cX7_doFill 9 = .ok (.iload_n 2, 1) := by decide +kernel
theorem dX7_doFill_10 : decode cX7_doFill 10 = .ok (.iconst 1, 1) := by decide +kernel
theorem dX7_doFill_11 : decode cX7_doFill 11 = .ok (.iadd, 1) := by decide +kernel
theorem dX7_doFill_12 : decode cX7_doFill 12 = .ok (.iaload, 1) := by decide +kernel
theorem dX7_doFill_13 : decode cX7_doFill 13 = .ok (.istore_n 3, 1) := by decide +kernel
theorem dX7_doFill_14 : decode cX7_doFill 14 = .ok (.iload_n 3, 1) := by decide +kernel
theorem dX7_doFill_15 : decode cX7_doFill 15 = .ok (.iconst (-1), 1) := by decide +kernel
theorem dX7_doFill_16 : decode cX7_doFill 16 = .ok (.if_icmp .eq 14, 3) := by decide +kernel
theorem dX7_doFill_19 : decode cX7_doFill 19 = .ok (.aload_n 0, 1) := by decide +kernel
theorem dX7_doFill_20 : decode cX7_doFill 20 = .ok (.getfield 9, 3) := by decide +kernel
theorem dX7_doFill_23 : decode cX7_doFill 23 = .ok (.iload_n 2, 1) := by decide +kernel
theorem dX7_doFill_24 : decode cX7_doFill 24 = .ok (.iconst 3, 1) := by decide +kernel
theorem dX7_doFill_25 : decode cX7_doFill 25 = .ok (.iadd, 1) := by decide +kernel
theorem dX7_doFill_26 : decode cX7_doFill 26 = .ok (.iaload, 1) := by decide +kernel
theorem dX7_doFill_27 : decode cX7_doFill 27 = .ok (.ifCond .ne 6, 3) := by decide +kernel
theorem dX7_doFill_30 : decode cX7_doFill 30 = .ok (.bipush (-5), 2) := by decide +kernel
theorem dX7_doFill_32 : decode cX7_doFill 32 = .ok (.ireturn, 1) := by decide +kernel
theorem dX7_doFill_33 : decode cX7_doFill 33 = .ok (.aload_n 0, 1) := by decide +kernel
theorem dX7_doFill_34 : decode cX7_doFill 34 = .ok (.iload_n 1, 1) := by decide +kernel
theorem dX7_doFill_35 : decode cX7_doFill 35 = .ok (.invokevirtual 109, 3) := by decide +kernel
theorem dX7_doFill_38 : decode cX7_doFill 38 = .ok (.istore 4, 2) := by decide +kernel
theorem dX7_doFill_40 : decode cX7_doFill 40 = .ok (.iload 4, 2) := by decide +kernel
theorem dX7_doFill_42 : decode cX7_doFill 42 = .ok (.iload_n 3, 1) := by decide +kernel
theorem dX7_doFill_43 : decode cX7_doFill 43 = .ok (.invokestatic 119, 3) := by decide +kernel
theorem dX7_doFill_46 : decode cX7_doFill 46 = .ok (.istore 5, 2) := by decide +kernel
theorem dX7_doFill_48 : decode cX7_doFill 48 = .ok (.aload_n 0, 1) := by decide +kernel
theorem dX7_doFill_49 : decode cX7_doFill 49 = .ok (.getfield 9, 3) := by decide +kernel
theorem dX7_doFill_52 : decode cX7_doFill 52 = .ok (.iload_n 2, 1) := by decide +kernel
theorem dX7_doFill_53 : decode cX7_doFill 53 = .ok (.iconst 1, 1) := by decide +kernel
theorem dX7_doFill_54 : decode cX7_doFill 54 = .ok (.iadd, 1) := by decide +kernel
theorem dX7_doFill_55 : decode cX7_doFill 55 = .ok (.iconst (-1), 1) := by decide +kernel
theorem dX7_doFill_56 : decode cX7_doFill 56 = .ok (.iastore, 1) := by decide +kernel
theorem dX7_doFill_57 : decode cX7_doFill 57 = .ok (.aload_n 0, 1) := by decide +kernel
theorem dX7_doFill_58 : decode cX7_doFill 58 = .ok (.getfield 9, 3) := by decide +kernel
theorem dX7_doFill_61 : decode cX7_doFill 61 = .ok (.bipush 9, 2) := by decide +kernel
theorem dX7_doFill_63 : decode cX7_doFill 63 = .ok (.iaload, 1) := by decide +kernel
theorem dX7_doFill_64 : decode cX7_doFill 64 = .ok (.iconst 1, 1) := by decide +kernel
theorem dX7_doFill_65 : decode cX7_doFill 65 = .ok (.if_icmp .ne 36, 3) := by decide +kernel
theorem dX7_doFill_68 : decode cX7_doFill 68 = .ok (.aload_n 0, 1) := by decide +kernel
theorem dX7_doFill_69 : decode cX7_doFill 69 = .ok (.iload 5, 2) := by decide +kernel
theorem dX7_doFill_71 : decode cX7_doFill 71 = .ok (.invokevirtual 115, 3) := by decide +kernel
theorem dX7_doFill_74 : decode cX7_doFill 74 = .ok (.ifCond .eq 23, 3) := by decide +kernel
theorem dX7_doFill_77 : decode cX7_doFill 77 = .ok (.aload_n 0, 1) := by decide +kernel
theorem dX7_doFill_78 : decode cX7_doFill 78 = .ok (.getfield 9, 3) := by decide +kernel
theorem dX7_doFill_81 : decode cX7_doFill 81 = .ok (.iload 5, 2) := by decide +kernel
theorem dX7_doFill_83 : decode cX7_doFill 83 = .ok (.iconst 2, 1) := by decide +kernel
theorem dX7_doFill_84 : decode cX7_doFill 84 = .ok (.iadd, 1) := by decide +kernel
theorem dX7_doFill_85 : decode cX7_doFill 85 = .ok (.iaload, 1) := by decide +kernel
theorem dX7_doFill_86 : decode cX7_doFill 86 = .ok (.aload_n 0, 1) := by decide +kernel
theorem dX7_doFill_87 : decode cX7_doFill 87 = .ok (.getfield 9, 3) := by decide +kernel
theorem dX7_doFill_90 : decode cX7_doFill 90 = .ok (.iload_n 2, 1) := by decide +kernel
theorem dX7_doFill_91 : decode cX7_doFill 91 = .ok (.iconst 2, 1) := by decide +kernel
theorem dX7_doFill_92 : decode cX7_doFill 92 = .ok (.iadd, 1) := by decide +kernel
theorem dX7_doFill_93 : decode cX7_doFill 93 = .ok (.iaload, 1) := by decide +kernel
theorem dX7_doFill_94 : decode cX7_doFill 94 = .ok (.if_icmp .eq 7, 3) := by decide +kernel
theorem dX7_doFill_97 : decode cX7_doFill 97 = .ok (.iconst 1, 1) := by decide +kernel
theorem dX7_doFill_98 : decode cX7_doFill 98 = .ok (.goto 4, 3) := by decide +kernel
theorem dX7_doFill_101 : decode cX7_doFill 101 = .ok (.iconst 0, 1) := by decide +kernel
theorem dX7_doFill_102 : decode cX7_doFill 102 = .ok (.istore 6, 2) := by decide +kernel
theorem dX7_doFill_104 : decode cX7_doFill 104 = .ok (.iload 6, 2) := by decide +kernel
theorem dX7_doFill_106 : decode cX7_doFill 106 = .ok (.ifCond .ne 29, 3) := by decide +kernel
theorem dX7_doFill_109 : decode cX7_doFill 109 = .ok (.aload_n 0, 1) := by decide +kernel
theorem dX7_doFill_110 : decode cX7_doFill 110 = .ok (.getfield 9, 3) := by decide +kernel
theorem dX7_doFill_113 : decode cX7_doFill 113 = .ok (.iload_n 2, 1) := by decide +kernel
theorem dX7_doFill_114 : decode cX7_doFill 114 = .ok (.bipush 6, 2) := by decide +kernel
theorem dX7_doFill_116 : decode cX7_doFill 116 = .ok (.iadd, 1) := by decide +kernel
theorem dX7_doFill_117 : decode cX7_doFill 117 = .ok (.iaload, 1) := by decide +kernel
theorem dX7_doFill_118 : decode cX7_doFill 118 = .ok (.iconst 1, 1) := by decide +kernel
theorem dX7_doFill_119 : decode cX7_doFill 119 = .ok (.if_icmp .ne 29, 3) := by decide +kernel
theorem dX7_doFill_122 : decode cX7_doFill 122 = .ok (.aload_n 0, 1) := by decide +kernel
theorem dX7_doFill_123 : decode cX7_doFill 123 = .ok (.iload 4, 2) := by decide +kernel
theorem dX7_doFill_125 : decode cX7_doFill 125 = .ok (.iload_n 3, 1) := by decide +kernel
theorem dX7_doFill_126 : decode cX7_doFill 126 = .ok (.invokestatic 137, 3) := by decide +kernel
theorem dX7_doFill_129 : decode cX7_doFill 129 = .ok (.invokevirtual 115, 3) := by decide +kernel
theorem dX7_doFill_132 : decode cX7_doFill 132 = .ok (.ifCond .eq 16, 3) := by decide +kernel
theorem dX7_doFill_135 : decode cX7_doFill 135 = .ok (.aload_n 0, 1) := by decide +kernel
theorem dX7_doFill_136 : decode cX7_doFill 136 = .ok (.getfield 9, 3) := by decide +kernel
theorem dX7_doFill_139 : decode cX7_doFill 139 = .ok (.bipush 21, 2) := by decide +kernel
theorem dX7_doFill_141 : decode cX7_doFill 141 = .ok (.dup2, 1) := by decide +kernel
theorem dX7_doFill_142 : decode cX7_doFill 142 = .ok (.iaload, 1) := by decide +kernel
theorem dX7_doFill_143 : decode cX7_doFill 143 = .ok (.iconst 1, 1) := by decide +kernel
theorem dX7_doFill_144 : decode cX7_doFill 144 = .ok (.iadd, 1) := by decide +kernel
theorem dX7_doFill_145 : decode cX7_doFill 145 = .ok (.iastore, 1) := by decide +kernel
theorem dX7_doFill_146 : decode cX7_doFill 146 = .ok (.iconst 0, 1) := by decide +kernel
theorem dX7_doFill_147 : decode cX7_doFill 147 = .ok (.ireturn, 1) := by decide +kernel
theorem dX7_doFill_148 : decode cX7_doFill 148 = .ok (.aload_n 0, 1) := by decide +kernel
theorem dX7_doFill_149 : decode cX7_doFill 149 = .ok (.iload 4, 2) := by decide +kernel
theorem dX7_doFill_151 : decode cX7_doFill 151 = .ok (.iload_n 3, 1) := by decide +kernel
theorem dX7_doFill_152 : decode cX7_doFill 152 = .ok (.aload_n 0, 1) := by decide +kernel
theorem dX7_doFill_153 : decode cX7_doFill 153 = .ok (.getfield 9, 3) := by decide +kernel
theorem dX7_doFill_156 : decode cX7_doFill 156 = .ok (.iload_n 2, 1) := by decide +kernel
theorem dX7_doFill_157 : decode cX7_doFill 157 = .ok (.iconst 4, 1) := by decide +kernel
theorem dX7_doFill_158 : decode cX7_doFill 158 = .ok (.iadd, 1) := by decide +kernel
theorem dX7_doFill_159 : decode cX7_doFill 159 = .ok (.iaload, 1) := by decide +kernel
theorem dX7_doFill_160 : decode cX7_doFill 160 = .ok (.aload_n 0, 1) := by decide +kernel
theorem dX7_doFill_161 : decode cX7_doFill 161 = .ok (.getfield 9, 3) := by decide +kernel
theorem dX7_doFill_164 : decode cX7_doFill 164 = .ok (.iload_n 2, 1) := by decide +kernel
theorem dX7_doFill_165 : decode cX7_doFill 165 = .ok (.iconst 5, 1) := by decide +kernel
theorem dX7_doFill_166 : decode cX7_doFill 166 = .ok (.iadd, 1) := by decide +kernel
theorem dX7_doFill_167 : decode cX7_doFill 167 = .ok (.iaload, 1) := by decide +kernel
theorem dX7_doFill_168 : decode cX7_doFill 168 = .ok (.invokevirtual 140, 3) := by decide +kernel
theorem dX7_doFill_171 : decode cX7_doFill 171 = .ok (.aload_n 0, 1) := by decide +kernel
theorem dX7_doFill_172 : decode cX7_doFill 172 = .ok (.getfield 9, 3) := by decide +kernel
theorem dX7_doFill_175 : decode cX7_doFill 175 = .ok (.bipush 20, 2) := by decide +kernel
theorem dX7_doFill_177 : decode cX7_doFill 177 = .ok (.dup2, 1) := by decide +kernel
theorem dX7_doFill_178 : decode cX7_doFill 178 = .ok (.iaload, 1) := by decide +kernel
theorem dX7_doFill_179 : decode cX7_doFill 179 = .ok (.iconst 1, 1) := by decide +kernel
theorem dX7_doFill_180 : decode cX7_doFill 180 = .ok (.iadd, 1) := by decide +kernel
theorem dX7_doFill_181 : decode cX7_doFill 181 = .ok (.iastore, 1) := by decide +kernel
theorem dX7_doFill_182 : decode cX7_doFill 182 = .ok (.iconst 1, 1) := by decide +kernel
theorem dX7_doFill_183 : decode cX7_doFill 183 = .ok (.ireturn, 1) := by decide +kernel
theorem dX7_deletes_0 : decode cX7_deletes 0 = .ok (.iload_n 1, 1) := by decide +kernel
theorem dX7_deletes_1 : decode cX7_deletes 1 = .ok (.iload_n 2, 1) := by decide +kernel
theorem dX7_deletes_2 : decode cX7_deletes 2 = .ok (.invokestatic 112, 3) := by decide +kernel
theorem dX7_deletes_5 : decode cX7_deletes 5 = .ok (.istore_n 3, 1) := by decide +kernel
theorem dX7_deletes_6 : decode cX7_deletes 6 = .ok (.aload_n 0, 1) := by decide +kernel
theorem dX7_deletes_7 : decode cX7_deletes 7 = .ok (.iload_n 3, 1) := by decide +kernel
theorem dX7_deletes_8 : decode cX7_deletes 8 = .ok (.invokevirtual 115, 3) := by decide +kernel
theorem dX7_deletes_11 : decode cX7_deletes 11 = .ok (.ifCond .eq 70, 3) := by decide +kernel
theorem dX7_deletes_14 : decode cX7_deletes 14 = .ok (.aload_n 0, 1) := by decide +kernel
theorem dX7_deletes_15 : decode cX7_deletes 15 = .ok (.getfield 9, 3) := by decide +kernel
theorem dX7_deletes_18 : decode cX7_deletes 18 = .ok (.iload_n 1, 1) := by decide +kernel
theorem dX7_deletes_19 : decode cX7_deletes 19 = .ok (.iload_n 2, 1) := by decide +kernel
theorem dX7_deletes_20 : decode cX7_deletes 20 = .ok (.invokestatic 122, 3) := by decide +kernel
theorem dX7_deletes_23 : decode cX7_deletes 23 = .ok (.aload_n 0, 1) := by decide +kernel
theorem dX7_deletes_24 : decode cX7_deletes 24 = .ok (.getfield 9, 3) := by decide +kernel
theorem dX7_deletes_27 : decode cX7_deletes 27 = .ok (.iconst 5, 1) := by decide +kernel
theorem dX7_deletes_28 : decode cX7_deletes 28 = .ok (.iaload, 1) := by decide +kernel
theorem dX7_deletes_29 : decode cX7_deletes 29 = .ok (.ifCond .ne 7, 3) := by decide +kernel
theorem dX7_deletes_32 : decode cX7_deletes 32 = .ok (.iconst 0, 1) := by decide +kernel
theorem dX7_deletes_33 : decode cX7_deletes 33 = .ok (.goto 16, 3) := by decide +kernel
theorem dX7_deletes_36 : decode cX7_deletes 36 = .ok (.aload_n 0, 1) := by decide +kernel
theorem dX7_deletes_37 : decode cX7_deletes 37 = .ok (.getfield 9, 3) := by decide +kernel
theorem dX7_deletes_40 : decode cX7_deletes 40 = .ok (.iconst 0, 1) := by decide +kernel
theorem dX7_deletes_41 : decode cX7_deletes 41 = .ok (.iaload, 1) := by decide +kernel
theorem dX7_deletes_42 : decode cX7_deletes 42 = .ok (.aload_n 0, 1) := by decide +kernel
theorem dX7_deletes_43 : decode cX7_deletes 43 = .ok (.getfield 9, 3) := by decide +kernel
theorem dX7_deletes_46 : decode cX7_deletes 46 = .ok (.iconst 5, 1) := by decide +kernel
theorem dX7_deletes_47 : decode cX7_deletes 47 = .ok (.iaload, 1) := by decide +kernel
theorem dX7_deletes_48 : decode cX7_deletes 48 = .ok (.iadd, 1) := by decide +kernel
theorem dX7_deletes_49 : decode cX7_deletes 49 = .ok (.iastore, 1) := by decide +kernel
theorem dX7_deletes_50 : decode cX7_deletes 50 = .ok (.aload_n 0, 1) := by decide +kernel
theorem dX7_deletes_51 : decode cX7_deletes 51 = .ok (.getfield 9, 3) := by decide +kernel
theorem dX7_deletes_54 : decode cX7_deletes 54 = .ok (.iload_n 1, 1) := by decide +kernel
theorem dX7_deletes_55 : decode cX7_deletes 55 = .ok (.iload_n 2, 1) := by decide +kernel
theorem dX7_deletes_56 : decode cX7_deletes 56 = .ok (.invokestatic 122, 3) := by decide +kernel
theorem dX7_deletes_59 : decode cX7_deletes 59 = .ok (.iconst 1, 1) := by decide +kernel
theorem dX7_deletes_60 : decode cX7_deletes 60 = .ok (.iadd, 1) := by decide +kernel
theorem dX7_deletes_61 : decode cX7_deletes 61 = .ok (.aload_n 0, 1) := by decide +kernel
theorem dX7_deletes_62 : decode cX7_deletes 62 = .ok (.getfield 9, 3) := by decide +kernel
theorem dX7_deletes_65 : decode cX7_deletes 65 = .ok (.iload_n 3, 1) := by decide +kernel
theorem dX7_deletes_66 : decode cX7_deletes 66 = .ok (.iconst 1, 1) := by decide +kernel
theorem dX7_deletes_67 : decode cX7_deletes 67 = .ok (.iadd, 1) := by decide +kernel
theorem dX7_deletes_68 : decode cX7_deletes 68 = .ok (.iaload, 1) := by decide +kernel
theorem dX7_deletes_69 : decode cX7_deletes 69 = .ok (.iastore, 1) := by decide +kernel
theorem dX7_deletes_70 : decode cX7_deletes 70 = .ok (.aload_n 0, 1) := by decide +kernel
theorem dX7_deletes_71 : decode cX7_deletes 71 = .ok (.getfield 9, 3) := by decide +kernel
theorem dX7_deletes_74 : decode cX7_deletes 74 = .ok (.bipush 24, 2) := by decide +kernel
theorem dX7_deletes_76 : decode cX7_deletes 76 = .ok (.dup2, 1) := by decide +kernel
theorem dX7_deletes_77 : decode cX7_deletes 77 = .ok (.iaload, 1) := by decide +kernel
theorem dX7_deletes_78 : decode cX7_deletes 78 = .ok (.iconst 1, 1) := by decide +kernel
theorem dX7_deletes_79 : decode cX7_deletes 79 = .ok (.iadd, 1) := by decide +kernel
theorem dX7_deletes_80 : decode cX7_deletes 80 = .ok (.iastore, 1) := by decide +kernel
theorem dX7_deletes_81 : decode cX7_deletes 81 = .ok (.aload_n 0, 1) := by decide +kernel
theorem dX7_deletes_82 : decode cX7_deletes 82 = .ok (.getfield 9, 3) := by decide +kernel
theorem dX7_deletes_85 : decode cX7_deletes 85 = .ok (.iload_n 3, 1) := by decide +kernel
theorem dX7_deletes_86 : decode cX7_deletes 86 = .ok (.iconst 0, 1) := by decide +kernel
theorem dX7_deletes_87 : decode cX7_deletes 87 = .ok (.iastore, 1) := by decide +kernel
theorem dX7_deletes_88 : decode cX7_deletes 88 = .ok (.aload_n 0, 1) := by decide +kernel
theorem dX7_deletes_89 : decode cX7_deletes 89 = .ok (.getfield 9, 3) := by decide +kernel
theorem dX7_deletes_92 : decode cX7_deletes 92 = .ok (.bipush 25, 2) := by decide +kernel
theorem dX7_deletes_94 : decode cX7_deletes 94 = .ok (.dup2, 1) := by decide +kernel
theorem dX7_deletes_95 : decode cX7_deletes 95 = .ok (.iaload, 1) := by decide +kernel
theorem dX7_deletes_96 : decode cX7_deletes 96 = .ok (.aload_n 0, 1) := by decide +kernel
theorem dX7_deletes_97 : decode cX7_deletes 97 = .ok (.iload_n 1, 1) := by decide +kernel
theorem dX7_deletes_98 : decode cX7_deletes 98 = .ok (.iload_n 2, 1) := by decide +kernel
theorem dX7_deletes_99 : decode cX7_deletes 99 = .ok (.invokestatic 119, 3) := by decide +kernel
theorem dX7_deletes_102 : decode cX7_deletes 102 = .ok (.invokevirtual 115, 3) := by decide +kernel
theorem dX7_deletes_105 : decode cX7_deletes 105 = .ok (.ifCond .eq 7, 3) := by decide +kernel
theorem dX7_deletes_108 : decode cX7_deletes 108 = .ok (.iconst 1, 1) := by decide +kernel
theorem dX7_deletes_109 : decode cX7_deletes 109 = .ok (.goto 4, 3) := by decide +kernel
theorem dX7_deletes_112 : decode cX7_deletes 112 = .ok (.iconst 0, 1) := by decide +kernel
theorem dX7_deletes_113 : decode cX7_deletes 113 = .ok (.iadd, 1) := by decide +kernel
theorem dX7_deletes_114 : decode cX7_deletes 114 = .ok (.iastore, 1) := by decide +kernel
theorem dX7_deletes_115 : decode cX7_deletes 115 = .ok (.aload_n 0, 1) := by decide +kernel
theorem dX7_deletes_116 : decode cX7_deletes 116 = .ok (.getfield 9, 3) := by decide +kernel
theorem dX7_deletes_119 : decode cX7_deletes 119 = .ok (.iload_n 1, 1) := by decide +kernel
theorem dX7_deletes_120 : decode cX7_deletes 120 = .ok (.iload_n 2, 1) := by decide +kernel
theorem dX7_deletes_121 : decode cX7_deletes 121 = .ok (.invokestatic 119, 3) := by decide +kernel
theorem dX7_deletes_124 : decode cX7_deletes 124 = .ok (.iconst 0, 1) := by decide +kernel
theorem dX7_deletes_125 : decode cX7_deletes 125 = .ok (.iastore, 1) := by decide +kernel
theorem dX7_deletes_126 : decode cX7_deletes 126 = .ok (.aload_n 0, 1) := by decide +kernel
theorem dX7_deletes_127 : decode cX7_deletes 127 = .ok (.getfield 9, 3) := by decide +kernel
theorem dX7_deletes_130 : decode cX7_deletes 130 = .ok (.sipush 216, 3) := by decide +kernel
theorem dX7_deletes_133 : decode cX7_deletes 133 = .ok (.iload_n 1, 1) := by decide +kernel
theorem dX7_deletes_134 : decode cX7_deletes 134 = .ok (.iadd, 1) := by decide +kernel
theorem dX7_deletes_135 : decode cX7_deletes 135 = .ok (.iaload, 1) := by decide +kernel
theorem dX7_deletes_136 : decode cX7_deletes 136 = .ok (.iconst 1, 1) := by decide +kernel
theorem dX7_deletes_137 : decode cX7_deletes 137 = .ok (.if_icmp .ne 41, 3) := by decide +kernel
theorem dX7_deletes_140 : decode cX7_deletes 140 = .ok (.aload_n 0, 1) := by decide +kernel
theorem dX7_deletes_141 : decode cX7_deletes 141 = .ok (.getfield 9, 3) := by decide +kernel
theorem dX7_deletes_144 : decode cX7_deletes 144 = .ok (.iload_n 1, 1) := by decide +kernel
theorem dX7_deletes_145 : decode cX7_deletes 145 = .ok (.iload_n 2, 1) := by decide +kernel
theorem dX7_deletes_146 : decode cX7_deletes 146 = .ok (.invokestatic 137, 3) := by decide +kernel
theorem dX7_deletes_149 : decode cX7_deletes 149 = .ok (.aload_n 0, 1) := by decide +kernel
theorem dX7_deletes_150 : decode cX7_deletes 150 = .ok (.getfield 9, 3) := by decide +kernel
theorem dX7_deletes_153 : decode cX7_deletes 153 = .ok (.bipush 7, 2) := by decide +kernel
theorem dX7_deletes_155 : decode cX7_deletes 155 = .ok (.iaload, 1) := by decide +kernel
theorem dX7_deletes_156 : decode cX7_deletes 156 = .ok (.ifCond .ne 7, 3) := by decide +kernel
theorem dX7_deletes_159 : decode cX7_deletes 159 = .ok (.iconst 0, 1) := by decide +kernel
theorem dX7_deletes_160 : decode cX7_deletes 160 = .ok (.goto 17, 3) := by decide +kernel
theorem dX7_deletes_163 : decode cX7_deletes 163 = .ok (.aload_n 0, 1) := by decide +kernel
theorem dX7_deletes_164 : decode cX7_deletes 164 = .ok (.getfield 9, 3) := by decide +kernel
theorem dX7_deletes_167 : decode cX7_deletes 167 = .ok (.iconst 0, 1) := by decide +kernel
theorem dX7_deletes_168 : decode cX7_deletes 168 = .ok (.iaload, 1) := by decide +kernel
theorem dX7_deletes_169 : decode cX7_deletes 169 = .ok (.aload_n 0, 1) := by decide +kernel
theorem dX7_deletes_170 : decode cX7_deletes 170 = .ok (.getfield 9, 3) := by decide +kernel
theorem dX7_deletes_173 : decode cX7_deletes 173 = .ok (.bipush 7, 2) := by decide +kernel
theorem dX7_deletes_175 : decode cX7_deletes 175 = .ok (.iaload, 1) := by decide +kernel
theorem dX7_deletes_176 : decode cX7_deletes 176 = .ok (.iadd, 1) := by decide +kernel
theorem dX7_deletes_177 : decode cX7_deletes 177 = .ok (.iastore, 1) := by decide +kernel
theorem dX7_deletes_178 : decode cX7_deletes 178 = .ok (.return_, 1) := by decide +kernel
theorem dX7_doWrite_0 : decode cX7_doWrite 0 = .ok (.aload_n 0, 1) := by decide +kernel
theorem dX7_doWrite_1 : decode cX7_doWrite 1 = .ok (.getfield 9, 3) := by decide +kernel
theorem dX7_doWrite_4 : decode cX7_doWrite 4 = .ok (.iconst 2, 1) := by decide +kernel
theorem dX7_doWrite_5 : decode cX7_doWrite 5 = .ok (.iaload, 1) := by decide +kernel
theorem dX7_doWrite_6 : decode cX7_doWrite 6 = .ok (.bipush 60, 2) := by decide +kernel
theorem dX7_doWrite_8 : decode cX7_doWrite 8 = .ok (.if_icmp .ne 6, 3) := by decide +kernel
theorem dX7_doWrite_11 : decode cX7_doWrite 11 = .ok (.bipush (-3), 2) := by decide +kernel
theorem dX7_doWrite_13 : decode cX7_doWrite 13 = .ok (.ireturn, 1) := by decide +kernel
theorem dX7_doWrite_14 : decode cX7_doWrite 14 = .ok (.aload_n 0, 1) := by decide +kernel
theorem dX7_doWrite_15 : decode cX7_doWrite 15 = .ok (.getfield 9, 3) := by decide +kernel
theorem dX7_doWrite_18 : decode cX7_doWrite 18 = .ok (.bipush 36, 2) := by decide +kernel
theorem dX7_doWrite_20 : decode cX7_doWrite 20 = .ok (.iconst 3, 1) := by decide +kernel
theorem dX7_doWrite_21 : decode cX7_doWrite 21 = .ok (.aload_n 0, 1) := by decide +kernel
theorem dX7_doWrite_22 : decode cX7_doWrite 22 = .ok (.getfield 9, 3) := by decide +kernel
theorem dX7_doWrite_25 : decode cX7_doWrite 25 = .ok (.iconst 2, 1) := by decide +kernel
theorem dX7_doWrite_26 : decode cX7_doWrite 26 = .ok (.iaload, 1) := by decide +kernel
theorem dX7_doWrite_27 : decode cX7_doWrite 27 = .ok (.imul, 1) := by decide +kernel
theorem dX7_doWrite_28 : decode cX7_doWrite 28 = .ok (.iadd, 1) := by decide +kernel
theorem dX7_doWrite_29 : decode cX7_doWrite 29 = .ok (.iload_n 2, 1) := by decide +kernel
theorem dX7_doWrite_30 : decode cX7_doWrite 30 = .ok (.iastore, 1) := by decide +kernel
theorem dX7_doWrite_31 : decode cX7_doWrite 31 = .ok (.aload_n 0, 1) := by decide +kernel
theorem dX7_doWrite_32 : decode cX7_doWrite 32 = .ok (.getfield 9, 3) := by decide +kernel
theorem dX7_doWrite_35 : decode cX7_doWrite 35 = .ok (.bipush 36, 2) := by decide +kernel
theorem dX7_doWrite_37 : decode cX7_doWrite 37 = .ok (.iconst 3, 1) := by decide +kernel
theorem dX7_doWrite_38 : decode cX7_doWrite 38 = .ok (.aload_n 0, 1) := by decide +kernel
theorem dX7_doWrite_39 : decode cX7_doWrite 39 = .ok (.getfield 9, 3) := by decide +kernel
theorem dX7_doWrite_42 : decode cX7_doWrite 42 = .ok (.iconst 2, 1) := by decide +kernel
theorem dX7_doWrite_43 : decode cX7_doWrite 43 = .ok (.iaload, 1) := by decide +kernel
theorem dX7_doWrite_44 : decode cX7_doWrite 44 = .ok (.imul, 1) := by decide +kernel
theorem dX7_doWrite_45 : decode cX7_doWrite 45 = .ok (.iadd, 1) := by decide +kernel
theorem dX7_doWrite_46 : decode cX7_doWrite 46 = .ok (.iconst 1, 1) := by decide +kernel
theorem dX7_doWrite_47 : decode cX7_doWrite 47 = .ok (.iadd, 1) := by decide +kernel
theorem dX7_doWrite_48 : decode cX7_doWrite 48 = .ok (.iload_n 3, 1) := by decide +kernel
theorem dX7_doWrite_49 : decode cX7_doWrite 49 = .ok (.iastore, 1) := by decide +kernel
theorem dX7_doWrite_50 : decode cX7_doWrite 50 = .ok (.aload_n 0, 1) := by decide +kernel
theorem dX7_doWrite_51 : decode cX7_doWrite 51 = .ok (.getfield 9, 3) := by decide +kernel
theorem dX7_doWrite_54 : decode cX7_doWrite 54 = .ok (.bipush 36, 2) := by decide +kernel
theorem dX7_doWrite_56 : decode cX7_doWrite 56 = .ok (.iconst 3, 1) := by decide +kernel
theorem dX7_doWrite_57 : decode cX7_doWrite 57 = .ok (.aload_n 0, 1) := by decide +kernel
theorem dX7_doWrite_58 : decode cX7_doWrite 58 = .ok (.getfield 9, 3) := by decide +kernel
theorem dX7_doWrite_61 : decode cX7_doWrite 61 = .ok (.iconst 2, 1) := by decide +kernel
theorem dX7_doWrite_62 : decode cX7_doWrite 62 = .ok (.iaload, 1) := by decide +kernel
theorem dX7_doWrite_63 : decode cX7_doWrite 63 = .ok (.imul, 1) := by decide +kernel
theorem dX7_doWrite_64 : decode cX7_doWrite 64 = .ok (.iadd, 1) := by decide +kernel
theorem dX7_doWrite_65 : decode cX7_doWrite 65 = .ok (.iconst 2, 1) := by decide +kernel
theorem dX7_doWrite_66 : decode cX7_doWrite 66 = .ok (.iadd, 1) := by decide +kernel
theorem dX7_doWrite_67 : decode cX7_doWrite 67 = .ok (.iload_n 1, 1) := by decide +kernel
theorem dX7_doWrite_68 : decode cX7_doWrite 68 = .ok (.iastore, 1) := by decide +kernel
theorem dX7_doWrite_69 : decode cX7_doWrite 69 = .ok (.aload_n 0, 1) := by decide +kernel
theorem dX7_doWrite_70 : decode cX7_doWrite 70 = .ok (.getfield 9, 3) := by decide +kernel
theorem dX7_doWrite_73 : decode cX7_doWrite 73 = .ok (.iconst 2, 1) := by decide +kernel
theorem dX7_doWrite_74 : decode cX7_doWrite 74 = .ok (.dup2, 1) := by decide +kernel
theorem dX7_doWrite_75 : decode cX7_doWrite 75 = .ok (.iaload, 1) := by decide +kernel
theorem dX7_doWrite_76 : decode cX7_doWrite 76 = .ok (.iconst 1, 1) := by decide +kernel
theorem dX7_doWrite_77 : decode cX7_doWrite 77 = .ok (.iadd, 1) := by decide +kernel
theorem dX7_doWrite_78 : decode cX7_doWrite 78 = .ok (.iastore, 1) := by decide +kernel
theorem dX7_doWrite_79 : decode cX7_doWrite 79 = .ok (.aload_n 0, 1) := by decide +kernel
theorem dX7_doWrite_80 : decode cX7_doWrite 80 = .ok (.iload_n 1, 1) := by decide +kernel
theorem dX7_doWrite_81 : decode cX7_doWrite 81 = .ok (.invokevirtual 109, 3) := by decide +kernel
theorem dX7_doWrite_84 : decode cX7_doWrite 84 = .ok (.iconst 2, 1) := by decide +kernel
theorem dX7_doWrite_85 : decode cX7_doWrite 85 = .ok (.idiv, 1) := by decide +kernel
theorem dX7_doWrite_86 : decode cX7_doWrite 86 = .ok (.istore 4, 2) := by decide +kernel
theorem dX7_doWrite_88 : decode cX7_doWrite 88 = .ok (.iload 4, 2) := by decide +kernel
theorem dX7_doWrite_90 : decode cX7_doWrite 90 = .ok (.ifCond .eq 25, 3) := by decide +kernel
theorem dX7_doWrite_93 : decode cX7_doWrite 93 = .ok (.aload_n 0, 1) := by decide +kernel
theorem dX7_doWrite_94 : decode cX7_doWrite 94 = .ok (.getfield 9, 3) := by decide +kernel
theorem dX7_doWrite_97 : decode cX7_doWrite 97 = .ok (.sipush 942, 3) := by decide +kernel
theorem dX7_doWrite_100 : decode cX7_doWrite 100 = .ok (.bipush 10, 2) := by decide +kernel
theorem dX7_doWrite_102 : decode cX7_doWrite 102 = .ok (.iload 4, 2) := by decide +kernel
theorem dX7_doWrite_104 : decode cX7_doWrite 104 = .ok (.imul, 1) := by decide +kernel
theorem dX7_doWrite_105 : decode cX7_doWrite 105 = .ok (.iadd, 1) := by decide +kernel
theorem dX7_doWrite_106 : decode cX7_doWrite 106 = .ok (.iload_n 2, 1) := by decide +kernel
theorem dX7_doWrite_107 : decode cX7_doWrite 107 = .ok (.iadd, 1) := by decide +kernel
theorem dX7_doWrite_108 : decode cX7_doWrite 108 = .ok (.aload_n 0, 1) := by decide +kernel
theorem dX7_doWrite_109 : decode cX7_doWrite 109 = .ok (.getfield 9, 3) := by decide +kernel
theorem dX7_doWrite_112 : decode cX7_doWrite 112 = .ok (.iconst 2, 1) := by decide +kernel
theorem dX7_doWrite_113 : decode cX7_doWrite 113 = .ok (.iaload, 1) := by decide +kernel
theorem dX7_doWrite_114 : decode cX7_doWrite 114 = .ok (.iastore, 1) := by decide +kernel
theorem dX7_doWrite_115 : decode cX7_doWrite 115 = .ok (.aload_n 0, 1) := by decide +kernel
theorem dX7_doWrite_116 : decode cX7_doWrite 116 = .ok (.aload_n 0, 1) := by decide +kernel
theorem dX7_doWrite_117 : decode cX7_doWrite 117 = .ok (.iload_n 1, 1) := by decide +kernel
theorem dX7_doWrite_118 : decode cX7_doWrite 118 = .ok (.invokevirtual 109, 3) := by decide +kernel
theorem dX7_doWrite_121 : decode cX7_doWrite 121 = .ok (.iload_n 2, 1) := by decide +kernel
theorem dX7_doWrite_122 : decode cX7_doWrite 122 = .ok (.invokevirtual 144, 3) := by decide +kernel
theorem dX7_doWrite_125 : decode cX7_doWrite 125 = .ok (.aload_n 0, 1) := by decide +kernel
theorem dX7_doWrite_126 : decode cX7_doWrite 126 = .ok (.getfield 9, 3) := by decide +kernel
theorem dX7_doWrite_129 : decode cX7_doWrite 129 = .ok (.iconst 2, 1) := by decide +kernel
theorem dX7_doWrite_130 : decode cX7_doWrite 130 = .ok (.iaload, 1) := by decide +kernel
theorem dX7_doWrite_131 : decode cX7_doWrite 131 = .ok (.ireturn, 1) := by decide +kernel
theorem dX7_doApply_0 : decode cX7_doApply 0 = .ok (.aload_n 0, 1) := by decide +kernel
theorem dX7_doApply_1 : decode cX7_doApply 1 = .ok (.getfield 9, 3) := by decide +kernel
theorem dX7_doApply_4 : decode cX7_doApply 4 = .ok (.bipush 10, 2) := by decide +kernel
theorem dX7_doApply_6 : decode cX7_doApply 6 = .ok (.iload_n 1, 1) := by decide +kernel
theorem dX7_doApply_7 : decode cX7_doApply 7 = .ok (.iadd, 1) := by decide +kernel
theorem dX7_doApply_8 : decode cX7_doApply 8 = .ok (.iaload, 1) := by decide +kernel
theorem dX7_doApply_9 : decode cX7_doApply 9 = .ok (.aload_n 0, 1) := by decide +kernel
theorem dX7_doApply_10 : decode cX7_doApply 10 = .ok (.getfield 9, 3) := by decide +kernel
theorem dX7_doApply_13 : decode cX7_doApply 13 = .ok (.iconst 2, 1) := by decide +kernel
theorem dX7_doApply_14 : decode cX7_doApply 14 = .ok (.iaload, 1) := by decide +kernel
theorem dX7_doApply_15 : decode cX7_doApply 15 = .ok (.if_icmp .ne 6, 3) := by decide +kernel
theorem dX7_doApply_18 : decode cX7_doApply 18 = .ok (.bipush (-2), 2) := by decide +kernel
theorem dX7_doApply_20 : decode cX7_doApply 20 = .ok (.ireturn, 1) := by decide +kernel
theorem dX7_doApply_21 : decode cX7_doApply 21 = .ok (.aload_n 0, 1) := by decide +kernel
theorem dX7_doApply_22 : decode cX7_doApply 22 = .ok (.getfield 9, 3) := by decide +kernel
theorem dX7_doApply_25 : decode cX7_doApply 25 = .ok (.bipush 10, 2) := by decide +kernel
theorem dX7_doApply_27 : decode cX7_doApply 27 = .ok (.iload_n 1, 1) := by decide +kernel
theorem dX7_doApply_28 : decode cX7_doApply 28 = .ok (.iadd, 1) := by decide +kernel
theorem dX7_doApply_29 : decode cX7_doApply 29 = .ok (.dup2, 1) := by decide +kernel
theorem dX7_doApply_30 : decode cX7_doApply 30 = .ok (.iaload, 1) := by decide +kernel
theorem dX7_doApply_31 : decode cX7_doApply 31 = .ok (.iconst 1, 1) := by decide +kernel
theorem dX7_doApply_32 : decode cX7_doApply 32 = .ok (.iadd, 1) := by decide +kernel
theorem dX7_doApply_33 : decode cX7_doApply 33 = .ok (.iastore, 1) := by decide +kernel
theorem dX7_doApply_34 : decode cX7_doApply 34 = .ok (.aload_n 0, 1) := by decide +kernel
theorem dX7_doApply_35 : decode cX7_doApply 35 = .ok (.getfield 9, 3) := by decide +kernel
theorem dX7_doApply_38 : decode cX7_doApply 38 = .ok (.bipush 10, 2) := by decide +kernel
theorem dX7_doApply_40 : decode cX7_doApply 40 = .ok (.iload_n 1, 1) := by decide +kernel
theorem dX7_doApply_41 : decode cX7_doApply 41 = .ok (.iadd, 1) := by decide +kernel
theorem dX7_doApply_42 : decode cX7_doApply 42 = .ok (.iaload, 1) := by decide +kernel
theorem dX7_doApply_43 : decode cX7_doApply 43 = .ok (.istore_n 2, 1) := by decide +kernel
theorem dX7_doApply_44 : decode cX7_doApply 44 = .ok (.aload_n 0, 1) := by decide +kernel
theorem dX7_doApply_45 : decode cX7_doApply 45 = .ok (.iload_n 2, 1) := by decide +kernel
theorem dX7_doApply_46 : decode cX7_doApply 46 = .ok (.invokevirtual 102, 3) := by decide +kernel
theorem dX7_doApply_49 : decode cX7_doApply 49 = .ok (.istore_n 3, 1) := by decide +kernel
theorem dX7_doApply_50 : decode cX7_doApply 50 = .ok (.aload_n 0, 1) := by decide +kernel
theorem dX7_doApply_51 : decode cX7_doApply 51 = .ok (.iconst 2, 1) := by decide +kernel
theorem dX7_doApply_52 : decode cX7_doApply 52 = .ok (.iload_n 1, 1) := by decide +kernel
theorem dX7_doApply_53 : decode cX7_doApply 53 = .ok (.imul, 1) := by decide +kernel
theorem dX7_doApply_54 : decode cX7_doApply 54 = .ok (.iload_n 3, 1) := by decide +kernel
theorem dX7_doApply_55 : decode cX7_doApply 55 = .ok (.invokevirtual 144, 3) := by decide +kernel
theorem dX7_doApply_58 : decode cX7_doApply 58 = .ok (.aload_n 0, 1) := by decide +kernel
theorem dX7_doApply_59 : decode cX7_doApply 59 = .ok (.iconst 2, 1) := by decide +kernel
theorem dX7_doApply_60 : decode cX7_doApply 60 = .ok (.iload_n 1, 1) := by decide +kernel
theorem dX7_doApply_61 : decode cX7_doApply 61 = .ok (.imul, 1) := by decide +kernel
theorem dX7_doApply_62 : decode cX7_doApply 62 = .ok (.iconst 1, 1) := by decide +kernel
theorem dX7_doApply_63 : decode cX7_doApply 63 = .ok (.iadd, 1) := by decide +kernel
theorem dX7_doApply_64 : decode cX7_doApply 64 = .ok (.iload_n 3, 1) := by decide +kernel
theorem dX7_doApply_65 : decode cX7_doApply 65 = .ok (.invokevirtual 144, 3) := by decide +kernel
theorem dX7_doApply_68 : decode cX7_doApply 68 = .ok (.aload_n 0, 1) := by decide +kernel
theorem dX7_doApply_69 : decode cX7_doApply 69 = .ok (.getfield 9, 3) := by decide +kernel
theorem dX7_doApply_72 : decode cX7_doApply 72 = .ok (.sipush 942, 3) := by decide +kernel
theorem dX7_doApply_75 : decode cX7_doApply 75 = .ok (.bipush 10, 2) := by decide +kernel
theorem dX7_doApply_77 : decode cX7_doApply 77 = .ok (.iload_n 1, 1) := by decide +kernel
theorem dX7_doApply_78 : decode cX7_doApply 78 = .ok (.imul, 1) := by decide +kernel
theorem dX7_doApply_79 : decode cX7_doApply 79 = .ok (.iadd, 1) := by decide +kernel
theorem dX7_doApply_80 : decode cX7_doApply 80 = .ok (.iload_n 3, 1) := by decide +kernel
theorem dX7_doApply_81 : decode cX7_doApply 81 = .ok (.iadd, 1) := by decide +kernel
theorem dX7_doApply_82 : decode cX7_doApply 82 = .ok (.iaload, 1) := by decide +kernel
theorem dX7_doApply_83 : decode cX7_doApply 83 = .ok (.iload_n 2, 1) := by decide +kernel
theorem dX7_doApply_84 : decode cX7_doApply 84 = .ok (.if_icmp .gt 19, 3) := by decide +kernel
theorem dX7_doApply_87 : decode cX7_doApply 87 = .ok (.aload_n 0, 1) := by decide +kernel
theorem dX7_doApply_88 : decode cX7_doApply 88 = .ok (.getfield 9, 3) := by decide +kernel
theorem dX7_doApply_91 : decode cX7_doApply 91 = .ok (.sipush 942, 3) := by decide +kernel
theorem dX7_doApply_94 : decode cX7_doApply 94 = .ok (.bipush 10, 2) := by decide +kernel
theorem dX7_doApply_96 : decode cX7_doApply 96 = .ok (.iload_n 1, 1) := by decide +kernel
theorem dX7_doApply_97 : decode cX7_doApply 97 = .ok (.imul, 1) := by decide +kernel
theorem dX7_doApply_98 : decode cX7_doApply 98 = .ok (.iadd, 1) := by decide +kernel
theorem dX7_doApply_99 : decode cX7_doApply 99 = .ok (.iload_n 3, 1) := by decide +kernel
theorem dX7_doApply_100 : decode cX7_doApply 100 = .ok (.iadd, 1) := by decide +kernel
theorem dX7_doApply_101 : decode cX7_doApply 101 = .ok (.iconst 0, 1) := by decide +kernel
theorem dX7_doApply_102 : decode cX7_doApply 102 = .ok (.iastore, 1) := by decide +kernel
theorem dX7_doApply_103 : decode cX7_doApply 103 = .ok (.iload_n 2, 1) := by decide +kernel
theorem dX7_doApply_104 : decode cX7_doApply 104 = .ok (.ireturn, 1) := by decide +kernel
theorem dX7_doCold_0 : decode cX7_doCold 0 = .ok (.aload_n 0, 1) := by decide +kernel
theorem dX7_doCold_1 : decode cX7_doCold 1 = .ok (.getfield 9, 3) := by decide +kernel
theorem dX7_doCold_4 : decode cX7_doCold 4 = .ok (.sipush 216, 3) := by decide +kernel
theorem dX7_doCold_7 : decode cX7_doCold 7 = .ok (.iload_n 1, 1) := by decide +kernel
theorem dX7_doCold_8 : decode cX7_doCold 8 = .ok (.iadd, 1) := by decide +kernel
theorem dX7_doCold_9 : decode cX7_doCold 9 = .ok (.iaload, 1) := by decide +kernel
theorem dX7_doCold_10 : decode cX7_doCold 10 = .ok (.iload_n 2, 1) := by decide +kernel
theorem dX7_doCold_11 : decode cX7_doCold 11 = .ok (.if_icmp .ne 4, 3) := by decide +kernel
theorem dX7_doCold_14 : decode cX7_doCold 14 = .ok (.return_, 1) := by decide +kernel
theorem dX7_doCold_15 : decode cX7_doCold 15 = .ok (.aload_n 0, 1) := by decide +kernel
theorem dX7_doCold_16 : decode cX7_doCold 16 = .ok (.getfield 9, 3) := by decide +kernel
theorem dX7_doCold_19 : decode cX7_doCold 19 = .ok (.sipush 216, 3) := by decide +kernel
theorem dX7_doCold_22 : decode cX7_doCold 22 = .ok (.iload_n 1, 1) := by decide +kernel
theorem dX7_doCold_23 : decode cX7_doCold 23 = .ok (.iadd, 1) := by decide +kernel
theorem dX7_doCold_24 : decode cX7_doCold 24 = .ok (.iload_n 2, 1) := by decide +kernel
theorem dX7_doCold_25 : decode cX7_doCold 25 = .ok (.iastore, 1) := by decide +kernel
theorem dX7_doCold_26 : decode cX7_doCold 26 = .ok (.iconst 0, 1) := by decide +kernel
theorem dX7_doCold_27 : decode cX7_doCold 27 = .ok (.istore_n 3, 1) := by decide +kernel
theorem dX7_doCold_28 : decode cX7_doCold 28 = .ok (.iload_n 3, 1) := by decide +kernel
theorem dX7_doCold_29 : decode cX7_doCold 29 = .ok (.bipush 10, 2) := by decide +kernel
theorem dX7_doCold_31 : decode cX7_doCold 31 = .ok (.if_icmp .ge 58, 3) := by decide +kernel
theorem dX7_doCold_34 : decode cX7_doCold 34 = .ok (.aload_n 0, 1) := by decide +kernel
theorem dX7_doCold_35 : decode cX7_doCold 35 = .ok (.getfield 9, 3) := by decide +kernel
theorem dX7_doCold_38 : decode cX7_doCold 38 = .ok (.iload_n 1, 1) := by decide +kernel
theorem dX7_doCold_39 : decode cX7_doCold 39 = .ok (.iload_n 3, 1) := by decide +kernel
theorem dX7_doCold_40 : decode cX7_doCold 40 = .ok (.invokestatic 137, 3) := by decide +kernel
theorem dX7_doCold_43 : decode cX7_doCold 43 = .ok (.iconst 0, 1) := by decide +kernel
theorem dX7_doCold_44 : decode cX7_doCold 44 = .ok (.iastore, 1) := by decide +kernel
theorem dX7_doCold_45 : decode cX7_doCold 45 = .ok (.iload_n 2, 1) := by decide +kernel
theorem dX7_doCold_46 : decode cX7_doCold 46 = .ok (.iconst 1, 1) := by decide +kernel
theorem dX7_doCold_47 : decode cX7_doCold 47 = .ok (.if_icmp .ne 36, 3) := by decide +kernel
theorem dX7_doCold_50 : decode cX7_doCold 50 = .ok (.aload_n 0, 1) := by decide +kernel
theorem dX7_doCold_51 : decode cX7_doCold 51 = .ok (.getfield 9, 3) := by decide +kernel
theorem dX7_doCold_54 : decode cX7_doCold 54 = .ok (.iload_n 1, 1) := by decide +kernel
theorem dX7_doCold_55 : decode cX7_doCold 55 = .ok (.iload_n 3, 1) := by decide +kernel
theorem dX7_doCold_56 : decode cX7_doCold 56 = .ok (.invokestatic 112, 3) := by decide +kernel
theorem dX7_doCold_59 : decode cX7_doCold 59 = .ok (.iconst 0, 1) := by decide +kernel
theorem dX7_doCold_60 : decode cX7_doCold 60 = .ok (.iastore, 1) := by decide +kernel
theorem dX7_doCold_61 : decode cX7_doCold 61 = .ok (.aload_n 0, 1) := by decide +kernel
theorem dX7_doCold_62 : decode cX7_doCold 62 = .ok (.getfield 9, 3) := by decide +kernel
theorem dX7_doCold_65 : decode cX7_doCold 65 = .ok (.iload_n 1, 1) := by decide +kernel
theorem dX7_doCold_66 : decode cX7_doCold 66 = .ok (.iload_n 3, 1) := by decide +kernel
theorem dX7_doCold_67 : decode cX7_doCold 67 = .ok (.invokestatic 122, 3) := by decide +kernel
theorem dX7_doCold_70 : decode cX7_doCold 70 = .ok (.iconst 0, 1) := by decide +kernel
theorem dX7_doCold_71 : decode cX7_doCold 71 = .ok (.iastore, 1) := by decide +kernel
theorem dX7_doCold_72 : decode cX7_doCold 72 = .ok (.aload_n 0, 1) := by decide +kernel
theorem dX7_doCold_73 : decode cX7_doCold 73 = .ok (.getfield 9, 3) := by decide +kernel
theorem dX7_doCold_76 : decode cX7_doCold 76 = .ok (.iload_n 1, 1) := by decide +kernel
theorem dX7_doCold_77 : decode cX7_doCold 77 = .ok (.iload_n 3, 1) := by decide +kernel
theorem dX7_doCold_78 : decode cX7_doCold 78 = .ok (.invokestatic 119, 3) := by decide +kernel
theorem dX7_doCold_81 : decode cX7_doCold 81 = .ok (.iconst 0, 1) := by decide +kernel
theorem dX7_doCold_82 : decode cX7_doCold 82 = .ok (.iastore, 1) := by decide +kernel
theorem dX7_doCold_83 : decode cX7_doCold 83 = .ok (.iinc 3 1, 3) := by decide +kernel
theorem dX7_doCold_86 : decode cX7_doCold 86 = .ok (.goto (-58), 3) := by decide +kernel
theorem dX7_doCold_89 : decode cX7_doCold 89 = .ok (.return_, 1) := by decide +kernel
theorem dX7_told_0 : decode cX7_told 0 = .ok (.iload_n 1, 1) := by decide +kernel
theorem dX7_told_1 : decode cX7_told 1 = .ok (.iconst (-1), 1) := by decide +kernel
theorem dX7_told_2 : decode cX7_told 2 = .ok (.if_icmp .eq 33, 3) := by decide +kernel
theorem dX7_told_5 : decode cX7_told 5 = .ok (.iload_n 1, 1) := by decide +kernel
theorem dX7_told_6 : decode cX7_told 6 = .ok (.bipush (-2), 2) := by decide +kernel
theorem dX7_told_8 : decode cX7_told 8 = .ok (.if_icmp .eq 27, 3) := by decide +kernel
theorem dX7_told_11 : decode cX7_told 11 = .ok (.iload_n 1, 1) := by decide +kernel
theorem dX7_told_12 : decode cX7_told 12 = .ok (.bipush (-3), 2) := by decide +kernel
theorem dX7_told_14 : decode cX7_told 14 = .ok (.if_icmp .eq 21, 3) := by decide +kernel
theorem dX7_told_17 : decode cX7_told 17 = .ok (.iload_n 1, 1) := by decide +kernel
theorem dX7_told_18 : decode cX7_told 18 = .ok (.bipush (-5), 2) := by decide +kernel
theorem dX7_told_20 : decode cX7_told 20 = .ok (.if_icmp .eq 15, 3) := by decide +kernel
theorem dX7_told_23 : decode cX7_told 23 = .ok (.iload_n 1, 1) := by decide +kernel
theorem dX7_told_24 : decode cX7_told 24 = .ok (.bipush (-11), 2) := by decide +kernel
theorem dX7_told_26 : decode cX7_told 26 = .ok (.if_icmp .eq 9, 3) := by decide +kernel
theorem dX7_told_29 : decode cX7_told 29 = .ok (.iload_n 1, 1) := by decide +kernel
theorem dX7_told_30 : decode cX7_told 30 = .ok (.bipush (-13), 2) := by decide +kernel
theorem dX7_told_32 : decode cX7_told 32 = .ok (.if_icmp .ne 5, 3) := by decide +kernel
theorem dX7_told_35 : decode cX7_told 35 = .ok (.iload_n 1, 1) := by decide +kernel
theorem dX7_told_36 : decode cX7_told 36 = .ok (.ireturn, 1) := by decide +kernel
theorem dX7_told_37 : decode cX7_told 37 = .ok (.aload_n 0, 1) := by decide +kernel
theorem dX7_told_38 : decode cX7_told 38 = .ok (.getfield 148, 3) := by decide +kernel
theorem dX7_told_41 : decode cX7_told 41 = .ok (.bipush 30, 2) := by decide +kernel
theorem dX7_told_43 : decode cX7_told 43 = .ok (.if_icmp .ne 31, 3) := by decide +kernel
theorem dX7_told_46 : decode cX7_told 46 = .ok (.aload_n 0, 1) := by decide +kernel
theorem dX7_told_47 : decode cX7_told 47 = .ok (.getfield 13, 3) := by decide +kernel
theorem dX7_told_50 : decode cX7_told 50 = .ok (.sipush 1014, 3) := by decide +kernel
theorem dX7_told_53 : decode cX7_told 53 = .ok (.aload_n 0, 1) := by decide +kernel
theorem dX7_told_54 : decode cX7_told 54 = .ok (.getfield 13, 3) := by decide +kernel
theorem dX7_told_57 : decode cX7_told 57 = .ok (.iconst 0, 1) := by decide +kernel
theorem dX7_told_58 : decode cX7_told 58 = .ok (.sipush 30420, 3) := by decide +kernel
theorem dX7_told_61 : decode cX7_told 61 = .ok (.invokestatic 86, 3) := by decide +kernel
theorem dX7_told_64 : decode cX7_told 64 = .ok (.aload_n 0, 1) := by decide +kernel
theorem dX7_told_65 : decode cX7_told 65 = .ok (.dup, 1) := by decide +kernel
theorem dX7_told_66 : decode cX7_told 66 = .ok (.getfield 148, 3) := by decide +kernel
theorem dX7_told_69 : decode cX7_told 69 = .ok (.iconst 1, 1) := by decide +kernel
theorem dX7_told_70 : decode cX7_told 70 = .ok (.isub, 1) := by decide +kernel
theorem dX7_told_71 : decode cX7_told 71 = .ok (.putfield 148, 3) := by decide +kernel
theorem dX7_told_74 : decode cX7_told 74 = .ok (.aload_n 0, 1) := by decide +kernel
theorem dX7_told_75 : decode cX7_told 75 = .ok (.dup, 1) := by decide +kernel
theorem dX7_told_76 : decode cX7_told 76 = .ok (.getfield 148, 3) := by decide +kernel
theorem dX7_told_79 : decode cX7_told 79 = .ok (.iconst 1, 1) := by decide +kernel
theorem dX7_told_80 : decode cX7_told 80 = .ok (.iadd, 1) := by decide +kernel
theorem dX7_told_81 : decode cX7_told 81 = .ok (.putfield 148, 3) := by decide +kernel
theorem dX7_told_84 : decode cX7_told 84 = .ok (.aload_n 0, 1) := by decide +kernel
theorem dX7_told_85 : decode cX7_told 85 = .ok (.aload_n 0, 1) := by decide +kernel
theorem dX7_told_86 : decode cX7_told 86 = .ok (.getfield 148, 3) := by decide +kernel

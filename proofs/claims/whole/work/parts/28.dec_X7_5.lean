theorem dX7_stormRound_128 : decode cX7_stormRound 128 = .ok (.iconst 1, 1) := by decide +kernel
theorem dX7_stormRound_129 : decode cX7_stormRound 129 = .ok (.iadd, 1) := by decide +kernel
theorem dX7_stormRound_130 : decode cX7_stormRound 130 = .ok (.iaload, 1) := by decide +kernel
theorem dX7_stormRound_131 : decode cX7_stormRound 131 = .ok (.iload_n 2, 1) := by decide +kernel
theorem dX7_stormRound_132 : decode cX7_stormRound 132 = .ok (.if_icmp .ne 7, 3) := by decide +kernel
theorem dX7_stormRound_135 : decode cX7_stormRound 135 = .ok (.iconst 1, 1) := by decide +kernel
theorem dX7_stormRound_136 : decode cX7_stormRound 136 = .ok (.goto 4, 3) := by decide +kernel
theorem dX7_stormRound_139 : decode cX7_stormRound 139 = .ok (.iconst 0, 1) := by decide +kernel
theorem dX7_stormRound_140 : decode cX7_stormRound 140 = .ok (.bastore, 1) := by decide +kernel
theorem dX7_stormRound_141 : decode cX7_stormRound 141 = .ok (.aload_n 0, 1) := by decide +kernel
theorem dX7_stormRound_142 : decode cX7_stormRound 142 = .ok (.getfield 67, 3) := by decide +kernel
theorem dX7_stormRound_145 : decode cX7_stormRound 145 = .ok (.iload 4, 2) := by decide +kernel
theorem dX7_stormRound_147 : decode cX7_stormRound 147 = .ok (.baload, 1) := by decide +kernel
theorem dX7_stormRound_148 : decode cX7_stormRound 148 = .ok (.ifCond .eq 10, 3) := by decide +kernel
theorem dX7_stormRound_151 : decode cX7_stormRound 151 = .ok (.aload_n 0, 1) := by decide +kernel
theorem dX7_stormRound_152 : decode cX7_stormRound 152 = .ok (.iload 4, 2) := by decide +kernel
theorem dX7_stormRound_154 : decode cX7_stormRound 154 = .ok (.invokevirtual 167, 3) := by decide +kernel
theorem dX7_stormRound_157 : decode cX7_stormRound 157 = .ok (.pop, 1) := by decide +kernel
theorem dX7_stormRound_158 : decode cX7_stormRound 158 = .ok (.iinc 4 1, 3) := by decide +kernel
theorem dX7_stormRound_161 : decode cX7_stormRound 161 = .ok (.goto (-75), 3) := by decide +kernel
theorem dX7_stormRound_164 : decode cX7_stormRound 164 = .ok (.iconst 0, 1) := by decide +kernel
theorem dX7_stormRound_165 : decode cX7_stormRound 165 = .ok (.istore 4, 2) := by decide +kernel
theorem dX7_stormRound_167 : decode cX7_stormRound 167 = .ok (.iload 4, 2) := by decide +kernel
theorem dX7_stormRound_169 : decode cX7_stormRound 169 = .ok (.bipush 6, 2) := by decide +kernel
theorem dX7_stormRound_171 : decode cX7_stormRound 171 = .ok (.if_icmp .ge 34, 3) := by decide +kernel
theorem dX7_stormRound_174 : decode cX7_stormRound 174 = .ok (.aload_n 0, 1) := by decide +kernel
theorem dX7_stormRound_175 : decode cX7_stormRound 175 = .ok (.getfield 67, 3) := by decide +kernel
theorem dX7_stormRound_178 : decode cX7_stormRound 178 = .ok (.iload 4, 2) := by decide +kernel
theorem dX7_stormRound_180 : decode cX7_stormRound 180 = .ok (.baload, 1) := by decide +kernel
theorem dX7_stormRound_181 : decode cX7_stormRound 181 = .ok (.ifCond .eq 18, 3) := by decide +kernel
theorem dX7_stormRound_184 : decode cX7_stormRound 184 = .ok (.aload_n 0, 1) := by decide +kernel
theorem dX7_stormRound_185 : decode cX7_stormRound 185 = .ok (.iload 4, 2) := by decide +kernel
theorem dX7_stormRound_187 : decode cX7_stormRound 187 = .ok (.invokevirtual 170, 3) := by decide +kernel
theorem dX7_stormRound_190 : decode cX7_stormRound 190 = .ok (.pop, 1) := by decide +kernel
theorem dX7_stormRound_191 : decode cX7_stormRound 191 = .ok (.aload_n 0, 1) := by decide +kernel
theorem dX7_stormRound_192 : decode cX7_stormRound 192 = .ok (.getfield 64, 3) := by decide +kernel
theorem dX7_stormRound_195 : decode cX7_stormRound 195 = .ok (.iload 4, 2) := by decide +kernel
theorem dX7_stormRound_197 : decode cX7_stormRound 197 = .ok (.iconst 1, 1) := by decide +kernel
theorem dX7_stormRound_198 : decode cX7_stormRound 198 = .ok (.bastore, 1) := by decide +kernel
theorem dX7_stormRound_199 : decode cX7_stormRound 199 = .ok (.iinc 4 1, 3) := by decide +kernel
theorem dX7_stormRound_202 : decode cX7_stormRound 202 = .ok (.goto (-35), 3) := by decide +kernel
theorem dX7_stormRound_205 : decode cX7_stormRound 205 = .ok (.return_, 1) := by decide +kernel
theorem dX7_storm_0 : decode cX7_storm 0 = .ok (.iload_n 1, 1) := by decide +kernel
theorem dX7_storm_1 : decode cX7_storm 1 = .ok (.i2l, 1) := by decide +kernel
theorem dX7_storm_2 : decode cX7_storm 2 = .ok (.lconst 1, 1) := by decide +kernel
theorem dX7_storm_3 : decode cX7_storm 3 = .ok (.ldc2_w 255, 3) := by decide +kernel
theorem dX7_storm_6 : decode cX7_storm 6 = .ok (.invokestatic 94, 3) := by decide +kernel
theorem dX7_storm_9 : decode cX7_storm 9 = .ok (.ifCond .eq 33, 3) := by decide +kernel
theorem dX7_storm_12 : decode cX7_storm 12 = .ok (.iload_n 2, 1) := by decide +kernel
theorem dX7_storm_13 : decode cX7_storm 13 = .ok (.invokestatic 158, 3) := by decide +kernel
theorem dX7_storm_16 : decode cX7_storm 16 = .ok (.ifCond .eq 26, 3) := by decide +kernel
theorem dX7_storm_19 : decode cX7_storm 19 = .ok (.iload_n 3, 1) := by decide +kernel
theorem dX7_storm_20 : decode cX7_storm 20 = .ok (.i2l, 1) := by decide +kernel
theorem dX7_storm_21 : decode cX7_storm 21 = .ok (.lconst 0, 1) := by decide +kernel
theorem dX7_storm_22 : decode cX7_storm 22 = .ok (.lconst 1, 1) := by decide +kernel
theorem dX7_storm_23 : decode cX7_storm 23 = .ok (.invokestatic 94, 3) := by decide +kernel
theorem dX7_storm_26 : decode cX7_storm 26 = .ok (.ifCond .eq 16, 3) := by decide +kernel
theorem dX7_storm_29 : decode cX7_storm 29 = .ok (.iload 4, 2) := by decide +kernel
theorem dX7_storm_31 : decode cX7_storm 31 = .ok (.i2l, 1) := by decide +kernel
theorem dX7_storm_32 : decode cX7_storm 32 = .ok (.lconst 0, 1) := by decide +kernel
theorem dX7_storm_33 : decode cX7_storm 33 = .ok (.ldc2_w 195, 3) := by decide +kernel
theorem dX7_storm_36 : decode cX7_storm 36 = .ok (.invokestatic 94, 3) := by decide +kernel
theorem dX7_storm_39 : decode cX7_storm 39 = .ok (.ifCond .ne 5, 3) := by decide +kernel
theorem dX7_storm_42 : decode cX7_storm 42 = .ok (.iconst (-1), 1) := by decide +kernel
theorem dX7_storm_43 : decode cX7_storm 43 = .ok (.ireturn, 1) := by decide +kernel
theorem dX7_storm_44 : decode cX7_storm 44 = .ok (.aload_n 0, 1) := by decide +kernel
theorem dX7_storm_45 : decode cX7_storm 45 = .ok (.getfield 9, 3) := by decide +kernel
theorem dX7_storm_48 : decode cX7_storm 48 = .ok (.iconst 0, 1) := by decide +kernel
theorem dX7_storm_49 : decode cX7_storm 49 = .ok (.aload_n 0, 1) := by decide +kernel
theorem dX7_storm_50 : decode cX7_storm 50 = .ok (.getfield 48, 3) := by decide +kernel
theorem dX7_storm_53 : decode cX7_storm 53 = .ok (.iconst 0, 1) := by decide +kernel
theorem dX7_storm_54 : decode cX7_storm 54 = .ok (.sipush 1014, 3) := by decide +kernel
theorem dX7_storm_57 : decode cX7_storm 57 = .ok (.invokestatic 86, 3) := by decide +kernel
theorem dX7_storm_60 : decode cX7_storm 60 = .ok (.aload_n 0, 1) := by decide +kernel
theorem dX7_storm_61 : decode cX7_storm 61 = .ok (.invokevirtual 281, 3) := by decide +kernel
theorem dX7_storm_64 : decode cX7_storm 64 = .ok (.istore 5, 2) := by decide +kernel
theorem dX7_storm_66 : decode cX7_storm 66 = .ok (.aload_n 0, 1) := by decide +kernel
theorem dX7_storm_67 : decode cX7_storm 67 = .ok (.getfield 9, 3) := by decide +kernel
theorem dX7_storm_70 : decode cX7_storm 70 = .ok (.bipush 20, 2) := by decide +kernel
theorem dX7_storm_72 : decode cX7_storm 72 = .ok (.iaload, 1) := by decide +kernel
theorem dX7_storm_73 : decode cX7_storm 73 = .ok (.istore 6, 2) := by decide +kernel
theorem dX7_storm_75 : decode cX7_storm 75 = .ok (.iconst 0, 1) := by decide +kernel
theorem dX7_storm_76 : decode cX7_storm 76 = .ok (.istore 7, 2) := by decide +kernel
theorem dX7_storm_78 : decode cX7_storm 78 = .ok (.iload 7, 2) := by decide +kernel
theorem dX7_storm_80 : decode cX7_storm 80 = .ok (.bipush 6, 2) := by decide +kernel
theorem dX7_storm_82 : decode cX7_storm 82 = .ok (.if_icmp .ge 17, 3) := by decide +kernel
theorem dX7_storm_85 : decode cX7_storm 85 = .ok (.aload_n 0, 1) := by decide +kernel
theorem dX7_storm_86 : decode cX7_storm 86 = .ok (.getfield 64, 3) := by decide +kernel
theorem dX7_storm_89 : decode cX7_storm 89 = .ok (.iload 7, 2) := by decide +kernel
theorem dX7_storm_91 : decode cX7_storm 91 = .ok (.iconst 0, 1) := by decide +kernel
theorem dX7_storm_92 : decode cX7_storm 92 = .ok (.bastore, 1) := by decide +kernel
theorem dX7_storm_93 : decode cX7_storm 93 = .ok (.iinc 7 1, 3) := by decide +kernel
theorem dX7_storm_96 : decode cX7_storm 96 = .ok (.goto (-18), 3) := by decide +kernel
theorem dX7_storm_99 : decode cX7_storm 99 = .ok (.iconst 0, 1) := by decide +kernel
theorem dX7_storm_100 : decode cX7_storm 100 = .ok (.istore 7, 2) := by decide +kernel
theorem dX7_storm_102 : decode cX7_storm 102 = .ok (.iload 7, 2) := by decide +kernel
theorem dX7_storm_104 : decode cX7_storm 104 = .ok (.bipush 6, 2) := by decide +kernel
theorem dX7_storm_106 : decode cX7_storm 106 = .ok (.if_icmp .ge 24, 3) := by decide +kernel
theorem dX7_storm_109 : decode cX7_storm 109 = .ok (.aload_n 0, 1) := by decide +kernel
theorem dX7_storm_110 : decode cX7_storm 110 = .ok (.iload_n 1, 1) := by decide +kernel
theorem dX7_storm_111 : decode cX7_storm 111 = .ok (.invokevirtual 313, 3) := by decide +kernel
theorem dX7_storm_114 : decode cX7_storm 114 = .ok (.ifCond .ne 16, 3) := by decide +kernel
theorem dX7_storm_117 : decode cX7_storm 117 = .ok (.aload_n 0, 1) := by decide +kernel
theorem dX7_storm_118 : decode cX7_storm 118 = .ok (.iload_n 1, 1) := by decide +kernel
theorem dX7_storm_119 : decode cX7_storm 119 = .ok (.iload_n 2, 1) := by decide +kernel
theorem dX7_storm_120 : decode cX7_storm 120 = .ok (.iload_n 3, 1) := by decide +kernel
theorem dX7_storm_121 : decode cX7_storm 121 = .ok (.invokevirtual 316, 3) := by decide +kernel
theorem dX7_storm_124 : decode cX7_storm 124 = .ok (.iinc 7 1, 3) := by decide +kernel
theorem dX7_storm_127 : decode cX7_storm 127 = .ok (.goto (-25), 3) := by decide +kernel
theorem dX7_storm_130 : decode cX7_storm 130 = .ok (.iconst 0, 1) := by decide +kernel
theorem dX7_storm_131 : decode cX7_storm 131 = .ok (.istore 8, 2) := by decide +kernel
theorem dX7_storm_133 : decode cX7_storm 133 = .ok (.iconst 0, 1) := by decide +kernel
theorem dX7_storm_134 : decode cX7_storm 134 = .ok (.istore 9, 2) := by decide +kernel
theorem dX7_storm_136 : decode cX7_storm 136 = .ok (.iload 9, 2) := by decide +kernel
theorem dX7_storm_138 : decode cX7_storm 138 = .ok (.bipush 6, 2) := by decide +kernel
theorem dX7_storm_140 : decode cX7_storm 140 = .ok (.if_icmp .ge 29, 3) := by decide +kernel
theorem dX7_storm_143 : decode cX7_storm 143 = .ok (.iload 8, 2) := by decide +kernel
theorem dX7_storm_145 : decode cX7_storm 145 = .ok (.aload_n 0, 1) := by decide +kernel
theorem dX7_storm_146 : decode cX7_storm 146 = .ok (.getfield 64, 3) := by decide +kernel
theorem dX7_storm_149 : decode cX7_storm 149 = .ok (.iload 9, 2) := by decide +kernel
theorem dX7_storm_151 : decode cX7_storm 151 = .ok (.baload, 1) := by decide +kernel
theorem dX7_storm_152 : decode cX7_storm 152 = .ok (.ifCond .eq 7, 3) := by decide +kernel
theorem dX7_storm_155 : decode cX7_storm 155 = .ok (.iconst 1, 1) := by decide +kernel
theorem dX7_storm_156 : decode cX7_storm 156 = .ok (.goto 4, 3) := by decide +kernel
theorem dX7_storm_159 : decode cX7_storm 159 = .ok (.iconst 0, 1) := by decide +kernel
theorem dX7_storm_160 : decode cX7_storm 160 = .ok (.iadd, 1) := by decide +kernel
theorem dX7_storm_161 : decode cX7_storm 161 = .ok (.istore 8, 2) := by decide +kernel
theorem dX7_storm_163 : decode cX7_storm 163 = .ok (.iinc 9 1, 3) := by decide +kernel
theorem dX7_storm_166 : decode cX7_storm 166 = .ok (.goto (-30), 3) := by decide +kernel
theorem dX7_storm_169 : decode cX7_storm 169 = .ok (.iload 4, 2) := by decide +kernel
theorem dX7_storm_171 : decode cX7_storm 171 = .ok (.ifCond .ne 8, 3) := by decide +kernel
theorem dX7_storm_174 : decode cX7_storm 174 = .ok (.iload 7, 2) := by decide +kernel
theorem dX7_storm_176 : decode cX7_storm 176 = .ok (.goto 40, 3) := by decide +kernel
theorem dX7_storm_179 : decode cX7_storm 179 = .ok (.iload 4, 2) := by decide +kernel
theorem dX7_storm_181 : decode cX7_storm 181 = .ok (.iconst 1, 1) := by decide +kernel
theorem dX7_storm_182 : decode cX7_storm 182 = .ok (.if_icmp .ne 13, 3) := by decide +kernel
theorem dX7_storm_185 : decode cX7_storm 185 = .ok (.aload_n 0, 1) := by decide +kernel
theorem dX7_storm_186 : decode cX7_storm 186 = .ok (.invokevirtual 281, 3) := by decide +kernel
theorem dX7_storm_189 : decode cX7_storm 189 = .ok (.iload 5, 2) := by decide +kernel
theorem dX7_storm_191 : decode cX7_storm 191 = .ok (.isub, 1) := by decide +kernel
theorem dX7_storm_192 : decode cX7_storm 192 = .ok (.goto 24, 3) := by decide +kernel
theorem dX7_storm_195 : decode cX7_storm 195 = .ok (.iload 4, 2) := by decide +kernel
theorem dX7_storm_197 : decode cX7_storm 197 = .ok (.iconst 2, 1) := by decide +kernel
theorem dX7_storm_198 : decode cX7_storm 198 = .ok (.if_icmp .ne 8, 3) := by decide +kernel
theorem dX7_storm_201 : decode cX7_storm 201 = .ok (.iload 8, 2) := by decide +kernel
theorem dX7_storm_203 : decode cX7_storm 203 = .ok (.goto 13, 3) := by decide +kernel
theorem dX7_storm_206 : decode cX7_storm 206 = .ok (.aload_n 0, 1) := by decide +kernel
theorem dX7_storm_207 : decode cX7_storm 207 = .ok (.getfield 9, 3) := by decide +kernel
theorem dX7_storm_210 : decode cX7_storm 210 = .ok (.bipush 20, 2) := by decide +kernel
theorem dX7_storm_212 : decode cX7_storm 212 = .ok (.iaload, 1) := by decide +kernel
theorem dX7_storm_213 : decode cX7_storm 213 = .ok (.iload 6, 2) := by decide +kernel
theorem dX7_storm_215 : decode cX7_storm 215 = .ok (.isub, 1) := by decide +kernel
theorem dX7_storm_216 : decode cX7_storm 216 = .ok (.istore 9, 2) := by decide +kernel
theorem dX7_storm_218 : decode cX7_storm 218 = .ok (.aload_n 0, 1) := by decide +kernel
theorem dX7_storm_219 : decode cX7_storm 219 = .ok (.getfield 48, 3) := by decide +kernel
theorem dX7_storm_222 : decode cX7_storm 222 = .ok (.iconst 0, 1) := by decide +kernel
theorem dX7_storm_223 : decode cX7_storm 223 = .ok (.aload_n 0, 1) := by decide +kernel
theorem dX7_storm_224 : decode cX7_storm 224 = .ok (.getfield 9, 3) := by decide +kernel
theorem dX7_storm_227 : decode cX7_storm 227 = .ok (.iconst 0, 1) := by decide +kernel
theorem dX7_storm_228 : decode cX7_storm 228 = .ok (.sipush 1014, 3) := by decide +kernel
theorem dX7_storm_231 : decode cX7_storm 231 = .ok (.invokestatic 86, 3) := by decide +kernel
theorem dX7_storm_234 : decode cX7_storm 234 = .ok (.iload 9, 2) := by decide +kernel
theorem dX7_storm_236 : decode cX7_storm 236 = .ok (.ireturn, 1) := by decide +kernel
theorem dX7_settled_0 : decode cX7_settled 0 = .ok (.iload_n 1, 1) := by decide +kernel
theorem dX7_settled_1 : decode cX7_settled 1 = .ok (.i2l, 1) := by decide +kernel
theorem dX7_settled_2 : decode cX7_settled 2 = .ok (.lconst 0, 1) := by decide +kernel
theorem dX7_settled_3 : decode cX7_settled 3 = .ok (.ldc2_w 195, 3) := by decide +kernel
theorem dX7_settled_6 : decode cX7_settled 6 = .ok (.invokestatic 94, 3) := by decide +kernel
theorem dX7_settled_9 : decode cX7_settled 9 = .ok (.ifCond .ne 5, 3) := by decide +kernel
theorem dX7_settled_12 : decode cX7_settled 12 = .ok (.iconst (-1), 1) := by decide +kernel
theorem dX7_settled_13 : decode cX7_settled 13 = .ok (.ireturn, 1) := by decide +kernel
theorem dX7_settled_14 : decode cX7_settled 14 = .ok (.aload_n 0, 1) := by decide +kernel
theorem dX7_settled_15 : decode cX7_settled 15 = .ok (.getfield 9, 3) := by decide +kernel
theorem dX7_settled_18 : decode cX7_settled 18 = .ok (.iconst 0, 1) := by decide +kernel
theorem dX7_settled_19 : decode cX7_settled 19 = .ok (.aload_n 0, 1) := by decide +kernel
theorem dX7_settled_20 : decode cX7_settled 20 = .ok (.getfield 48, 3) := by decide +kernel
theorem dX7_settled_23 : decode cX7_settled 23 = .ok (.iconst 0, 1) := by decide +kernel
theorem dX7_settled_24 : decode cX7_settled 24 = .ok (.sipush 1014, 3) := by decide +kernel
theorem dX7_settled_27 : decode cX7_settled 27 = .ok (.invokestatic 86, 3) := by decide +kernel
theorem dX7_settled_30 : decode cX7_settled 30 = .ok (.iconst 0, 1) := by decide +kernel
theorem dX7_settled_31 : decode cX7_settled 31 = .ok (.istore_n 2, 1) := by decide +kernel
theorem dX7_settled_32 : decode cX7_settled 32 = .ok (.iconst 0, 1) := by decide +kernel
theorem dX7_settled_33 : decode cX7_settled 33 = .ok (.istore_n 3, 1) := by decide +kernel
theorem dX7_settled_34 : decode cX7_settled 34 = .ok (.iload_n 3, 1) := by decide +kernel
theorem dX7_settled_35 : decode cX7_settled 35 = .ok (.iconst 3, 1) := by decide +kernel
theorem dX7_settled_36 : decode cX7_settled 36 = .ok (.if_icmp .ge 25, 3) := by decide +kernel
theorem dX7_settled_39 : decode cX7_settled 39 = .ok (.aload_n 0, 1) := by decide +kernel
theorem dX7_settled_40 : decode cX7_settled 40 = .ok (.iload_n 3, 1) := by decide +kernel
theorem dX7_settled_41 : decode cX7_settled 41 = .ok (.invokevirtual 182, 3) := by decide +kernel
theorem dX7_settled_44 : decode cX7_settled 44 = .ok (.bipush (-2), 2) := by decide +kernel
theorem dX7_settled_46 : decode cX7_settled 46 = .ok (.if_icmp .eq 9, 3) := by decide +kernel
theorem dX7_settled_49 : decode cX7_settled 49 = .ok (.iinc 2 1, 3) := by decide +kernel
theorem dX7_settled_52 : decode cX7_settled 52 = .ok (.goto (-13), 3) := by decide +kernel
theorem dX7_settled_55 : decode cX7_settled 55 = .ok (.iinc 3 1, 3) := by decide +kernel
theorem dX7_settled_58 : decode cX7_settled 58 = .ok (.goto (-24), 3) := by decide +kernel
theorem dX7_settled_61 : decode cX7_settled 61 = .ok (.iload_n 1, 1) := by decide +kernel
theorem dX7_settled_62 : decode cX7_settled 62 = .ok (.iconst 1, 1) := by decide +kernel
theorem dX7_settled_63 : decode cX7_settled 63 = .ok (.if_icmp .ne 12, 3) := by decide +kernel
theorem dX7_settled_66 : decode cX7_settled 66 = .ok (.aload_n 0, 1) := by decide +kernel
theorem dX7_settled_67 : decode cX7_settled 67 = .ok (.iconst 1, 1) := by decide +kernel
theorem dX7_settled_68 : decode cX7_settled 68 = .ok (.invokevirtual 320, 3) := by decide +kernel
theorem dX7_settled_71 : decode cX7_settled 71 = .ok (.istore_n 2, 1) := by decide +kernel
theorem dX7_settled_72 : decode cX7_settled 72 = .ok (.goto 86, 3) := by decide +kernel
theorem dX7_settled_75 : decode cX7_settled 75 = .ok (.iload_n 1, 1) := by decide +kernel
theorem dX7_settled_76 : decode cX7_settled 76 = .ok (.iconst 2, 1) := by decide +kernel
theorem dX7_settled_77 : decode cX7_settled 77 = .ok (.if_icmp .ne 44, 3) := by decide +kernel
theorem dX7_settled_80 : decode cX7_settled 80 = .ok (.iconst 0, 1) := by decide +kernel
theorem dX7_settled_81 : decode cX7_settled 81 = .ok (.istore_n 2, 1) := by decide +kernel
theorem dX7_settled_82 : decode cX7_settled 82 = .ok (.iconst 0, 1) := by decide +kernel
theorem dX7_settled_83 : decode cX7_settled 83 = .ok (.istore_n 3, 1) := by decide +kernel
theorem dX7_settled_84 : decode cX7_settled 84 = .ok (.iload_n 3, 1) := by decide +kernel
theorem dX7_settled_85 : decode cX7_settled 85 = .ok (.bipush 60, 2) := by decide +kernel
theorem dX7_settled_87 : decode cX7_settled 87 = .ok (.if_icmp .ge 31, 3) := by decide +kernel
theorem dX7_settled_90 : decode cX7_settled 90 = .ok (.iload_n 2, 1) := by decide +kernel
theorem dX7_settled_91 : decode cX7_settled 91 = .ok (.aload_n 0, 1) := by decide +kernel
theorem dX7_settled_92 : decode cX7_settled 92 = .ok (.sipush 582, 3) := by decide +kernel
theorem dX7_settled_95 : decode cX7_settled 95 = .ok (.iconst 2, 1) := by decide +kernel
theorem dX7_settled_96 : decode cX7_settled 96 = .ok (.iload_n 3, 1) := by decide +kernel
theorem dX7_settled_97 : decode cX7_settled 97 = .ok (.imul, 1) := by decide +kernel
theorem dX7_settled_98 : decode cX7_settled 98 = .ok (.iadd, 1) := by decide +kernel
theorem dX7_settled_99 : decode cX7_settled 99 = .ok (.invokevirtual 115, 3) := by decide +kernel
theorem dX7_settled_102 : decode cX7_settled 102 = .ok (.ifCond .eq 7, 3) := by decide +kernel
theorem dX7_settled_105 : decode cX7_settled 105 = .ok (.iconst 1, 1) := by decide +kernel
theorem dX7_settled_106 : decode cX7_settled 106 = .ok (.goto 4, 3) := by decide +kernel
theorem dX7_settled_109 : decode cX7_settled 109 = .ok (.iconst 0, 1) := by decide +kernel
theorem dX7_settled_110 : decode cX7_settled 110 = .ok (.iadd, 1) := by decide +kernel
theorem dX7_settled_111 : decode cX7_settled 111 = .ok (.istore_n 2, 1) := by decide +kernel
theorem dX7_settled_112 : decode cX7_settled 112 = .ok (.iinc 3 1, 3) := by decide +kernel
theorem dX7_settled_115 : decode cX7_settled 115 = .ok (.goto (-31), 3) := by decide +kernel
theorem dX7_settled_118 : decode cX7_settled 118 = .ok (.goto 40, 3) := by decide +kernel
theorem dX7_settled_121 : decode cX7_settled 121 = .ok (.iload_n 1, 1) := by decide +kernel
theorem dX7_settled_122 : decode cX7_settled 122 = .ok (.iconst 3, 1) := by decide +kernel
theorem dX7_settled_123 : decode cX7_settled 123 = .ok (.if_icmp .ne 35, 3) := by decide +kernel
theorem dX7_settled_126 : decode cX7_settled 126 = .ok (.iconst 0, 1) := by decide +kernel
theorem dX7_settled_127 : decode cX7_settled 127 = .ok (.istore_n 2, 1) := by decide +kernel
theorem dX7_settled_128 : decode cX7_settled 128 = .ok (.iconst 0, 1) := by decide +kernel
theorem dX7_settled_129 : decode cX7_settled 129 = .ok (.istore_n 3, 1) := by decide +kernel
theorem dX7_settled_130 : decode cX7_settled 130 = .ok (.iload_n 3, 1) := by decide +kernel
theorem dX7_settled_131 : decode cX7_settled 131 = .ok (.bipush 6, 2) := by decide +kernel
theorem dX7_settled_133 : decode cX7_settled 133 = .ok (.if_icmp .ge 25, 3) := by decide +kernel
theorem dX7_settled_136 : decode cX7_settled 136 = .ok (.iload_n 2, 1) := by decide +kernel
theorem dX7_settled_137 : decode cX7_settled 137 = .ok (.aload_n 0, 1) := by decide +kernel
theorem dX7_settled_138 : decode cX7_settled 138 = .ok (.iload_n 3, 1) := by decide +kernel
theorem dX7_settled_139 : decode cX7_settled 139 = .ok (.invokevirtual 294, 3) := by decide +kernel
theorem dX7_settled_142 : decode cX7_settled 142 = .ok (.ifCond .ne 7, 3) := by decide +kernel
theorem dX7_settled_145 : decode cX7_settled 145 = .ok (.iconst 0, 1) := by decide +kernel
theorem dX7_settled_146 : decode cX7_settled 146 = .ok (.goto 4, 3) := by decide +kernel
theorem dX7_settled_149 : decode cX7_settled 149 = .ok (.iconst 1, 1) := by decide +kernel
theorem dX7_settled_150 : decode cX7_settled 150 = .ok (.iadd, 1) := by decide +kernel
theorem dX7_settled_151 : decode cX7_settled 151 = .ok (.istore_n 2, 1) := by decide +kernel
theorem dX7_settled_152 : decode cX7_settled 152 = .ok (.iinc 3 1, 3) := by decide +kernel
theorem dX7_settled_155 : decode cX7_settled 155 = .ok (.goto (-25), 3) := by decide +kernel
theorem dX7_settled_158 : decode cX7_settled 158 = .ok (.aload_n 0, 1) := by decide +kernel
theorem dX7_settled_159 : decode cX7_settled 159 = .ok (.getfield 48, 3) := by decide +kernel
theorem dX7_settled_162 : decode cX7_settled 162 = .ok (.iconst 0, 1) := by decide +kernel
theorem dX7_settled_163 : decode cX7_settled 163 = .ok (.aload_n 0, 1) := by decide +kernel
theorem dX7_settled_164 : decode cX7_settled 164 = .ok (.getfield 9, 3) := by decide +kernel
theorem dX7_settled_167 : decode cX7_settled 167 = .ok (.iconst 0, 1) := by decide +kernel
theorem dX7_settled_168 : decode cX7_settled 168 = .ok (.sipush 1014, 3) := by decide +kernel
theorem dX7_settled_171 : decode cX7_settled 171 = .ok (.invokestatic 86, 3) := by decide +kernel
theorem dX7_settled_174 : decode cX7_settled 174 = .ok (.iload_n 2, 1) := by decide +kernel
theorem dX7_settled_175 : decode cX7_settled 175 = .ok (.ireturn, 1) := by decide +kernel
theorem dX7_lookAtRow_0 : decode cX7_lookAtRow 0 = .ok (.iload_n 1, 1) := by decide +kernel
theorem dX7_lookAtRow_1 : decode cX7_lookAtRow 1 = .ok (.invokestatic 323, 3) := by decide +kernel
theorem dX7_lookAtRow_4 : decode cX7_lookAtRow 4 = .ok (.ifCond .ne 7, 3) := by decide +kernel
theorem dX7_lookAtRow_7 : decode cX7_lookAtRow 7 = .ok (.iconst (-1), 1) := by decide +kernel
theorem dX7_lookAtRow_8 : decode cX7_lookAtRow 8 = .ok (.goto 19, 3) := by decide +kernel
theorem dX7_lookAtRow_11 : decode cX7_lookAtRow 11 = .ok (.aload_n 0, 1) := by decide +kernel
theorem dX7_lookAtRow_12 : decode cX7_lookAtRow 12 = .ok (.getfield 76, 3) := by decide +kernel
theorem dX7_lookAtRow_15 : decode cX7_lookAtRow 15 = .ok (.iload_n 1, 1) := by decide +kernel
theorem dX7_lookAtRow_16 : decode cX7_lookAtRow 16 = .ok (.iaload, 1) := by decide +kernel
theorem dX7_lookAtRow_17 : decode cX7_lookAtRow 17 = .ok (.iconst (-1), 1) := by decide +kernel
theorem dX7_lookAtRow_18 : decode cX7_lookAtRow 18 = .ok (.if_icmp .ne 8, 3) := by decide +kernel
theorem dX7_lookAtRow_21 : decode cX7_lookAtRow 21 = .ok (.bipush (-11), 2) := by decide +kernel
theorem dX7_lookAtRow_23 : decode cX7_lookAtRow 23 = .ok (.goto 4, 3) := by decide +kernel
theorem dX7_lookAtRow_26 : decode cX7_lookAtRow 26 = .ok (.iconst 0, 1) := by decide +kernel
theorem dX7_lookAtRow_27 : decode cX7_lookAtRow 27 = .ok (.ireturn, 1) := by decide +kernel
theorem dX7_hitsBy_0 : decode cX7_hitsBy 0 = .ok (.aload_n 0, 1) := by decide +kernel
theorem dX7_hitsBy_1 : decode cX7_hitsBy 1 = .ok (.getfield 9, 3) := by decide +kernel
theorem dX7_hitsBy_4 : decode cX7_hitsBy 4 = .ok (.iconst 0, 1) := by decide +kernel
theorem dX7_hitsBy_5 : decode cX7_hitsBy 5 = .ok (.aload_n 0, 1) := by decide +kernel
theorem dX7_hitsBy_6 : decode cX7_hitsBy 6 = .ok (.getfield 48, 3) := by decide +kernel
theorem dX7_hitsBy_9 : decode cX7_hitsBy 9 = .ok (.iconst 0, 1) := by decide +kernel
theorem dX7_hitsBy_10 : decode cX7_hitsBy 10 = .ok (.sipush 1014, 3) := by decide +kernel
theorem dX7_hitsBy_13 : decode cX7_hitsBy 13 = .ok (.invokestatic 86, 3) := by decide +kernel
theorem dX7_hitsBy_16 : decode cX7_hitsBy 16 = .ok (.aload_n 0, 1) := by decide +kernel
theorem dX7_hitsBy_17 : decode cX7_hitsBy 17 = .ok (.getfield 9, 3) := by decide +kernel
theorem dX7_hitsBy_20 : decode cX7_hitsBy 20 = .ok (.bipush 8, 2) := by decide +kernel
theorem dX7_hitsBy_22 : decode cX7_hitsBy 22 = .ok (.iload_n 3, 1) := by decide +kernel
theorem dX7_hitsBy_23 : decode cX7_hitsBy 23 = .ok (.iastore, 1) := by decide +kernel
theorem dX7_hitsBy_24 : decode cX7_hitsBy 24 = .ok (.iconst 0, 1) := by decide +kernel
theorem dX7_hitsBy_25 : decode cX7_hitsBy 25 = .ok (.istore 4, 2) := by decide +kernel
theorem dX7_hitsBy_27 : decode cX7_hitsBy 27 = .ok (.iconst 0, 1) := by decide +kernel
theorem dX7_hitsBy_28 : decode cX7_hitsBy 28 = .ok (.istore 5, 2) := by decide +kernel
theorem dX7_hitsBy_30 : decode cX7_hitsBy 30 = .ok (.iload 5, 2) := by decide +kernel
theorem dX7_hitsBy_32 : decode cX7_hitsBy 32 = .ok (.aload_n 0, 1) := by decide +kernel
theorem dX7_hitsBy_33 : decode cX7_hitsBy 33 = .ok (.getfield 76, 3) := by decide +kernel
theorem dX7_hitsBy_36 : decode cX7_hitsBy 36 = .ok (.iload_n 1, 1) := by decide +kernel
theorem dX7_hitsBy_37 : decode cX7_hitsBy 37 = .ok (.iaload, 1) := by decide +kernel
theorem dX7_hitsBy_38 : decode cX7_hitsBy 38 = .ok (.if_icmp .ge 133, 3) := by decide +kernel
theorem dX7_hitsBy_41 : decode cX7_hitsBy 41 = .ok (.aload_n 0, 1) := by decide +kernel
theorem dX7_hitsBy_42 : decode cX7_hitsBy 42 = .ok (.getfield 73, 3) := by decide +kernel
theorem dX7_hitsBy_45 : decode cX7_hitsBy 45 = .ok (.bipush 40, 2) := by decide +kernel
theorem dX7_hitsBy_47 : decode cX7_hitsBy 47 = .ok (.iload_n 1, 1) := by decide +kernel
theorem dX7_hitsBy_48 : decode cX7_hitsBy 48 = .ok (.imul, 1) := by decide +kernel
theorem dX7_hitsBy_49 : decode cX7_hitsBy 49 = .ok (.iload 5, 2) := by decide +kernel
theorem dX7_hitsBy_51 : decode cX7_hitsBy 51 = .ok (.iadd, 1) := by decide +kernel
theorem dX7_hitsBy_52 : decode cX7_hitsBy 52 = .ok (.laload, 1) := by decide +kernel
theorem dX7_hitsBy_53 : decode cX7_hitsBy 53 = .ok (.lconst 0, 1) := by decide +kernel
theorem dX7_hitsBy_54 : decode cX7_hitsBy 54 = .ok (.ldc2_w 98, 3) := by decide +kernel
theorem dX7_hitsBy_57 : decode cX7_hitsBy 57 = .ok (.invokestatic 94, 3) := by decide +kernel
theorem dX7_hitsBy_60 : decode cX7_hitsBy 60 = .ok (.ifCond .eq 111, 3) := by decide +kernel
theorem dX7_hitsBy_63 : decode cX7_hitsBy 63 = .ok (.aload_n 0, 1) := by decide +kernel
theorem dX7_hitsBy_64 : decode cX7_hitsBy 64 = .ok (.getfield 73, 3) := by decide +kernel
theorem dX7_hitsBy_67 : decode cX7_hitsBy 67 = .ok (.bipush 40, 2) := by decide +kernel
theorem dX7_hitsBy_69 : decode cX7_hitsBy 69 = .ok (.iload_n 1, 1) := by decide +kernel
theorem dX7_hitsBy_70 : decode cX7_hitsBy 70 = .ok (.imul, 1) := by decide +kernel
theorem dX7_hitsBy_71 : decode cX7_hitsBy 71 = .ok (.iload 5, 2) := by decide +kernel
theorem dX7_hitsBy_73 : decode cX7_hitsBy 73 = .ok (.iadd, 1) := by decide +kernel
theorem dX7_hitsBy_74 : decode cX7_hitsBy 74 = .ok (.laload, 1) := by decide +kernel
theorem dX7_hitsBy_75 : decode cX7_hitsBy 75 = .ok (.l2i, 1) := by decide +kernel
theorem dX7_hitsBy_76 : decode cX7_hitsBy 76 = .ok (.istore 6, 2) := by decide +kernel
theorem dX7_hitsBy_78 : decode cX7_hitsBy 78 = .ok (.aload_n 0, 1) := by decide +kernel
theorem dX7_hitsBy_79 : decode cX7_hitsBy 79 = .ok (.getfield 9, 3) := by decide +kernel
theorem dX7_hitsBy_82 : decode cX7_hitsBy 82 = .ok (.iconst 0, 1) := by decide +kernel
theorem dX7_hitsBy_83 : decode cX7_hitsBy 83 = .ok (.dup2, 1) := by decide +kernel
theorem dX7_hitsBy_84 : decode cX7_hitsBy 84 = .ok (.iaload, 1) := by decide +kernel
theorem dX7_hitsBy_85 : decode cX7_hitsBy 85 = .ok (.iconst 1, 1) := by decide +kernel
theorem dX7_hitsBy_86 : decode cX7_hitsBy 86 = .ok (.iadd, 1) := by decide +kernel
theorem dX7_hitsBy_87 : decode cX7_hitsBy 87 = .ok (.iastore, 1) := by decide +kernel
theorem dX7_hitsBy_88 : decode cX7_hitsBy 88 = .ok (.iload_n 2, 1) := by decide +kernel
theorem dX7_hitsBy_89 : decode cX7_hitsBy 89 = .ok (.iload 6, 2) := by decide +kernel
theorem dX7_hitsBy_91 : decode cX7_hitsBy 91 = .ok (.invokestatic 112, 3) := by decide +kernel
theorem dX7_hitsBy_94 : decode cX7_hitsBy 94 = .ok (.istore 7, 2) := by decide +kernel
theorem dX7_hitsBy_96 : decode cX7_hitsBy 96 = .ok (.aload_n 0, 1) := by decide +kernel
theorem dX7_hitsBy_97 : decode cX7_hitsBy 97 = .ok (.iload 7, 2) := by decide +kernel
theorem dX7_hitsBy_99 : decode cX7_hitsBy 99 = .ok (.invokevirtual 115, 3) := by decide +kernel
theorem dX7_hitsBy_102 : decode cX7_hitsBy 102 = .ok (.ifCond .eq 37, 3) := by decide +kernel
theorem dX7_hitsBy_105 : decode cX7_hitsBy 105 = .ok (.aload_n 0, 1) := by decide +kernel
theorem dX7_hitsBy_106 : decode cX7_hitsBy 106 = .ok (.getfield 9, 3) := by decide +kernel
theorem dX7_hitsBy_109 : decode cX7_hitsBy 109 = .ok (.iload 7, 2) := by decide +kernel
theorem dX7_hitsBy_111 : decode cX7_hitsBy 111 = .ok (.iconst 4, 1) := by decide +kernel
theorem dX7_hitsBy_112 : decode cX7_hitsBy 112 = .ok (.iadd, 1) := by decide +kernel
theorem dX7_hitsBy_113 : decode cX7_hitsBy 113 = .ok (.aload_n 0, 1) := by decide +kernel
theorem dX7_hitsBy_114 : decode cX7_hitsBy 114 = .ok (.getfield 9, 3) := by decide +kernel
theorem dX7_hitsBy_117 : decode cX7_hitsBy 117 = .ok (.iconst 0, 1) := by decide +kernel
theorem dX7_hitsBy_118 : decode cX7_hitsBy 118 = .ok (.iaload, 1) := by decide +kernel
theorem dX7_hitsBy_119 : decode cX7_hitsBy 119 = .ok (.iastore, 1) := by decide +kernel
theorem dX7_hitsBy_120 : decode cX7_hitsBy 120 = .ok (.aload_n 0, 1) := by decide +kernel
theorem dX7_hitsBy_121 : decode cX7_hitsBy 121 = .ok (.getfield 9, 3) := by decide +kernel
theorem dX7_hitsBy_124 : decode cX7_hitsBy 124 = .ok (.iload 7, 2) := by decide +kernel
theorem dX7_hitsBy_126 : decode cX7_hitsBy 126 = .ok (.iconst 5, 1) := by decide +kernel
theorem dX7_hitsBy_127 : decode cX7_hitsBy 127 = .ok (.iadd, 1) := by decide +kernel
theorem dX7_hitsBy_128 : decode cX7_hitsBy 128 = .ok (.dup2, 1) := by decide +kernel
theorem dX7_hitsBy_129 : decode cX7_hitsBy 129 = .ok (.iaload, 1) := by decide +kernel
theorem dX7_hitsBy_130 : decode cX7_hitsBy 130 = .ok (.iconst 1, 1) := by decide +kernel
theorem dX7_hitsBy_131 : decode cX7_hitsBy 131 = .ok (.iadd, 1) := by decide +kernel
theorem dX7_hitsBy_132 : decode cX7_hitsBy 132 = .ok (.iastore, 1) := by decide +kernel
theorem dX7_hitsBy_133 : decode cX7_hitsBy 133 = .ok (.iinc 4 1, 3) := by decide +kernel
theorem dX7_hitsBy_136 : decode cX7_hitsBy 136 = .ok (.goto 29, 3) := by decide +kernel
theorem dX7_hitsBy_139 : decode cX7_hitsBy 139 = .ok (.aload_n 0, 1) := by decide +kernel
theorem dX7_hitsBy_140 : decode cX7_hitsBy 140 = .ok (.iload_n 2, 1) := by decide +kernel
theorem dX7_hitsBy_141 : decode cX7_hitsBy 141 = .ok (.iconst 2, 1) := by decide +kernel
theorem dX7_hitsBy_142 : decode cX7_hitsBy 142 = .ok (.idiv, 1) := by decide +kernel
theorem dX7_hitsBy_143 : decode cX7_hitsBy 143 = .ok (.iload 6, 2) := by decide +kernel
theorem dX7_hitsBy_145 : decode cX7_hitsBy 145 = .ok (.invokevirtual 125, 3) := by decide +kernel
theorem dX7_hitsBy_148 : decode cX7_hitsBy 148 = .ok (.istore 8, 2) := by decide +kernel
theorem dX7_hitsBy_150 : decode cX7_hitsBy 150 = .ok (.aload_n 0, 1) := by decide +kernel
theorem dX7_hitsBy_151 : decode cX7_hitsBy 151 = .ok (.iload_n 2, 1) := by decide +kernel
theorem dX7_hitsBy_152 : decode cX7_hitsBy 152 = .ok (.iload 6, 2) := by decide +kernel
theorem dX7_hitsBy_154 : decode cX7_hitsBy 154 = .ok (.aload_n 0, 1) := by decide +kernel
theorem dX7_hitsBy_155 : decode cX7_hitsBy 155 = .ok (.iload 8, 2) := by decide +kernel
theorem dX7_hitsBy_157 : decode cX7_hitsBy 157 = .ok (.invokevirtual 128, 3) := by decide +kernel
theorem dX7_hitsBy_160 : decode cX7_hitsBy 160 = .ok (.iload 8, 2) := by decide +kernel
theorem dX7_hitsBy_162 : decode cX7_hitsBy 162 = .ok (.invokevirtual 140, 3) := by decide +kernel
theorem dX7_hitsBy_165 : decode cX7_hitsBy 165 = .ok (.iinc 5 1, 3) := by decide +kernel
theorem dX7_hitsBy_168 : decode cX7_hitsBy 168 = .ok (.goto (-138), 3) := by decide +kernel
theorem dX7_hitsBy_171 : decode cX7_hitsBy 171 = .ok (.aload_n 0, 1) := by decide +kernel
theorem dX7_hitsBy_172 : decode cX7_hitsBy 172 = .ok (.getfield 48, 3) := by decide +kernel
theorem dX7_hitsBy_175 : decode cX7_hitsBy 175 = .ok (.iconst 0, 1) := by decide +kernel
theorem dX7_hitsBy_176 : decode cX7_hitsBy 176 = .ok (.aload_n 0, 1) := by decide +kernel
theorem dX7_hitsBy_177 : decode cX7_hitsBy 177 = .ok (.getfield 9, 3) := by decide +kernel
theorem dX7_hitsBy_180 : decode cX7_hitsBy 180 = .ok (.iconst 0, 1) := by decide +kernel
theorem dX7_hitsBy_181 : decode cX7_hitsBy 181 = .ok (.sipush 1014, 3) := by decide +kernel
theorem dX7_hitsBy_184 : decode cX7_hitsBy 184 = .ok (.invokestatic 86, 3) := by decide +kernel
theorem dX7_hitsBy_187 : decode cX7_hitsBy 187 = .ok (.iload 4, 2) := by decide +kernel
theorem dX7_hitsBy_189 : decode cX7_hitsBy 189 = .ok (.ireturn, 1) := by decide +kernel
theorem dX7_tried_0 : decode cX7_tried 0 = .ok (.iload_n 2, 1) := by decide +kernel
theorem dX7_tried_1 : decode cX7_tried 1 = .ok (.invokestatic 187, 3) := by decide +kernel
theorem dX7_tried_4 : decode cX7_tried 4 = .ok (.ifCond .eq 15, 3) := by decide +kernel
theorem dX7_tried_7 : decode cX7_tried 7 = .ok (.iload_n 3, 1) := by decide +kernel
theorem dX7_tried_8 : decode cX7_tried 8 = .ok (.i2l, 1) := by decide +kernel
theorem dX7_tried_9 : decode cX7_tried 9 = .ok (.lconst 0, 1) := by decide +kernel
theorem dX7_tried_10 : decode cX7_tried 10 = .ok (.ldc2_w 195, 3) := by decide +kernel
theorem dX7_tried_13 : decode cX7_tried 13 = .ok (.invokestatic 94, 3) := by decide +kernel
theorem dX7_tried_16 : decode cX7_tried 16 = .ok (.ifCond .ne 5, 3) := by decide +kernel
theorem dX7_tried_19 : decode cX7_tried 19 = .ok (.iconst (-1), 1) := by decide +kernel
theorem dX7_tried_20 : decode cX7_tried 20 = .ok (.ireturn, 1) := by decide +kernel
theorem dX7_tried_21 : decode cX7_tried 21 = .ok (.aload_n 0, 1) := by decide +kernel
theorem dX7_tried_22 : decode cX7_tried 22 = .ok (.iload_n 1, 1) := by decide +kernel
theorem dX7_tried_23 : decode cX7_tried 23 = .ok (.invokevirtual 326, 3) := by decide +kernel
theorem dX7_tried_26 : decode cX7_tried 26 = .ok (.ifCond .ge 11, 3) := by decide +kernel
theorem dX7_tried_29 : decode cX7_tried 29 = .ok (.aload_n 0, 1) := by decide +kernel
theorem dX7_tried_30 : decode cX7_tried 30 = .ok (.iload_n 1, 1) := by decide +kernel
theorem dX7_tried_31 : decode cX7_tried 31 = .ok (.invokevirtual 326, 3) := by decide +kernel
theorem dX7_tried_34 : decode cX7_tried 34 = .ok (.goto 10, 3) := by decide +kernel
theorem dX7_tried_37 : decode cX7_tried 37 = .ok (.aload_n 0, 1) := by decide +kernel
theorem dX7_tried_38 : decode cX7_tried 38 = .ok (.iload_n 1, 1) := by decide +kernel
theorem dX7_tried_39 : decode cX7_tried 39 = .ok (.iload_n 2, 1) := by decide +kernel
theorem dX7_tried_40 : decode cX7_tried 40 = .ok (.iload_n 3, 1) := by decide +kernel
theorem dX7_tried_41 : decode cX7_tried 41 = .ok (.invokevirtual 329, 3) := by decide +kernel
theorem dX7_tried_44 : decode cX7_tried 44 = .ok (.ireturn, 1) := by decide +kernel
theorem dX7_best_0 : decode cX7_best 0 = .ok (.iload_n 2, 1) := by decide +kernel
theorem dX7_best_1 : decode cX7_best 1 = .ok (.invokestatic 187, 3) := by decide +kernel
theorem dX7_best_4 : decode cX7_best 4 = .ok (.ifCond .ne 5, 3) := by decide +kernel
theorem dX7_best_7 : decode cX7_best 7 = .ok (.iconst (-1), 1) := by decide +kernel
theorem dX7_best_8 : decode cX7_best 8 = .ok (.ireturn, 1) := by decide +kernel
theorem dX7_best_9 : decode cX7_best 9 = .ok (.aload_n 0, 1) := by decide +kernel
theorem dX7_best_10 : decode cX7_best 10 = .ok (.iload_n 1, 1) := by decide +kernel
theorem dX7_best_11 : decode cX7_best 11 = .ok (.invokevirtual 326, 3) := by decide +kernel
theorem dX7_best_14 : decode cX7_best 14 = .ok (.ifCond .ge 9, 3) := by decide +kernel
theorem dX7_best_17 : decode cX7_best 17 = .ok (.aload_n 0, 1) := by decide +kernel
theorem dX7_best_18 : decode cX7_best 18 = .ok (.iload_n 1, 1) := by decide +kernel
theorem dX7_best_19 : decode cX7_best 19 = .ok (.invokevirtual 326, 3) := by decide +kernel
theorem dX7_best_22 : decode cX7_best 22 = .ok (.ireturn, 1) := by decide +kernel
theorem dX7_best_23 : decode cX7_best 23 = .ok (.iconst 0, 1) := by decide +kernel
theorem dX7_best_24 : decode cX7_best 24 = .ok (.istore_n 3, 1) := by decide +kernel
theorem dX7_best_25 : decode cX7_best 25 = .ok (.iconst 1, 1) := by decide +kernel
theorem dX7_best_26 : decode cX7_best 26 = .ok (.istore 4, 2) := by decide +kernel
theorem dX7_best_28 : decode cX7_best 28 = .ok (.iload 4, 2) := by decide +kernel
theorem dX7_best_30 : decode cX7_best 30 = .ok (.iconst 4, 1) := by decide +kernel
theorem dX7_best_31 : decode cX7_best 31 = .ok (.if_icmp .ge 34, 3) := by decide +kernel
theorem dX7_best_34 : decode cX7_best 34 = .ok (.aload_n 0, 1) := by decide +kernel
theorem dX7_best_35 : decode cX7_best 35 = .ok (.iload_n 1, 1) := by decide +kernel
theorem dX7_best_36 : decode cX7_best 36 = .ok (.iload_n 2, 1) := by decide +kernel
theorem dX7_best_37 : decode cX7_best 37 = .ok (.iload 4, 2) := by decide +kernel
theorem dX7_best_39 : decode cX7_best 39 = .ok (.invokevirtual 329, 3) := by decide +kernel
theorem dX7_best_42 : decode cX7_best 42 = .ok (.aload_n 0, 1) := by decide +kernel
theorem dX7_best_43 : decode cX7_best 43 = .ok (.iload_n 1, 1) := by decide +kernel
theorem dX7_best_44 : decode cX7_best 44 = .ok (.iload_n 2, 1) := by decide +kernel
theorem dX7_best_45 : decode cX7_best 45 = .ok (.iload_n 3, 1) := by decide +kernel
theorem dX7_best_46 : decode cX7_best 46 = .ok (.invokevirtual 329, 3) := by decide +kernel
theorem dX7_best_49 : decode cX7_best 49 = .ok (.if_icmp .le 8, 3) := by decide +kernel
theorem dX7_best_52 : decode cX7_best 52 = .ok (.iload 4, 2) := by decide +kernel
theorem dX7_best_54 : decode cX7_best 54 = .ok (.goto 4, 3) := by decide +kernel
theorem dX7_best_57 : decode cX7_best 57 = .ok (.iload_n 3, 1) := by decide +kernel
theorem dX7_best_58 : decode cX7_best 58 = .ok (.istore_n 3, 1) := by decide +kernel
theorem dX7_best_59 : decode cX7_best 59 = .ok (.iinc 4 1, 3) := by decide +kernel
theorem dX7_best_62 : decode cX7_best 62 = .ok (.goto (-34), 3) := by decide +kernel
theorem dX7_best_65 : decode cX7_best 65 = .ok (.iload_n 3, 1) := by decide +kernel
theorem dX7_best_66 : decode cX7_best 66 = .ok (.ireturn, 1) := by decide +kernel
theorem dX7_nextOf_0 : decode cX7_nextOf 0 = .ok (.iload_n 2, 1) := by decide +kernel
theorem dX7_nextOf_1 : decode cX7_nextOf 1 = .ok (.istore 4, 2) := by decide +kernel
theorem dX7_nextOf_3 : decode cX7_nextOf 3 = .ok (.iload 4, 2) := by decide +kernel
theorem dX7_nextOf_5 : decode cX7_nextOf 5 = .ok (.aload_n 0, 1) := by decide +kernel
theorem dX7_nextOf_6 : decode cX7_nextOf 6 = .ok (.getfield 76, 3) := by decide +kernel
theorem dX7_nextOf_9 : decode cX7_nextOf 9 = .ok (.iload_n 1, 1) := by decide +kernel
theorem dX7_nextOf_10 : decode cX7_nextOf 10 = .ok (.iaload, 1) := by decide +kernel
theorem dX7_nextOf_11 : decode cX7_nextOf 11 = .ok (.if_icmp .ge 52, 3) := by decide +kernel
theorem dX7_nextOf_14 : decode cX7_nextOf 14 = .ok (.aload_n 0, 1) := by decide +kernel
theorem dX7_nextOf_15 : decode cX7_nextOf 15 = .ok (.getfield 73, 3) := by decide +kernel
theorem dX7_nextOf_18 : decode cX7_nextOf 18 = .ok (.bipush 40, 2) := by decide +kernel
theorem dX7_nextOf_20 : decode cX7_nextOf 20 = .ok (.iload_n 1, 1) := by decide +kernel
theorem dX7_nextOf_21 : decode cX7_nextOf 21 = .ok (.imul, 1) := by decide +kernel
theorem dX7_nextOf_22 : decode cX7_nextOf 22 = .ok (.iload 4, 2) := by decide +kernel
theorem dX7_nextOf_24 : decode cX7_nextOf 24 = .ok (.iadd, 1) := by decide +kernel
theorem dX7_nextOf_25 : decode cX7_nextOf 25 = .ok (.laload, 1) := by decide +kernel
theorem dX7_nextOf_26 : decode cX7_nextOf 26 = .ok (.lconst 0, 1) := by decide +kernel
theorem dX7_nextOf_27 : decode cX7_nextOf 27 = .ok (.ldc2_w 98, 3) := by decide +kernel
theorem dX7_nextOf_30 : decode cX7_nextOf 30 = .ok (.invokestatic 94, 3) := by decide +kernel
theorem dX7_nextOf_33 : decode cX7_nextOf 33 = .ok (.ifCond .eq 30, 3) := by decide +kernel
theorem dX7_nextOf_36 : decode cX7_nextOf 36 = .ok (.aload_n 0, 1) := by decide +kernel
theorem dX7_nextOf_37 : decode cX7_nextOf 37 = .ok (.getfield 73, 3) := by decide +kernel
theorem dX7_nextOf_40 : decode cX7_nextOf 40 = .ok (.bipush 40, 2) := by decide +kernel
theorem dX7_nextOf_42 : decode cX7_nextOf 42 = .ok (.iload_n 1, 1) := by decide +kernel
theorem dX7_nextOf_43 : decode cX7_nextOf 43 = .ok (.imul, 1) := by decide +kernel
theorem dX7_nextOf_44 : decode cX7_nextOf 44 = .ok (.iload 4, 2) := by decide +kernel
theorem dX7_nextOf_46 : decode cX7_nextOf 46 = .ok (.iadd, 1) := by decide +kernel
theorem dX7_nextOf_47 : decode cX7_nextOf 47 = .ok (.laload, 1) := by decide +kernel
theorem dX7_nextOf_48 : decode cX7_nextOf 48 = .ok (.iload_n 3, 1) := by decide +kernel
theorem dX7_nextOf_49 : decode cX7_nextOf 49 = .ok (.i2l, 1) := by decide +kernel
theorem dX7_nextOf_50 : decode cX7_nextOf 50 = .ok (.lcmp, 1) := by decide +kernel
theorem dX7_nextOf_51 : decode cX7_nextOf 51 = .ok (.ifCond .ne 6, 3) := by decide +kernel
theorem dX7_nextOf_54 : decode cX7_nextOf 54 = .ok (.iload 4, 2) := by decide +kernel
theorem dX7_nextOf_56 : decode cX7_nextOf 56 = .ok (.ireturn, 1) := by decide +kernel
theorem dX7_nextOf_57 : decode cX7_nextOf 57 = .ok (.iinc 4 1, 3) := by decide +kernel
theorem dX7_nextOf_60 : decode cX7_nextOf 60 = .ok (.goto (-57), 3) := by decide +kernel
theorem dX7_nextOf_63 : decode cX7_nextOf 63 = .ok (.bipush 40, 2) := by decide +kernel
theorem dX7_nextOf_65 : decode cX7_nextOf 65 = .ok (.ireturn, 1) := by decide +kernel
theorem dX7_foreseen_0 : decode cX7_foreseen 0 = .ok (.iload_n 2, 1) := by decide +kernel
theorem dX7_foreseen_1 : decode cX7_foreseen 1 = .ok (.invokestatic 187, 3) := by decide +kernel
theorem dX7_foreseen_4 : decode cX7_foreseen 4 = .ok (.ifCond .ne 5, 3) := by decide +kernel
theorem dX7_foreseen_7 : decode cX7_foreseen 7 = .ok (.iconst (-1), 1) := by decide +kernel
theorem dX7_foreseen_8 : decode cX7_foreseen 8 = .ok (.ireturn, 1) := by decide +kernel
theorem dX7_foreseen_9 : decode cX7_foreseen 9 = .ok (.aload_n 0, 1) := by decide +kernel
theorem dX7_foreseen_10 : decode cX7_foreseen 10 = .ok (.iload_n 1, 1) := by decide +kernel
theorem dX7_foreseen_11 : decode cX7_foreseen 11 = .ok (.invokevirtual 326, 3) := by decide +kernel
theorem dX7_foreseen_14 : decode cX7_foreseen 14 = .ok (.ifCond .ge 9, 3) := by decide +kernel
theorem dX7_foreseen_17 : decode cX7_foreseen 17 = .ok (.aload_n 0, 1) := by decide +kernel
theorem dX7_foreseen_18 : decode cX7_foreseen 18 = .ok (.iload_n 1, 1) := by decide +kernel
theorem dX7_foreseen_19 : decode cX7_foreseen 19 = .ok (.invokevirtual 326, 3) := by decide +kernel
theorem dX7_foreseen_22 : decode cX7_foreseen 22 = .ok (.ireturn, 1) := by decide +kernel
theorem dX7_foreseen_23 : decode cX7_foreseen 23 = .ok (.iconst 0, 1) := by decide +kernel
theorem dX7_foreseen_24 : decode cX7_foreseen 24 = .ok (.istore_n 3, 1) := by decide +kernel
theorem dX7_foreseen_25 : decode cX7_foreseen 25 = .ok (.iconst 0, 1) := by decide +kernel
theorem dX7_foreseen_26 : decode cX7_foreseen 26 = .ok (.istore 4, 2) := by decide +kernel
theorem dX7_foreseen_28 : decode cX7_foreseen 28 = .ok (.iload 4, 2) := by decide +kernel
theorem dX7_foreseen_30 : decode cX7_foreseen 30 = .ok (.bipush 10, 2) := by decide +kernel
theorem dX7_foreseen_32 : decode cX7_foreseen 32 = .ok (.if_icmp .ge 44, 3) := by decide +kernel
theorem dX7_foreseen_35 : decode cX7_foreseen 35 = .ok (.aload_n 0, 1) := by decide +kernel
theorem dX7_foreseen_36 : decode cX7_foreseen 36 = .ok (.getfield 70, 3) := by decide +kernel
theorem dX7_foreseen_39 : decode cX7_foreseen 39 = .ok (.iload 4, 2) := by decide +kernel
theorem dX7_foreseen_41 : decode cX7_foreseen 41 = .ok (.aload_n 0, 1) := by decide +kernel
theorem dX7_foreseen_42 : decode cX7_foreseen 42 = .ok (.iload_n 2, 1) := by decide +kernel
theorem dX7_foreseen_43 : decode cX7_foreseen 43 = .ok (.iload 4, 2) := by decide +kernel
theorem dX7_foreseen_45 : decode cX7_foreseen 45 = .ok (.invokestatic 112, 3) := by decide +kernel
theorem dX7_foreseen_48 : decode cX7_foreseen 48 = .ok (.invokevirtual 115, 3) := by decide +kernel
theorem dX7_foreseen_51 : decode cX7_foreseen 51 = .ok (.bastore, 1) := by decide +kernel
theorem dX7_foreseen_52 : decode cX7_foreseen 52 = .ok (.iload_n 3, 1) := by decide +kernel
theorem dX7_foreseen_53 : decode cX7_foreseen 53 = .ok (.aload_n 0, 1) := by decide +kernel
theorem dX7_foreseen_54 : decode cX7_foreseen 54 = .ok (.getfield 70, 3) := by decide +kernel
theorem dX7_foreseen_57 : decode cX7_foreseen 57 = .ok (.iload 4, 2) := by decide +kernel
theorem dX7_foreseen_59 : decode cX7_foreseen 59 = .ok (.baload, 1) := by decide +kernel
theorem dX7_foreseen_60 : decode cX7_foreseen 60 = .ok (.ifCond .eq 7, 3) := by decide +kernel
theorem dX7_foreseen_63 : decode cX7_foreseen 63 = .ok (.iconst 1, 1) := by decide +kernel
theorem dX7_foreseen_64 : decode cX7_foreseen 64 = .ok (.goto 4, 3) := by decide +kernel
theorem dX7_foreseen_67 : decode cX7_foreseen 67 = .ok (.iconst 0, 1) := by decide +kernel
theorem dX7_foreseen_68 : decode cX7_foreseen 68 = .ok (.iadd, 1) := by decide +kernel
theorem dX7_foreseen_69 : decode cX7_foreseen 69 = .ok (.istore_n 3, 1) := by decide +kernel
theorem dX7_foreseen_70 : decode cX7_foreseen 70 = .ok (.iinc 4 1, 3) := by decide +kernel
theorem dX7_foreseen_73 : decode cX7_foreseen 73 = .ok (.goto (-45), 3) := by decide +kernel
theorem dX7_foreseen_76 : decode cX7_foreseen 76 = .ok (.iconst 0, 1) := by decide +kernel
theorem dX7_foreseen_77 : decode cX7_foreseen 77 = .ok (.istore 4, 2) := by decide +kernel
theorem dX7_foreseen_79 : decode cX7_foreseen 79 = .ok (.iconst 0, 1) := by decide +kernel
theorem dX7_foreseen_80 : decode cX7_foreseen 80 = .ok (.istore 5, 2) := by decide +kernel
theorem dX7_foreseen_82 : decode cX7_foreseen 82 = .ok (.iload 5, 2) := by decide +kernel
theorem dX7_foreseen_84 : decode cX7_foreseen 84 = .ok (.aload_n 0, 1) := by decide +kernel
theorem dX7_foreseen_85 : decode cX7_foreseen 85 = .ok (.getfield 76, 3) := by decide +kernel
theorem dX7_foreseen_88 : decode cX7_foreseen 88 = .ok (.iload_n 1, 1) := by decide +kernel
theorem dX7_foreseen_89 : decode cX7_foreseen 89 = .ok (.iaload, 1) := by decide +kernel
theorem dX7_foreseen_90 : decode cX7_foreseen 90 = .ok (.if_icmp .ge 157, 3) := by decide +kernel
theorem dX7_foreseen_93 : decode cX7_foreseen 93 = .ok (.aload_n 0, 1) := by decide +kernel
theorem dX7_foreseen_94 : decode cX7_foreseen 94 = .ok (.getfield 73, 3) := by decide +kernel
theorem dX7_foreseen_97 : decode cX7_foreseen 97 = .ok (.bipush 40, 2) := by decide +kernel
theorem dX7_foreseen_99 : decode cX7_foreseen 99 = .ok (.iload_n 1, 1) := by decide +kernel
theorem dX7_foreseen_100 : decode cX7_foreseen 100 = .ok (.imul, 1) := by decide +kernel
theorem dX7_foreseen_101 : decode cX7_foreseen 101 = .ok (.iload 5, 2) := by decide +kernel
theorem dX7_foreseen_103 : decode cX7_foreseen 103 = .ok (.iadd, 1) := by decide +kernel
theorem dX7_foreseen_104 : decode cX7_foreseen 104 = .ok (.laload, 1) := by decide +kernel
theorem dX7_foreseen_105 : decode cX7_foreseen 105 = .ok (.lconst 0, 1) := by decide +kernel
theorem dX7_foreseen_106 : decode cX7_foreseen 106 = .ok (.ldc2_w 98, 3) := by decide +kernel
theorem dX7_foreseen_109 : decode cX7_foreseen 109 = .ok (.invokestatic 94, 3) := by decide +kernel
theorem dX7_foreseen_112 : decode cX7_foreseen 112 = .ok (.ifCond .eq 135, 3) := by decide +kernel
theorem dX7_foreseen_115 : decode cX7_foreseen 115 = .ok (.aload_n 0, 1) := by decide +kernel
theorem dX7_foreseen_116 : decode cX7_foreseen 116 = .ok (.getfield 73, 3) := by decide +kernel
theorem dX7_foreseen_119 : decode cX7_foreseen 119 = .ok (.bipush 40, 2) := by decide +kernel
theorem dX7_foreseen_121 : decode cX7_foreseen 121 = .ok (.iload_n 1, 1) := by decide +kernel
theorem dX7_foreseen_122 : decode cX7_foreseen 122 = .ok (.imul, 1) := by decide +kernel
theorem dX7_foreseen_123 : decode cX7_foreseen 123 = .ok (.iload 5, 2) := by decide +kernel
theorem dX7_foreseen_125 : decode cX7_foreseen 125 = .ok (.iadd, 1) := by decide +kernel
theorem dX7_foreseen_126 : decode cX7_foreseen 126 = .ok (.laload, 1) := by decide +kernel
theorem dX7_foreseen_127 : decode cX7_foreseen 127 = .ok (.l2i, 1) := by decide +kernel
theorem dX7_foreseen_128 : decode cX7_foreseen 128 = .ok (.istore 6, 2) := by decide +kernel
theorem dX7_foreseen_130 : decode cX7_foreseen 130 = .ok (.aload_n 0, 1) := by decide +kernel
theorem dX7_foreseen_131 : decode cX7_foreseen 131 = .ok (.getfield 70, 3) := by decide +kernel
theorem dX7_foreseen_134 : decode cX7_foreseen 134 = .ok (.iload 6, 2) := by decide +kernel
theorem dX7_foreseen_136 : decode cX7_foreseen 136 = .ok (.baload, 1) := by decide +kernel
theorem dX7_foreseen_137 : decode cX7_foreseen 137 = .ok (.ifCond .eq 9, 3) := by decide +kernel
theorem dX7_foreseen_140 : decode cX7_foreseen 140 = .ok (.iinc 4 1, 3) := by decide +kernel
theorem dX7_foreseen_143 : decode cX7_foreseen 143 = .ok (.goto 98, 3) := by decide +kernel
theorem dX7_foreseen_146 : decode cX7_foreseen 146 = .ok (.iload_n 3, 1) := by decide +kernel
theorem dX7_foreseen_147 : decode cX7_foreseen 147 = .ok (.aload_n 0, 1) := by decide +kernel
theorem dX7_foreseen_148 : decode cX7_foreseen 148 = .ok (.getfield 9, 3) := by decide +kernel
theorem dX7_foreseen_151 : decode cX7_foreseen 151 = .ok (.iconst 3, 1) := by decide +kernel
theorem dX7_foreseen_152 : decode cX7_foreseen 152 = .ok (.iaload, 1) := by decide +kernel
theorem dX7_foreseen_153 : decode cX7_foreseen 153 = .ok (.if_icmp .lt 77, 3) := by decide +kernel
theorem dX7_foreseen_156 : decode cX7_foreseen 156 = .ok (.iconst (-1), 1) := by decide +kernel
theorem dX7_foreseen_157 : decode cX7_foreseen 157 = .ok (.istore 7, 2) := by decide +kernel
theorem dX7_foreseen_159 : decode cX7_foreseen 159 = .ok (.iconst 0, 1) := by decide +kernel
theorem dX7_foreseen_160 : decode cX7_foreseen 160 = .ok (.istore 8, 2) := by decide +kernel
theorem dX7_foreseen_162 : decode cX7_foreseen 162 = .ok (.iload 8, 2) := by decide +kernel
theorem dX7_foreseen_164 : decode cX7_foreseen 164 = .ok (.bipush 10, 2) := by decide +kernel
theorem dX7_foreseen_166 : decode cX7_foreseen 166 = .ok (.if_icmp .ge 50, 3) := by decide +kernel
theorem dX7_foreseen_169 : decode cX7_foreseen 169 = .ok (.aload_n 0, 1) := by decide +kernel
theorem dX7_foreseen_170 : decode cX7_foreseen 170 = .ok (.getfield 70, 3) := by decide +kernel
theorem dX7_foreseen_173 : decode cX7_foreseen 173 = .ok (.iload 8, 2) := by decide +kernel
theorem dX7_foreseen_175 : decode cX7_foreseen 175 = .ok (.baload, 1) := by decide +kernel
theorem dX7_foreseen_176 : decode cX7_foreseen 176 = .ok (.ifCond .eq 34, 3) := by decide +kernel
theorem dX7_foreseen_179 : decode cX7_foreseen 179 = .ok (.iload 7, 2) := by decide +kernel
theorem dX7_foreseen_181 : decode cX7_foreseen 181 = .ok (.iconst (-1), 1) := by decide +kernel
theorem dX7_foreseen_182 : decode cX7_foreseen 182 = .ok (.if_icmp .eq 24, 3) := by decide +kernel
theorem dX7_foreseen_185 : decode cX7_foreseen 185 = .ok (.aload_n 0, 1) := by decide +kernel
theorem dX7_foreseen_186 : decode cX7_foreseen 186 = .ok (.iload_n 1, 1) := by decide +kernel
theorem dX7_foreseen_187 : decode cX7_foreseen 187 = .ok (.iload 5, 2) := by decide +kernel
theorem dX7_foreseen_189 : decode cX7_foreseen 189 = .ok (.iload 8, 2) := by decide +kernel
theorem dX7_foreseen_191 : decode cX7_foreseen 191 = .ok (.invokevirtual 332, 3) := by decide +kernel
theorem dX7_foreseen_194 : decode cX7_foreseen 194 = .ok (.aload_n 0, 1) := by decide +kernel
theorem dX7_foreseen_195 : decode cX7_foreseen 195 = .ok (.iload_n 1, 1) := by decide +kernel
theorem dX7_foreseen_196 : decode cX7_foreseen 196 = .ok (.iload 5, 2) := by decide +kernel
theorem dX7_foreseen_198 : decode cX7_foreseen 198 = .ok (.iload 7, 2) := by decide +kernel
theorem dX7_foreseen_200 : decode cX7_foreseen 200 = .ok (.invokevirtual 332, 3) := by decide +kernel
theorem dX7_foreseen_203 : decode cX7_foreseen 203 = .ok (.if_icmp .le 7, 3) := by decide +kernel
theorem dX7_foreseen_206 : decode cX7_foreseen 206 = .ok (.iload 8, 2) := by decide +kernel
theorem dX7_foreseen_208 : decode cX7_foreseen 208 = .ok (.istore 7, 2) := by decide +kernel
theorem dX7_foreseen_210 : decode cX7_foreseen 210 = .ok (.iinc 8 1, 3) := by decide +kernel
theorem dX7_foreseen_213 : decode cX7_foreseen 213 = .ok (.goto (-51), 3) := by decide +kernel
theorem dX7_foreseen_216 : decode cX7_foreseen 216 = .ok (.aload_n 0, 1) := by decide +kernel
theorem dX7_foreseen_217 : decode cX7_foreseen 217 = .ok (.getfield 70, 3) := by decide +kernel
theorem dX7_foreseen_220 : decode cX7_foreseen 220 = .ok (.iload 7, 2) := by decide +kernel
theorem dX7_foreseen_222 : decode cX7_foreseen 222 = .ok (.iconst 0, 1) := by decide +kernel
theorem dX7_foreseen_223 : decode cX7_foreseen 223 = .ok (.bastore, 1) := by decide +kernel
theorem dX7_foreseen_224 : decode cX7_foreseen 224 = .ok (.iinc 3 (-1), 3) := by decide +kernel
theorem dX7_foreseen_227 : decode cX7_foreseen 227 = .ok (.goto (-81), 3) := by decide +kernel
theorem dX7_foreseen_230 : decode cX7_foreseen 230 = .ok (.aload_n 0, 1) := by decide +kernel
theorem dX7_foreseen_231 : decode cX7_foreseen 231 = .ok (.getfield 70, 3) := by decide +kernel
theorem dX7_foreseen_234 : decode cX7_foreseen 234 = .ok (.iload 6, 2) := by decide +kernel
theorem dX7_foreseen_236 : decode cX7_foreseen 236 = .ok (.iconst 1, 1) := by decide +kernel
theorem dX7_foreseen_237 : decode cX7_foreseen 237 = .ok (.bastore, 1) := by decide +kernel
theorem dX7_foreseen_238 : decode cX7_foreseen 238 = .ok (.iinc 3 1, 3) := by decide +kernel
theorem dX7_foreseen_241 : decode cX7_foreseen 241 = .ok (.iinc 5 1, 3) := by decide +kernel
theorem dX7_foreseen_244 : decode cX7_foreseen 244 = .ok (.goto (-162), 3) := by decide +kernel
theorem dX7_foreseen_247 : decode cX7_foreseen 247 = .ok (.iload 4, 2) := by decide +kernel
theorem dX7_foreseen_249 : decode cX7_foreseen 249 = .ok (.ireturn, 1) := by decide +kernel
theorem dX7_isShelf_0 : decode cX7_isShelf 0 = .ok (.iload_n 0, 1) := by decide +kernel
theorem dX7_isShelf_1 : decode cX7_isShelf 1 = .ok (.i2l, 1) := by decide +kernel
theorem dX7_isShelf_2 : decode cX7_isShelf 2 = .ok (.lconst 0, 1) := by decide +kernel
theorem dX7_isShelf_3 : decode cX7_isShelf 3 = .ok (.ldc2_w 195, 3) := by decide +kernel
theorem dX7_isShelf_6 : decode cX7_isShelf 6 = .ok (.invokestatic 94, 3) := by decide +kernel
theorem dX7_isShelf_9 : decode cX7_isShelf 9 = .ok (.ireturn, 1) := by decide +kernel
theorem dX7_row_0 : decode cX7_row 0 = .ok (.iload_n 1, 1) := by decide +kernel
theorem dX7_row_1 : decode cX7_row 1 = .ok (.invokestatic 323, 3) := by decide +kernel
theorem dX7_row_4 : decode cX7_row 4 = .ok (.ifCond .eq 9, 3) := by decide +kernel
theorem dX7_row_7 : decode cX7_row 7 = .ok (.iload_n 2, 1) := by decide +kernel
theorem dX7_row_8 : decode cX7_row 8 = .ok (.bipush 40, 2) := by decide +kernel
theorem dX7_row_10 : decode cX7_row 10 = .ok (.if_icmp .le 5, 3) := by decide +kernel
theorem dX7_row_13 : decode cX7_row 13 = .ok (.iconst (-1), 1) := by decide +kernel
theorem dX7_row_14 : decode cX7_row 14 = .ok (.ireturn, 1) := by decide +kernel
theorem dX7_row_15 : decode cX7_row 15 = .ok (.iload_n 2, 1) := by decide +kernel
theorem dX7_row_16 : decode cX7_row 16 = .ok (.ifCond .ge 6, 3) := by decide +kernel
theorem dX7_row_19 : decode cX7_row 19 = .ok (.bipush (-14), 2) := by decide +kernel
theorem dX7_row_21 : decode cX7_row 21 = .ok (.ireturn, 1) := by decide +kernel
theorem dX7_row_22 : decode cX7_row 22 = .ok (.aload_n 0, 1) := by decide +kernel
theorem dX7_row_23 : decode cX7_row 23 = .ok (.getfield 76, 3) := by decide +kernel
theorem dX7_row_26 : decode cX7_row 26 = .ok (.iload_n 1, 1) := by decide +kernel
theorem dX7_row_27 : decode cX7_row 27 = .ok (.iload_n 2, 1) := by decide +kernel
theorem dX7_row_28 : decode cX7_row 28 = .ok (.iastore, 1) := by decide +kernel
theorem dX7_row_29 : decode cX7_row 29 = .ok (.iconst 0, 1) := by decide +kernel
theorem dX7_row_30 : decode cX7_row 30 = .ok (.istore_n 3, 1) := by decide +kernel
theorem dX7_row_31 : decode cX7_row 31 = .ok (.iload_n 3, 1) := by decide +kernel
theorem dX7_row_32 : decode cX7_row 32 = .ok (.iload_n 2, 1) := by decide +kernel
theorem dX7_row_33 : decode cX7_row 33 = .ok (.if_icmp .ge 21, 3) := by decide +kernel
theorem dX7_row_36 : decode cX7_row 36 = .ok (.aload_n 0, 1) := by decide +kernel
theorem dX7_row_37 : decode cX7_row 37 = .ok (.getfield 73, 3) := by decide +kernel
theorem dX7_row_40 : decode cX7_row 40 = .ok (.bipush 40, 2) := by decide +kernel
theorem dX7_row_42 : decode cX7_row 42 = .ok (.iload_n 1, 1) := by decide +kernel
theorem dX7_row_43 : decode cX7_row 43 = .ok (.imul, 1) := by decide +kernel
theorem dX7_row_44 : decode cX7_row 44 = .ok (.iload_n 3, 1) := by decide +kernel
theorem dX7_row_45 : decode cX7_row 45 = .ok (.iadd, 1) := by decide +kernel
theorem dX7_row_46 : decode cX7_row 46 = .ok (.lconst 0, 1) := by decide +kernel
theorem dX7_row_47 : decode cX7_row 47 = .ok (.lastore, 1) := by decide +kernel
theorem dX7_row_48 : decode cX7_row 48 = .ok (.iinc 3 1, 3) := by decide +kernel
theorem dX7_row_51 : decode cX7_row 51 = .ok (.goto (-20), 3) := by decide +kernel
theorem dX7_row_54 : decode cX7_row 54 = .ok (.iconst 1, 1) := by decide +kernel
theorem dX7_row_55 : decode cX7_row 55 = .ok (.ireturn, 1) := by decide +kernel
theorem dX7_refusal_0 : decode cX7_refusal 0 = .ok (.iload_n 1, 1) := by decide +kernel
theorem dX7_refusal_1 : decode cX7_refusal 1 = .ok (.invokestatic 323, 3) := by decide +kernel
theorem dX7_refusal_4 : decode cX7_refusal 4 = .ok (.ifCond .ne 5, 3) := by decide +kernel
theorem dX7_refusal_7 : decode cX7_refusal 7 = .ok (.iconst (-1), 1) := by decide +kernel
theorem dX7_refusal_8 : decode cX7_refusal 8 = .ok (.ireturn, 1) := by decide +kernel
theorem dX7_refusal_9 : decode cX7_refusal 9 = .ok (.aload_n 0, 1) := by decide +kernel
theorem dX7_refusal_10 : decode cX7_refusal 10 = .ok (.getfield 76, 3) := by decide +kernel
theorem dX7_refusal_13 : decode cX7_refusal 13 = .ok (.iload_n 1, 1) := by decide +kernel
theorem dX7_refusal_14 : decode cX7_refusal 14 = .ok (.iaload, 1) := by decide +kernel
theorem dX7_refusal_15 : decode cX7_refusal 15 = .ok (.iconst (-1), 1) := by decide +kernel
theorem dX7_refusal_16 : decode cX7_refusal 16 = .ok (.if_icmp .ne 6, 3) := by decide +kernel
theorem dX7_refusal_19 : decode cX7_refusal 19 = .ok (.bipush (-11), 2) := by decide +kernel
theorem dX7_refusal_21 : decode cX7_refusal 21 = .ok (.ireturn, 1) := by decide +kernel
theorem dX7_refusal_22 : decode cX7_refusal 22 = .ok (.iload_n 2, 1) := by decide +kernel
theorem dX7_refusal_23 : decode cX7_refusal 23 = .ok (.i2l, 1) := by decide +kernel
theorem dX7_refusal_24 : decode cX7_refusal 24 = .ok (.lconst 0, 1) := by decide +kernel
theorem dX7_refusal_25 : decode cX7_refusal 25 = .ok (.aload_n 0, 1) := by decide +kernel
theorem dX7_refusal_26 : decode cX7_refusal 26 = .ok (.getfield 76, 3) := by decide +kernel
theorem dX7_refusal_29 : decode cX7_refusal 29 = .ok (.iload_n 1, 1) := by decide +kernel
theorem dX7_refusal_30 : decode cX7_refusal 30 = .ok (.iaload, 1) := by decide +kernel
theorem dX7_refusal_31 : decode cX7_refusal 31 = .ok (.iconst 1, 1) := by decide +kernel
theorem dX7_refusal_32 : decode cX7_refusal 32 = .ok (.isub, 1) := by decide +kernel
theorem dX7_refusal_33 : decode cX7_refusal 33 = .ok (.i2l, 1) := by decide +kernel
theorem dX7_refusal_34 : decode cX7_refusal 34 = .ok (.invokestatic 94, 3) := by decide +kernel
theorem dX7_refusal_37 : decode cX7_refusal 37 = .ok (.ifCond .eq 7, 3) := by decide +kernel
theorem dX7_refusal_40 : decode cX7_refusal 40 = .ok (.iconst 0, 1) := by decide +kernel
theorem dX7_refusal_41 : decode cX7_refusal 41 = .ok (.goto 5, 3) := by decide +kernel
theorem dX7_refusal_44 : decode cX7_refusal 44 = .ok (.bipush (-13), 2) := by decide +kernel
theorem dX7_refusal_46 : decode cX7_refusal 46 = .ok (.ireturn, 1) := by decide +kernel
theorem dX7_put_0 : decode cX7_put 0 = .ok (.aload_n 0, 1) := by decide +kernel
theorem dX7_put_1 : decode cX7_put 1 = .ok (.iload_n 1, 1) := by decide +kernel
theorem dX7_put_2 : decode cX7_put 2 = .ok (.iload_n 2, 1) := by decide +kernel
theorem dX7_put_3 : decode cX7_put 3 = .ok (.invokevirtual 335, 3) := by decide +kernel
theorem dX7_put_6 : decode cX7_put 6 = .ok (.istore 5, 2) := by decide +kernel
theorem dX7_put_8 : decode cX7_put 8 = .ok (.iload 5, 2) := by decide +kernel
theorem dX7_put_10 : decode cX7_put 10 = .ok (.ifCond .ge 6, 3) := by decide +kernel

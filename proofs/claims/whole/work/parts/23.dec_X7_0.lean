theorem dX7_init_0 : decode cX7_init 0 = .ok (.aload_n 0, 1) := by decide +kernel
theorem dX7_init_1 : decode cX7_init 1 = .ok (.invokespecial 3, 3) := by decide +kernel
theorem dX7_init_4 : decode cX7_init 4 = .ok (.aload_n 0, 1) := by decide +kernel
theorem dX7_init_5 : decode cX7_init 5 = .ok (.sipush 1014, 3) := by decide +kernel
theorem dX7_init_8 : decode cX7_init 8 = .ok (.newarray .int, 2) := by decide +kernel
theorem dX7_init_10 : decode cX7_init 10 = .ok (.putfield 9, 3) := by decide +kernel
theorem dX7_init_13 : decode cX7_init 13 = .ok (.aload_n 0, 1) := by decide +kernel
theorem dX7_init_14 : decode cX7_init 14 = .ok (.sipush 31434, 3) := by decide +kernel
theorem dX7_init_17 : decode cX7_init 17 = .ok (.newarray .int, 2) := by decide +kernel
theorem dX7_init_19 : decode cX7_init 19 = .ok (.putfield 13, 3) := by decide +kernel
theorem dX7_init_22 : decode cX7_init 22 = .ok (.aload_n 0, 1) := by decide +kernel
theorem dX7_init_23 : decode cX7_init 23 = .ok (.sipush 160, 3) := by decide +kernel
theorem dX7_init_26 : decode cX7_init 26 = .ok (.newarray .int, 2) := by decide +kernel
theorem dX7_init_28 : decode cX7_init 28 = .ok (.putfield 16, 3) := by decide +kernel
theorem dX7_init_31 : decode cX7_init 31 = .ok (.aload_n 0, 1) := by decide +kernel
theorem dX7_init_32 : decode cX7_init 32 = .ok (.bipush 15, 2) := by decide +kernel
theorem dX7_init_34 : decode cX7_init 34 = .ok (.newarray .int, 2) := by decide +kernel
theorem dX7_init_36 : decode cX7_init 36 = .ok (.putfield 19, 3) := by decide +kernel
theorem dX7_init_39 : decode cX7_init 39 = .ok (.aload_n 0, 1) := by decide +kernel
theorem dX7_init_40 : decode cX7_init 40 = .ok (.bipush 90, 2) := by decide +kernel
theorem dX7_init_42 : decode cX7_init 42 = .ok (.newarray .int, 2) := by decide +kernel
theorem dX7_init_44 : decode cX7_init 44 = .ok (.putfield 22, 3) := by decide +kernel
theorem dX7_init_47 : decode cX7_init 47 = .ok (.aload_n 0, 1) := by decide +kernel
theorem dX7_init_48 : decode cX7_init 48 = .ok (.bipush 6, 2) := by decide +kernel
theorem dX7_init_50 : decode cX7_init 50 = .ok (.newarray .int, 2) := by decide +kernel
theorem dX7_init_52 : decode cX7_init 52 = .ok (.putfield 25, 3) := by decide +kernel
theorem dX7_init_55 : decode cX7_init 55 = .ok (.aload_n 0, 1) := by decide +kernel
theorem dX7_init_56 : decode cX7_init 56 = .ok (.bipush 8, 2) := by decide +kernel
theorem dX7_init_58 : decode cX7_init 58 = .ok (.newarray .long, 2) := by decide +kernel
theorem dX7_init_60 : decode cX7_init 60 = .ok (.dup, 1) := by decide +kernel
theorem dX7_init_61 : decode cX7_init 61 = .ok (.iconst 0, 1) := by decide +kernel
theorem dX7_init_62 : decode cX7_init 62 = .ok (.ldc2_w 28, 3) := by decide +kernel
theorem dX7_init_65 : decode cX7_init 65 = .ok (.lastore, 1) := by decide +kernel
theorem dX7_init_66 : decode cX7_init 66 = .ok (.dup, 1) := by decide +kernel
theorem dX7_init_67 : decode cX7_init 67 = .ok (.iconst 1, 1) := by decide +kernel
theorem dX7_init_68 : decode cX7_init 68 = .ok (.ldc2_w 30, 3) := by decide +kernel
theorem dX7_init_71 : decode cX7_init 71 = .ok (.lastore, 1) := by decide +kernel
theorem dX7_init_72 : decode cX7_init 72 = .ok (.dup, 1) := by decide +kernel
theorem dX7_init_73 : decode cX7_init 73 = .ok (.iconst 2, 1) := by decide +kernel
theorem dX7_init_74 : decode cX7_init 74 = .ok (.ldc2_w 32, 3) := by decide +kernel
theorem dX7_init_77 : decode cX7_init 77 = .ok (.lastore, 1) := by decide +kernel
theorem dX7_init_78 : decode cX7_init 78 = .ok (.dup, 1) := by decide +kernel
theorem dX7_init_79 : decode cX7_init 79 = .ok (.iconst 3, 1) := by decide +kernel
theorem dX7_init_80 : decode cX7_init 80 = .ok (.ldc2_w 34, 3) := by decide +kernel
theorem dX7_init_83 : decode cX7_init 83 = .ok (.lastore, 1) := by decide +kernel
theorem dX7_init_84 : decode cX7_init 84 = .ok (.dup, 1) := by decide +kernel
theorem dX7_init_85 : decode cX7_init 85 = .ok (.iconst 4, 1) := by decide +kernel
theorem dX7_init_86 : decode cX7_init 86 = .ok (.ldc2_w 36, 3) := by decide +kernel
theorem dX7_init_89 : decode cX7_init 89 = .ok (.lastore, 1) := by decide +kernel
theorem dX7_init_90 : decode cX7_init 90 = .ok (.dup, 1) := by decide +kernel
theorem dX7_init_91 : decode cX7_init 91 = .ok (.iconst 5, 1) := by decide +kernel
theorem dX7_init_92 : decode cX7_init 92 = .ok (.ldc2_w 38, 3) := by decide +kernel
theorem dX7_init_95 : decode cX7_init 95 = .ok (.lastore, 1) := by decide +kernel
theorem dX7_init_96 : decode cX7_init 96 = .ok (.dup, 1) := by decide +kernel
theorem dX7_init_97 : decode cX7_init 97 = .ok (.bipush 6, 2) := by decide +kernel
theorem dX7_init_99 : decode cX7_init 99 = .ok (.ldc2_w 40, 3) := by decide +kernel
theorem dX7_init_102 : decode cX7_init 102 = .ok (.lastore, 1) := by decide +kernel
theorem dX7_init_103 : decode cX7_init 103 = .ok (.dup, 1) := by decide +kernel
theorem dX7_init_104 : decode cX7_init 104 = .ok (.bipush 7, 2) := by decide +kernel
theorem dX7_init_106 : decode cX7_init 106 = .ok (.ldc2_w 42, 3) := by decide +kernel
theorem dX7_init_109 : decode cX7_init 109 = .ok (.lastore, 1) := by decide +kernel
theorem dX7_init_110 : decode cX7_init 110 = .ok (.putfield 44, 3) := by decide +kernel
theorem dX7_init_113 : decode cX7_init 113 = .ok (.aload_n 0, 1) := by decide +kernel
theorem dX7_init_114 : decode cX7_init 114 = .ok (.sipush 1014, 3) := by decide +kernel
theorem dX7_init_117 : decode cX7_init 117 = .ok (.newarray .int, 2) := by decide +kernel
theorem dX7_init_119 : decode cX7_init 119 = .ok (.putfield 48, 3) := by decide +kernel
theorem dX7_init_122 : decode cX7_init 122 = .ok (.aload_n 0, 1) := by decide +kernel
theorem dX7_init_123 : decode cX7_init 123 = .ok (.bipush 8, 2) := by decide +kernel
theorem dX7_init_125 : decode cX7_init 125 = .ok (.newarray .int, 2) := by decide +kernel
theorem dX7_init_127 : decode cX7_init 127 = .ok (.putfield 51, 3) := by decide +kernel
theorem dX7_init_130 : decode cX7_init 130 = .ok (.aload_n 0, 1) := by decide +kernel
theorem dX7_init_131 : decode cX7_init 131 = .ok (.bipush 8, 2) := by decide +kernel
theorem dX7_init_133 : decode cX7_init 133 = .ok (.newarray .int, 2) := by decide +kernel
theorem dX7_init_135 : decode cX7_init 135 = .ok (.putfield 54, 3) := by decide +kernel
theorem dX7_init_138 : decode cX7_init 138 = .ok (.aload_n 0, 1) := by decide +kernel
theorem dX7_init_139 : decode cX7_init 139 = .ok (.bipush 6, 2) := by decide +kernel
theorem dX7_init_141 : decode cX7_init 141 = .ok (.newarray .int, 2) := by decide +kernel
theorem dX7_init_143 : decode cX7_init 143 = .ok (.putfield 57, 3) := by decide +kernel
theorem dX7_init_146 : decode cX7_init 146 = .ok (.aload_n 0, 1) := by decide +kernel
theorem dX7_init_147 : decode cX7_init 147 = .ok (.sipush 1000, 3) := by decide +kernel
theorem dX7_init_150 : decode cX7_init 150 = .ok (.newarray .boolean, 2) := by decide +kernel
theorem dX7_init_152 : decode cX7_init 152 = .ok (.putfield 60, 3) := by decide +kernel
theorem dX7_init_155 : decode cX7_init 155 = .ok (.aload_n 0, 1) := by decide +kernel
theorem dX7_init_156 : decode cX7_init 156 = .ok (.bipush 6, 2) := by decide +kernel
theorem dX7_init_158 : decode cX7_init 158 = .ok (.newarray .boolean, 2) := by decide +kernel
theorem dX7_init_160 : decode cX7_init 160 = .ok (.putfield 64, 3) := by decide +kernel
theorem dX7_init_163 : decode cX7_init 163 = .ok (.aload_n 0, 1) := by decide +kernel
theorem dX7_init_164 : decode cX7_init 164 = .ok (.bipush 6, 2) := by decide +kernel
theorem dX7_init_166 : decode cX7_init 166 = .ok (.newarray .boolean, 2) := by decide +kernel
theorem dX7_init_168 : decode cX7_init 168 = .ok (.putfield 67, 3) := by decide +kernel
theorem dX7_init_171 : decode cX7_init 171 = .ok (.aload_n 0, 1) := by decide +kernel
theorem dX7_init_172 : decode cX7_init 172 = .ok (.bipush 10, 2) := by decide +kernel
theorem dX7_init_174 : decode cX7_init 174 = .ok (.newarray .boolean, 2) := by decide +kernel
theorem dX7_init_176 : decode cX7_init 176 = .ok (.putfield 70, 3) := by decide +kernel
theorem dX7_init_179 : decode cX7_init 179 = .ok (.aload_n 0, 1) := by decide +kernel
theorem dX7_init_180 : decode cX7_init 180 = .ok (.sipush 160, 3) := by decide +kernel
theorem dX7_init_183 : decode cX7_init 183 = .ok (.newarray .long, 2) := by decide +kernel
theorem dX7_init_185 : decode cX7_init 185 = .ok (.putfield 73, 3) := by decide +kernel
theorem dX7_init_188 : decode cX7_init 188 = .ok (.aload_n 0, 1) := by decide +kernel
theorem dX7_init_189 : decode cX7_init 189 = .ok (.iconst 4, 1) := by decide +kernel
theorem dX7_init_190 : decode cX7_init 190 = .ok (.newarray .int, 2) := by decide +kernel
theorem dX7_init_192 : decode cX7_init 192 = .ok (.dup, 1) := by decide +kernel
theorem dX7_init_193 : decode cX7_init 193 = .ok (.iconst 0, 1) := by decide +kernel
theorem dX7_init_194 : decode cX7_init 194 = .ok (.iconst (-1), 1) := by decide +kernel
theorem dX7_init_195 : decode cX7_init 195 = .ok (.iastore, 1) := by decide +kernel
theorem dX7_init_196 : decode cX7_init 196 = .ok (.dup, 1) := by decide +kernel
theorem dX7_init_197 : decode cX7_init 197 = .ok (.iconst 1, 1) := by decide +kernel
theorem dX7_init_198 : decode cX7_init 198 = .ok (.iconst (-1), 1) := by decide +kernel
theorem dX7_init_199 : decode cX7_init 199 = .ok (.iastore, 1) := by decide +kernel
theorem dX7_init_200 : decode cX7_init 200 = .ok (.dup, 1) := by decide +kernel
theorem dX7_init_201 : decode cX7_init 201 = .ok (.iconst 2, 1) := by decide +kernel
theorem dX7_init_202 : decode cX7_init 202 = .ok (.iconst (-1), 1) := by decide +kernel
theorem dX7_init_203 : decode cX7_init 203 = .ok (.iastore, 1) := by decide +kernel
theorem dX7_init_204 : decode cX7_init 204 = .ok (.dup, 1) := by decide +kernel
theorem dX7_init_205 : decode cX7_init 205 = .ok (.iconst 3, 1) := by decide +kernel
theorem dX7_init_206 : decode cX7_init 206 = .ok (.iconst (-1), 1) := by decide +kernel
theorem dX7_init_207 : decode cX7_init 207 = .ok (.iastore, 1) := by decide +kernel
theorem dX7_init_208 : decode cX7_init 208 = .ok (.putfield 76, 3) := by decide +kernel
theorem dX7_init_211 : decode cX7_init 211 = .ok (.aload_n 0, 1) := by decide +kernel
theorem dX7_init_212 : decode cX7_init 212 = .ok (.sipush 1014, 3) := by decide +kernel
theorem dX7_init_215 : decode cX7_init 215 = .ok (.newarray .int, 2) := by decide +kernel
theorem dX7_init_217 : decode cX7_init 217 = .ok (.putfield 79, 3) := by decide +kernel
theorem dX7_init_220 : decode cX7_init 220 = .ok (.aload_n 0, 1) := by decide +kernel
theorem dX7_init_221 : decode cX7_init 221 = .ok (.getfield 9, 3) := by decide +kernel
theorem dX7_init_224 : decode cX7_init 224 = .ok (.iconst 3, 1) := by decide +kernel
theorem dX7_init_225 : decode cX7_init 225 = .ok (.iconst 4, 1) := by decide +kernel
theorem dX7_init_226 : decode cX7_init 226 = .ok (.iastore, 1) := by decide +kernel
theorem dX7_init_227 : decode cX7_init 227 = .ok (.aload_n 0, 1) := by decide +kernel
theorem dX7_init_228 : decode cX7_init 228 = .ok (.getfield 9, 3) := by decide +kernel
theorem dX7_init_231 : decode cX7_init 231 = .ok (.iconst 4, 1) := by decide +kernel
theorem dX7_init_232 : decode cX7_init 232 = .ok (.bipush 50, 2) := by decide +kernel
theorem dX7_init_234 : decode cX7_init 234 = .ok (.iastore, 1) := by decide +kernel
theorem dX7_init_235 : decode cX7_init 235 = .ok (.aload_n 0, 1) := by decide +kernel
theorem dX7_init_236 : decode cX7_init 236 = .ok (.getfield 9, 3) := by decide +kernel
theorem dX7_init_239 : decode cX7_init 239 = .ok (.iconst 5, 1) := by decide +kernel
theorem dX7_init_240 : decode cX7_init 240 = .ok (.iconst 5, 1) := by decide +kernel
theorem dX7_init_241 : decode cX7_init 241 = .ok (.iastore, 1) := by decide +kernel
theorem dX7_init_242 : decode cX7_init 242 = .ok (.aload_n 0, 1) := by decide +kernel
theorem dX7_init_243 : decode cX7_init 243 = .ok (.getfield 9, 3) := by decide +kernel
theorem dX7_init_246 : decode cX7_init 246 = .ok (.bipush 6, 2) := by decide +kernel
theorem dX7_init_248 : decode cX7_init 248 = .ok (.bipush 6, 2) := by decide +kernel
theorem dX7_init_250 : decode cX7_init 250 = .ok (.iastore, 1) := by decide +kernel
theorem dX7_init_251 : decode cX7_init 251 = .ok (.aload_n 0, 1) := by decide +kernel
theorem dX7_init_252 : decode cX7_init 252 = .ok (.getfield 9, 3) := by decide +kernel
theorem dX7_init_255 : decode cX7_init 255 = .ok (.bipush 7, 2) := by decide +kernel
theorem dX7_init_257 : decode cX7_init 257 = .ok (.iconst 2, 1) := by decide +kernel
theorem dX7_init_258 : decode cX7_init 258 = .ok (.iastore, 1) := by decide +kernel
theorem dX7_init_259 : decode cX7_init 259 = .ok (.aload_n 0, 1) := by decide +kernel
theorem dX7_init_260 : decode cX7_init 260 = .ok (.getfield 9, 3) := by decide +kernel
theorem dX7_init_263 : decode cX7_init 263 = .ok (.bipush 9, 2) := by decide +kernel
theorem dX7_init_265 : decode cX7_init 265 = .ok (.iconst 1, 1) := by decide +kernel
theorem dX7_init_266 : decode cX7_init 266 = .ok (.iastore, 1) := by decide +kernel
theorem dX7_init_267 : decode cX7_init 267 = .ok (.iconst 0, 1) := by decide +kernel
theorem dX7_init_268 : decode cX7_init 268 = .ok (.istore_n 1, 1) := by decide +kernel
theorem dX7_init_269 : decode cX7_init 269 = .ok (.iload_n 1, 1) := by decide +kernel
theorem dX7_init_270 : decode cX7_init 270 = .ok (.bipush 6, 2) := by decide +kernel
theorem dX7_init_272 : decode cX7_init 272 = .ok (.if_icmp .ge 33, 3) := by decide +kernel
theorem dX7_init_275 : decode cX7_init 275 = .ok (.aload_n 0, 1) := by decide +kernel
theorem dX7_init_276 : decode cX7_init 276 = .ok (.getfield 9, 3) := by decide +kernel
theorem dX7_init_279 : decode cX7_init 279 = .ok (.iload_n 1, 1) := by decide +kernel
theorem dX7_init_280 : decode cX7_init 280 = .ok (.invokestatic 82, 3) := by decide +kernel
theorem dX7_init_283 : decode cX7_init 283 = .ok (.iconst 0, 1) := by decide +kernel
theorem dX7_init_284 : decode cX7_init 284 = .ok (.iadd, 1) := by decide +kernel
theorem dX7_init_285 : decode cX7_init 285 = .ok (.iload_n 1, 1) := by decide +kernel
theorem dX7_init_286 : decode cX7_init 286 = .ok (.iastore, 1) := by decide +kernel
theorem dX7_init_287 : decode cX7_init 287 = .ok (.aload_n 0, 1) := by decide +kernel
theorem dX7_init_288 : decode cX7_init 288 = .ok (.getfield 9, 3) := by decide +kernel
theorem dX7_init_291 : decode cX7_init 291 = .ok (.iload_n 1, 1) := by decide +kernel
theorem dX7_init_292 : decode cX7_init 292 = .ok (.invokestatic 82, 3) := by decide +kernel
theorem dX7_init_295 : decode cX7_init 295 = .ok (.iconst 1, 1) := by decide +kernel
theorem dX7_init_296 : decode cX7_init 296 = .ok (.iadd, 1) := by decide +kernel
theorem dX7_init_297 : decode cX7_init 297 = .ok (.iconst (-1), 1) := by decide +kernel
theorem dX7_init_298 : decode cX7_init 298 = .ok (.iastore, 1) := by decide +kernel
theorem dX7_init_299 : decode cX7_init 299 = .ok (.iinc 1 1, 3) := by decide +kernel
theorem dX7_init_302 : decode cX7_init 302 = .ok (.goto (-33), 3) := by decide +kernel
theorem dX7_init_305 : decode cX7_init 305 = .ok (.aload_n 0, 1) := by decide +kernel
theorem dX7_init_306 : decode cX7_init 306 = .ok (.getfield 9, 3) := by decide +kernel
theorem dX7_init_309 : decode cX7_init 309 = .ok (.iconst 0, 1) := by decide +kernel
theorem dX7_init_310 : decode cX7_init 310 = .ok (.aload_n 0, 1) := by decide +kernel
theorem dX7_init_311 : decode cX7_init 311 = .ok (.getfield 13, 3) := by decide +kernel
theorem dX7_init_314 : decode cX7_init 314 = .ok (.iconst 0, 1) := by decide +kernel
theorem dX7_init_315 : decode cX7_init 315 = .ok (.sipush 1014, 3) := by decide +kernel
theorem dX7_init_318 : decode cX7_init 318 = .ok (.invokestatic 86, 3) := by decide +kernel
theorem dX7_init_321 : decode cX7_init 321 = .ok (.return_, 1) := by decide +kernel
theorem dX7_in_0 : decode cX7_in 0 = .ok (.lload_n 0, 1) := by decide +kernel
theorem dX7_in_1 : decode cX7_in 1 = .ok (.lload_n 2, 1) := by decide +kernel
theorem dX7_in_2 : decode cX7_in 2 = .ok (.lcmp, 1) := by decide +kernel
theorem dX7_in_3 : decode cX7_in 3 = .ok (.ifCond .lt 14, 3) := by decide +kernel
theorem dX7_in_6 : decode cX7_in 6 = .ok (.lload_n 0, 1) := by decide +kernel
theorem dX7_in_7 : decode cX7_in 7 = .ok (.lload 4, 2) := by decide +kernel
theorem dX7_in_9 : decode cX7_in 9 = .ok (.lcmp, 1) := by decide +kernel
theorem dX7_in_10 : decode cX7_in 10 = .ok (.ifCond .gt 7, 3) := by decide +kernel
theorem dX7_in_13 : decode cX7_in 13 = .ok (.iconst 1, 1) := by decide +kernel
theorem dX7_in_14 : decode cX7_in 14 = .ok (.goto 4, 3) := by decide +kernel
theorem dX7_in_17 : decode cX7_in 17 = .ok (.iconst 0, 1) := by decide +kernel
theorem dX7_in_18 : decode cX7_in 18 = .ok (.ireturn, 1) := by decide +kernel
theorem dX7_isClient_0 : decode cX7_isClient 0 = .ok (.iload_n 0, 1) := by decide +kernel
theorem dX7_isClient_1 : decode cX7_isClient 1 = .ok (.i2l, 1) := by decide +kernel
theorem dX7_isClient_2 : decode cX7_isClient 2 = .ok (.lconst 0, 1) := by decide +kernel
theorem dX7_isClient_3 : decode cX7_isClient 3 = .ok (.ldc2_w 92, 3) := by decide +kernel
theorem dX7_isClient_6 : decode cX7_isClient 6 = .ok (.invokestatic 94, 3) := by decide +kernel
theorem dX7_isClient_9 : decode cX7_isClient 9 = .ok (.ireturn, 1) := by decide +kernel
theorem dX7_isGroup_0 : decode cX7_isGroup 0 = .ok (.iload_n 0, 1) := by decide +kernel
theorem dX7_isGroup_1 : decode cX7_isGroup 1 = .ok (.i2l, 1) := by decide +kernel
theorem dX7_isGroup_2 : decode cX7_isGroup 2 = .ok (.lconst 0, 1) := by decide +kernel
theorem dX7_isGroup_3 : decode cX7_isGroup 3 = .ok (.ldc2_w 92, 3) := by decide +kernel
theorem dX7_isGroup_6 : decode cX7_isGroup 6 = .ok (.invokestatic 94, 3) := by decide +kernel
theorem dX7_isGroup_9 : decode cX7_isGroup 9 = .ok (.ireturn, 1) := by decide +kernel
theorem dX7_isKey_0 : decode cX7_isKey 0 = .ok (.iload_n 0, 1) := by decide +kernel
theorem dX7_isKey_1 : decode cX7_isKey 1 = .ok (.i2l, 1) := by decide +kernel
theorem dX7_isKey_2 : decode cX7_isKey 2 = .ok (.lconst 0, 1) := by decide +kernel
theorem dX7_isKey_3 : decode cX7_isKey 3 = .ok (.ldc2_w 98, 3) := by decide +kernel
theorem dX7_isKey_6 : decode cX7_isKey 6 = .ok (.invokestatic 94, 3) := by decide +kernel
theorem dX7_isKey_9 : decode cX7_isKey 9 = .ok (.ireturn, 1) := by decide +kernel
theorem dX7_isRegion_0 : decode cX7_isRegion 0 = .ok (.iload_n 0, 1) := by decide +kernel
theorem dX7_isRegion_1 : decode cX7_isRegion 1 = .ok (.i2l, 1) := by decide +kernel
theorem dX7_isRegion_2 : decode cX7_isRegion 2 = .ok (.lconst 0, 1) := by decide +kernel
theorem dX7_isRegion_3 : decode cX7_isRegion 3 = .ok (.ldc2_w 100, 3) := by decide +kernel
theorem dX7_isRegion_6 : decode cX7_isRegion 6 = .ok (.invokestatic 94, 3) := by decide +kernel
theorem dX7_isRegion_9 : decode cX7_isRegion 9 = .ok (.ireturn, 1) := by decide +kernel
theorem dX7_hand_0 : decode cX7_hand 0 = .ok (.sipush 972, 3) := by decide +kernel
theorem dX7_hand_3 : decode cX7_hand 3 = .ok (.bipush 7, 2) := by decide +kernel
theorem dX7_hand_5 : decode cX7_hand 5 = .ok (.iload_n 0, 1) := by decide +kernel
theorem dX7_hand_6 : decode cX7_hand 6 = .ok (.imul, 1) := by decide +kernel
theorem dX7_hand_7 : decode cX7_hand 7 = .ok (.iadd, 1) := by decide +kernel
theorem dX7_hand_8 : decode cX7_hand 8 = .ok (.ireturn, 1) := by decide +kernel
theorem dX7_entryAt_0 : decode cX7_entryAt 0 = .ok (.sipush 222, 3) := by decide +kernel
theorem dX7_entryAt_3 : decode cX7_entryAt 3 = .ok (.bipush 6, 2) := by decide +kernel
theorem dX7_entryAt_5 : decode cX7_entryAt 5 = .ok (.bipush 10, 2) := by decide +kernel
theorem dX7_entryAt_7 : decode cX7_entryAt 7 = .ok (.iload_n 0, 1) := by decide +kernel
theorem dX7_entryAt_8 : decode cX7_entryAt 8 = .ok (.imul, 1) := by decide +kernel
theorem dX7_entryAt_9 : decode cX7_entryAt 9 = .ok (.iload_n 1, 1) := by decide +kernel
theorem dX7_entryAt_10 : decode cX7_entryAt 10 = .ok (.iadd, 1) := by decide +kernel
theorem dX7_entryAt_11 : decode cX7_entryAt 11 = .ok (.imul, 1) := by decide +kernel
theorem dX7_entryAt_12 : decode cX7_entryAt 12 = .ok (.iadd, 1) := by decide +kernel
theorem dX7_entryAt_13 : decode cX7_entryAt 13 = .ok (.ireturn, 1) := by decide +kernel
theorem dX7_oldAt_0 : decode cX7_oldAt 0 = .ok (.sipush 582, 3) := by decide +kernel
theorem dX7_oldAt_3 : decode cX7_oldAt 3 = .ok (.iconst 2, 1) := by decide +kernel
theorem dX7_oldAt_4 : decode cX7_oldAt 4 = .ok (.bipush 10, 2) := by decide +kernel
theorem dX7_oldAt_6 : decode cX7_oldAt 6 = .ok (.iload_n 0, 1) := by decide +kernel
theorem dX7_oldAt_7 : decode cX7_oldAt 7 = .ok (.imul, 1) := by decide +kernel
theorem dX7_oldAt_8 : decode cX7_oldAt 8 = .ok (.iload_n 1, 1) := by decide +kernel
theorem dX7_oldAt_9 : decode cX7_oldAt 9 = .ok (.iadd, 1) := by decide +kernel
theorem dX7_oldAt_10 : decode cX7_oldAt 10 = .ok (.imul, 1) := by decide +kernel
theorem dX7_oldAt_11 : decode cX7_oldAt 11 = .ok (.iadd, 1) := by decide +kernel
theorem dX7_oldAt_12 : decode cX7_oldAt 12 = .ok (.ireturn, 1) := by decide +kernel
theorem dX7_leaseAt_0 : decode cX7_leaseAt 0 = .ok (.sipush 702, 3) := by decide +kernel
theorem dX7_leaseAt_3 : decode cX7_leaseAt 3 = .ok (.iconst 3, 1) := by decide +kernel
theorem dX7_leaseAt_4 : decode cX7_leaseAt 4 = .ok (.bipush 10, 2) := by decide +kernel
theorem dX7_leaseAt_6 : decode cX7_leaseAt 6 = .ok (.iload_n 0, 1) := by decide +kernel
theorem dX7_leaseAt_7 : decode cX7_leaseAt 7 = .ok (.imul, 1) := by decide +kernel
theorem dX7_leaseAt_8 : decode cX7_leaseAt 8 = .ok (.iload_n 1, 1) := by decide +kernel
theorem dX7_leaseAt_9 : decode cX7_leaseAt 9 = .ok (.iadd, 1) := by decide +kernel
theorem dX7_leaseAt_10 : decode cX7_leaseAt 10 = .ok (.imul, 1) := by decide +kernel
theorem dX7_leaseAt_11 : decode cX7_leaseAt 11 = .ok (.iadd, 1) := by decide +kernel
theorem dX7_leaseAt_12 : decode cX7_leaseAt 12 = .ok (.ireturn, 1) := by decide +kernel
theorem dX7_holdAt_0 : decode cX7_holdAt 0 = .ok (.sipush 882, 3) := by decide +kernel
theorem dX7_holdAt_3 : decode cX7_holdAt 3 = .ok (.bipush 10, 2) := by decide +kernel
theorem dX7_holdAt_5 : decode cX7_holdAt 5 = .ok (.iload_n 0, 1) := by decide +kernel
theorem dX7_holdAt_6 : decode cX7_holdAt 6 = .ok (.imul, 1) := by decide +kernel
theorem dX7_holdAt_7 : decode cX7_holdAt 7 = .ok (.iadd, 1) := by decide +kernel
theorem dX7_holdAt_8 : decode cX7_holdAt 8 = .ok (.iload_n 1, 1) := by decide +kernel
theorem dX7_holdAt_9 : decode cX7_holdAt 9 = .ok (.iadd, 1) := by decide +kernel
theorem dX7_holdAt_10 : decode cX7_holdAt 10 = .ok (.ireturn, 1) := by decide +kernel
theorem dX7_isThere_0 : decode cX7_isThere 0 = .ok (.aload_n 0, 1) := by decide +kernel
theorem dX7_isThere_1 : decode cX7_isThere 1 = .ok (.getfield 9, 3) := by decide +kernel
theorem dX7_isThere_4 : decode cX7_isThere 4 = .ok (.iload_n 1, 1) := by decide +kernel
theorem dX7_isThere_5 : decode cX7_isThere 5 = .ok (.iaload, 1) := by decide +kernel
theorem dX7_isThere_6 : decode cX7_isThere 6 = .ok (.aload_n 0, 1) := by decide +kernel
theorem dX7_isThere_7 : decode cX7_isThere 7 = .ok (.getfield 9, 3) := by decide +kernel
theorem dX7_isThere_10 : decode cX7_isThere 10 = .ok (.iconst 0, 1) := by decide +kernel
theorem dX7_isThere_11 : decode cX7_isThere 11 = .ok (.iaload, 1) := by decide +kernel
theorem dX7_isThere_12 : decode cX7_isThere 12 = .ok (.if_icmp .le 7, 3) := by decide +kernel
theorem dX7_isThere_15 : decode cX7_isThere 15 = .ok (.iconst 1, 1) := by decide +kernel
theorem dX7_isThere_16 : decode cX7_isThere 16 = .ok (.goto 4, 3) := by decide +kernel
theorem dX7_isThere_19 : decode cX7_isThere 19 = .ok (.iconst 0, 1) := by decide +kernel
theorem dX7_isThere_20 : decode cX7_isThere 20 = .ok (.ireturn, 1) := by decide +kernel
theorem dX7_groupOf_0 : decode cX7_groupOf 0 = .ok (.aload_n 0, 1) := by decide +kernel
theorem dX7_groupOf_1 : decode cX7_groupOf 1 = .ok (.getfield 9, 3) := by decide +kernel
theorem dX7_groupOf_4 : decode cX7_groupOf 4 = .ok (.iload_n 1, 1) := by decide +kernel
theorem dX7_groupOf_5 : decode cX7_groupOf 5 = .ok (.invokestatic 82, 3) := by decide +kernel
theorem dX7_groupOf_8 : decode cX7_groupOf 8 = .ok (.iconst 0, 1) := by decide +kernel
theorem dX7_groupOf_9 : decode cX7_groupOf 9 = .ok (.iadd, 1) := by decide +kernel
theorem dX7_groupOf_10 : decode cX7_groupOf 10 = .ok (.iaload, 1) := by decide +kernel
theorem dX7_groupOf_11 : decode cX7_groupOf 11 = .ok (.ireturn, 1) := by decide +kernel
theorem dX7_keyOf_0 : decode cX7_keyOf 0 = .ok (.aload_n 0, 1) := by decide +kernel
theorem dX7_keyOf_1 : decode cX7_keyOf 1 = .ok (.getfield 9, 3) := by decide +kernel
theorem dX7_keyOf_4 : decode cX7_keyOf 4 = .ok (.bipush 36, 2) := by decide +kernel
theorem dX7_keyOf_6 : decode cX7_keyOf 6 = .ok (.iconst 3, 1) := by decide +kernel
theorem dX7_keyOf_7 : decode cX7_keyOf 7 = .ok (.iload_n 1, 1) := by decide +kernel
theorem dX7_keyOf_8 : decode cX7_keyOf 8 = .ok (.iconst 1, 1) := by decide +kernel
theorem dX7_keyOf_9 : decode cX7_keyOf 9 = .ok (.isub, 1) := by decide +kernel
theorem dX7_keyOf_10 : decode cX7_keyOf 10 = .ok (.imul, 1) := by decide +kernel
theorem dX7_keyOf_11 : decode cX7_keyOf 11 = .ok (.iadd, 1) := by decide +kernel
theorem dX7_keyOf_12 : decode cX7_keyOf 12 = .ok (.iaload, 1) := by decide +kernel
theorem dX7_keyOf_13 : decode cX7_keyOf 13 = .ok (.ireturn, 1) := by decide +kernel
theorem dX7_valueOf_0 : decode cX7_valueOf 0 = .ok (.iload_n 1, 1) := by decide +kernel
theorem dX7_valueOf_1 : decode cX7_valueOf 1 = .ok (.ifCond .ne 7, 3) := by decide +kernel
theorem dX7_valueOf_4 : decode cX7_valueOf 4 = .ok (.iconst 0, 1) := by decide +kernel
theorem dX7_valueOf_5 : decode cX7_valueOf 5 = .ok (.goto 18, 3) := by decide +kernel
theorem dX7_valueOf_8 : decode cX7_valueOf 8 = .ok (.aload_n 0, 1) := by decide +kernel
theorem dX7_valueOf_9 : decode cX7_valueOf 9 = .ok (.getfield 9, 3) := by decide +kernel
theorem dX7_valueOf_12 : decode cX7_valueOf 12 = .ok (.bipush 36, 2) := by decide +kernel
theorem dX7_valueOf_14 : decode cX7_valueOf 14 = .ok (.iconst 3, 1) := by decide +kernel
theorem dX7_valueOf_15 : decode cX7_valueOf 15 = .ok (.iload_n 1, 1) := by decide +kernel
theorem dX7_valueOf_16 : decode cX7_valueOf 16 = .ok (.iconst 1, 1) := by decide +kernel
theorem dX7_valueOf_17 : decode cX7_valueOf 17 = .ok (.isub, 1) := by decide +kernel
theorem dX7_valueOf_18 : decode cX7_valueOf 18 = .ok (.imul, 1) := by decide +kernel
theorem dX7_valueOf_19 : decode cX7_valueOf 19 = .ok (.iadd, 1) := by decide +kernel
theorem dX7_valueOf_20 : decode cX7_valueOf 20 = .ok (.iconst 1, 1) := by decide +kernel
theorem dX7_valueOf_21 : decode cX7_valueOf 21 = .ok (.iadd, 1) := by decide +kernel
theorem dX7_valueOf_22 : decode cX7_valueOf 22 = .ok (.iaload, 1) := by decide +kernel
theorem dX7_valueOf_23 : decode cX7_valueOf 23 = .ok (.ireturn, 1) := by decide +kernel
theorem dX7_lastOf_0 : decode cX7_lastOf 0 = .ok (.iload_n 2, 1) := by decide +kernel
theorem dX7_lastOf_1 : decode cX7_lastOf 1 = .ok (.istore_n 3, 1) := by decide +kernel
theorem dX7_lastOf_2 : decode cX7_lastOf 2 = .ok (.iload_n 3, 1) := by decide +kernel
theorem dX7_lastOf_3 : decode cX7_lastOf 3 = .ok (.ifCond .le 18, 3) := by decide +kernel
theorem dX7_lastOf_6 : decode cX7_lastOf 6 = .ok (.aload_n 0, 1) := by decide +kernel
theorem dX7_lastOf_7 : decode cX7_lastOf 7 = .ok (.iload_n 3, 1) := by decide +kernel
theorem dX7_lastOf_8 : decode cX7_lastOf 8 = .ok (.invokevirtual 102, 3) := by decide +kernel
theorem dX7_lastOf_11 : decode cX7_lastOf 11 = .ok (.iload_n 1, 1) := by decide +kernel
theorem dX7_lastOf_12 : decode cX7_lastOf 12 = .ok (.if_icmp .eq 9, 3) := by decide +kernel
theorem dX7_lastOf_15 : decode cX7_lastOf 15 = .ok (.iinc 3 (-1), 3) := by decide +kernel
theorem dX7_lastOf_18 : decode cX7_lastOf 18 = .ok (.goto (-16), 3) := by decide +kernel
theorem dX7_lastOf_21 : decode cX7_lastOf 21 = .ok (.iload_n 3, 1) := by decide +kernel
theorem dX7_lastOf_22 : decode cX7_lastOf 22 = .ok (.ireturn, 1) := by decide +kernel
theorem dX7_storeVersion_0 : decode cX7_storeVersion 0 = .ok (.aload_n 0, 1) := by decide +kernel
theorem dX7_storeVersion_1 : decode cX7_storeVersion 1 = .ok (.iload_n 2, 1) := by decide +kernel
theorem dX7_storeVersion_2 : decode cX7_storeVersion 2 = .ok (.iload_n 1, 1) := by decide +kernel
theorem dX7_storeVersion_3 : decode cX7_storeVersion 3 = .ok (.ifCond .ne 12, 3) := by decide +kernel
theorem dX7_storeVersion_6 : decode cX7_storeVersion 6 = .ok (.aload_n 0, 1) := by decide +kernel
theorem dX7_storeVersion_7 : decode cX7_storeVersion 7 = .ok (.getfield 9, 3) := by decide +kernel
theorem dX7_storeVersion_10 : decode cX7_storeVersion 10 = .ok (.iconst 2, 1) := by decide +kernel
theorem dX7_storeVersion_11 : decode cX7_storeVersion 11 = .ok (.iaload, 1) := by decide +kernel
theorem dX7_storeVersion_12 : decode cX7_storeVersion 12 = .ok (.goto 12, 3) := by decide +kernel
theorem dX7_storeVersion_15 : decode cX7_storeVersion 15 = .ok (.aload_n 0, 1) := by decide +kernel
theorem dX7_storeVersion_16 : decode cX7_storeVersion 16 = .ok (.getfield 9, 3) := by decide +kernel
theorem dX7_storeVersion_19 : decode cX7_storeVersion 19 = .ok (.bipush 10, 2) := by decide +kernel
theorem dX7_storeVersion_21 : decode cX7_storeVersion 21 = .ok (.iload_n 1, 1) := by decide +kernel
theorem dX7_storeVersion_22 : decode cX7_storeVersion 22 = .ok (.iadd, 1) := by decide +kernel
theorem dX7_storeVersion_23 : decode cX7_storeVersion 23 = .ok (.iaload, 1) := by decide +kernel
theorem dX7_storeVersion_24 : decode cX7_storeVersion 24 = .ok (.invokevirtual 105, 3) := by decide +kernel
theorem dX7_storeVersion_27 : decode cX7_storeVersion 27 = .ok (.ireturn, 1) := by decide +kernel
theorem dX7_doGet_0 : decode cX7_doGet 0 = .ok (.aload_n 0, 1) := by decide +kernel
theorem dX7_doGet_1 : decode cX7_doGet 1 = .ok (.iload_n 1, 1) := by decide +kernel
theorem dX7_doGet_2 : decode cX7_doGet 2 = .ok (.invokevirtual 109, 3) := by decide +kernel
theorem dX7_doGet_5 : decode cX7_doGet 5 = .ok (.istore_n 3, 1) := by decide +kernel
theorem dX7_doGet_6 : decode cX7_doGet 6 = .ok (.iload_n 3, 1) := by decide +kernel
theorem dX7_doGet_7 : decode cX7_doGet 7 = .ok (.iload_n 2, 1) := by decide +kernel
theorem dX7_doGet_8 : decode cX7_doGet 8 = .ok (.invokestatic 112, 3) := by decide +kernel
theorem dX7_doGet_11 : decode cX7_doGet 11 = .ok (.istore 4, 2) := by decide +kernel
theorem dX7_doGet_13 : decode cX7_doGet 13 = .ok (.aload_n 0, 1) := by decide +kernel
theorem dX7_doGet_14 : decode cX7_doGet 14 = .ok (.iload 4, 2) := by decide +kernel
theorem dX7_doGet_16 : decode cX7_doGet 16 = .ok (.invokevirtual 115, 3) := by decide +kernel
theorem dX7_doGet_19 : decode cX7_doGet 19 = .ok (.ifCond .eq 65, 3) := by decide +kernel
theorem dX7_doGet_22 : decode cX7_doGet 22 = .ok (.aload_n 0, 1) := by decide +kernel
theorem dX7_doGet_23 : decode cX7_doGet 23 = .ok (.getfield 9, 3) := by decide +kernel
theorem dX7_doGet_26 : decode cX7_doGet 26 = .ok (.iload 4, 2) := by decide +kernel
theorem dX7_doGet_28 : decode cX7_doGet 28 = .ok (.iconst 4, 1) := by decide +kernel
theorem dX7_doGet_29 : decode cX7_doGet 29 = .ok (.iadd, 1) := by decide +kernel
theorem dX7_doGet_30 : decode cX7_doGet 30 = .ok (.aload_n 0, 1) := by decide +kernel
theorem dX7_doGet_31 : decode cX7_doGet 31 = .ok (.getfield 9, 3) := by decide +kernel
theorem dX7_doGet_34 : decode cX7_doGet 34 = .ok (.iconst 0, 1) := by decide +kernel
theorem dX7_doGet_35 : decode cX7_doGet 35 = .ok (.iaload, 1) := by decide +kernel
theorem dX7_doGet_36 : decode cX7_doGet 36 = .ok (.iastore, 1) := by decide +kernel
theorem dX7_doGet_37 : decode cX7_doGet 37 = .ok (.aload_n 0, 1) := by decide +kernel
theorem dX7_doGet_38 : decode cX7_doGet 38 = .ok (.getfield 9, 3) := by decide +kernel
theorem dX7_doGet_41 : decode cX7_doGet 41 = .ok (.iload 4, 2) := by decide +kernel
theorem dX7_doGet_43 : decode cX7_doGet 43 = .ok (.iconst 5, 1) := by decide +kernel
theorem dX7_doGet_44 : decode cX7_doGet 44 = .ok (.iadd, 1) := by decide +kernel
theorem dX7_doGet_45 : decode cX7_doGet 45 = .ok (.dup2, 1) := by decide +kernel
theorem dX7_doGet_46 : decode cX7_doGet 46 = .ok (.iaload, 1) := by decide +kernel
theorem dX7_doGet_47 : decode cX7_doGet 47 = .ok (.iconst 1, 1) := by decide +kernel
theorem dX7_doGet_48 : decode cX7_doGet 48 = .ok (.iadd, 1) := by decide +kernel
theorem dX7_doGet_49 : decode cX7_doGet 49 = .ok (.iastore, 1) := by decide +kernel
theorem dX7_doGet_50 : decode cX7_doGet 50 = .ok (.aload_n 0, 1) := by decide +kernel
theorem dX7_doGet_51 : decode cX7_doGet 51 = .ok (.getfield 9, 3) := by decide +kernel
theorem dX7_doGet_54 : decode cX7_doGet 54 = .ok (.bipush 26, 2) := by decide +kernel
theorem dX7_doGet_56 : decode cX7_doGet 56 = .ok (.iload_n 2, 1) := by decide +kernel
theorem dX7_doGet_57 : decode cX7_doGet 57 = .ok (.iadd, 1) := by decide +kernel
theorem dX7_doGet_58 : decode cX7_doGet 58 = .ok (.dup2, 1) := by decide +kernel
theorem dX7_doGet_59 : decode cX7_doGet 59 = .ok (.iaload, 1) := by decide +kernel
theorem dX7_doGet_60 : decode cX7_doGet 60 = .ok (.iconst 1, 1) := by decide +kernel
theorem dX7_doGet_61 : decode cX7_doGet 61 = .ok (.iadd, 1) := by decide +kernel
theorem dX7_doGet_62 : decode cX7_doGet 62 = .ok (.iastore, 1) := by decide +kernel
theorem dX7_doGet_63 : decode cX7_doGet 63 = .ok (.aload_n 0, 1) := by decide +kernel
theorem dX7_doGet_64 : decode cX7_doGet 64 = .ok (.getfield 9, 3) := by decide +kernel
theorem dX7_doGet_67 : decode cX7_doGet 67 = .ok (.bipush 16, 2) := by decide +kernel
theorem dX7_doGet_69 : decode cX7_doGet 69 = .ok (.dup2, 1) := by decide +kernel
theorem dX7_doGet_70 : decode cX7_doGet 70 = .ok (.iaload, 1) := by decide +kernel
theorem dX7_doGet_71 : decode cX7_doGet 71 = .ok (.iconst 1, 1) := by decide +kernel
theorem dX7_doGet_72 : decode cX7_doGet 72 = .ok (.iadd, 1) := by decide +kernel
theorem dX7_doGet_73 : decode cX7_doGet 73 = .ok (.iastore, 1) := by decide +kernel
theorem dX7_doGet_74 : decode cX7_doGet 74 = .ok (.aload_n 0, 1) := by decide +kernel
theorem dX7_doGet_75 : decode cX7_doGet 75 = .ok (.getfield 9, 3) := by decide +kernel
theorem dX7_doGet_78 : decode cX7_doGet 78 = .ok (.iload 4, 2) := by decide +kernel
theorem dX7_doGet_80 : decode cX7_doGet 80 = .ok (.iconst 1, 1) := by decide +kernel
theorem dX7_doGet_81 : decode cX7_doGet 81 = .ok (.iadd, 1) := by decide +kernel
theorem dX7_doGet_82 : decode cX7_doGet 82 = .ok (.iaload, 1) := by decide +kernel
theorem dX7_doGet_83 : decode cX7_doGet 83 = .ok (.ireturn, 1) := by decide +kernel
theorem dX7_doGet_84 : decode cX7_doGet 84 = .ok (.iload_n 3, 1) := by decide +kernel
theorem dX7_doGet_85 : decode cX7_doGet 85 = .ok (.iload_n 2, 1) := by decide +kernel
theorem dX7_doGet_86 : decode cX7_doGet 86 = .ok (.invokestatic 119, 3) := by decide +kernel
theorem dX7_doGet_89 : decode cX7_doGet 89 = .ok (.istore 5, 2) := by decide +kernel
theorem dX7_doGet_91 : decode cX7_doGet 91 = .ok (.aload_n 0, 1) := by decide +kernel
theorem dX7_doGet_92 : decode cX7_doGet 92 = .ok (.getfield 9, 3) := by decide +kernel
theorem dX7_doGet_95 : decode cX7_doGet 95 = .ok (.bipush 9, 2) := by decide +kernel
theorem dX7_doGet_97 : decode cX7_doGet 97 = .ok (.iaload, 1) := by decide +kernel
theorem dX7_doGet_98 : decode cX7_doGet 98 = .ok (.iconst 1, 1) := by decide +kernel
theorem dX7_doGet_99 : decode cX7_doGet 99 = .ok (.if_icmp .ne 82, 3) := by decide +kernel
theorem dX7_doGet_102 : decode cX7_doGet 102 = .ok (.aload_n 0, 1) := by decide +kernel
theorem dX7_doGet_103 : decode cX7_doGet 103 = .ok (.iload 5, 2) := by decide +kernel
theorem dX7_doGet_105 : decode cX7_doGet 105 = .ok (.invokevirtual 115, 3) := by decide +kernel
theorem dX7_doGet_108 : decode cX7_doGet 108 = .ok (.ifCond .eq 73, 3) := by decide +kernel
theorem dX7_doGet_111 : decode cX7_doGet 111 = .ok (.aload_n 0, 1) := by decide +kernel
theorem dX7_doGet_112 : decode cX7_doGet 112 = .ok (.getfield 9, 3) := by decide +kernel
theorem dX7_doGet_115 : decode cX7_doGet 115 = .ok (.iload 5, 2) := by decide +kernel
theorem dX7_doGet_117 : decode cX7_doGet 117 = .ok (.iconst 1, 1) := by decide +kernel
theorem dX7_doGet_118 : decode cX7_doGet 118 = .ok (.iadd, 1) := by decide +kernel
theorem dX7_doGet_119 : decode cX7_doGet 119 = .ok (.iaload, 1) := by decide +kernel
theorem dX7_doGet_120 : decode cX7_doGet 120 = .ok (.iload_n 1, 1) := by decide +kernel
theorem dX7_doGet_121 : decode cX7_doGet 121 = .ok (.if_icmp .ne 6, 3) := by decide +kernel
theorem dX7_doGet_124 : decode cX7_doGet 124 = .ok (.bipush (-6), 2) := by decide +kernel
theorem dX7_doGet_126 : decode cX7_doGet 126 = .ok (.ireturn, 1) := by decide +kernel
theorem dX7_doGet_127 : decode cX7_doGet 127 = .ok (.aload_n 0, 1) := by decide +kernel
theorem dX7_doGet_128 : decode cX7_doGet 128 = .ok (.iload_n 3, 1) := by decide +kernel
theorem dX7_doGet_129 : decode cX7_doGet 129 = .ok (.iload_n 2, 1) := by decide +kernel
theorem dX7_doGet_130 : decode cX7_doGet 130 = .ok (.invokestatic 122, 3) := by decide +kernel
theorem dX7_doGet_133 : decode cX7_doGet 133 = .ok (.invokevirtual 115, 3) := by decide +kernel
theorem dX7_doGet_136 : decode cX7_doGet 136 = .ok (.ifCond .eq 31, 3) := by decide +kernel
theorem dX7_doGet_139 : decode cX7_doGet 139 = .ok (.aload_n 0, 1) := by decide +kernel
theorem dX7_doGet_140 : decode cX7_doGet 140 = .ok (.getfield 9, 3) := by decide +kernel
theorem dX7_doGet_143 : decode cX7_doGet 143 = .ok (.bipush 19, 2) := by decide +kernel
theorem dX7_doGet_145 : decode cX7_doGet 145 = .ok (.dup2, 1) := by decide +kernel
theorem dX7_doGet_146 : decode cX7_doGet 146 = .ok (.iaload, 1) := by decide +kernel
theorem dX7_doGet_147 : decode cX7_doGet 147 = .ok (.iconst 1, 1) := by decide +kernel
theorem dX7_doGet_148 : decode cX7_doGet 148 = .ok (.iadd, 1) := by decide +kernel
theorem dX7_doGet_149 : decode cX7_doGet 149 = .ok (.iastore, 1) := by decide +kernel
theorem dX7_doGet_150 : decode cX7_doGet 150 = .ok (.sipush 1000, 3) := by decide +kernel
theorem dX7_doGet_153 : decode cX7_doGet 153 = .ok (.aload_n 0, 1) := by decide +kernel
theorem dX7_doGet_154 : decode cX7_doGet 154 = .ok (.getfield 9, 3) := by decide +kernel
theorem dX7_doGet_157 : decode cX7_doGet 157 = .ok (.iload_n 3, 1) := by decide +kernel
theorem dX7_doGet_158 : decode cX7_doGet 158 = .ok (.iload_n 2, 1) := by decide +kernel
theorem dX7_doGet_159 : decode cX7_doGet 159 = .ok (.invokestatic 122, 3) := by decide +kernel
theorem dX7_doGet_162 : decode cX7_doGet 162 = .ok (.iconst 1, 1) := by decide +kernel
theorem dX7_doGet_163 : decode cX7_doGet 163 = .ok (.iadd, 1) := by decide +kernel
theorem dX7_doGet_164 : decode cX7_doGet 164 = .ok (.iaload, 1) := by decide +kernel
theorem dX7_doGet_165 : decode cX7_doGet 165 = .ok (.iadd, 1) := by decide +kernel
theorem dX7_doGet_166 : decode cX7_doGet 166 = .ok (.ireturn, 1) := by decide +kernel
theorem dX7_doGet_167 : decode cX7_doGet 167 = .ok (.aload_n 0, 1) := by decide +kernel
theorem dX7_doGet_168 : decode cX7_doGet 168 = .ok (.getfield 9, 3) := by decide +kernel
theorem dX7_doGet_171 : decode cX7_doGet 171 = .ok (.bipush 18, 2) := by decide +kernel
theorem dX7_doGet_173 : decode cX7_doGet 173 = .ok (.dup2, 1) := by decide +kernel
theorem dX7_doGet_174 : decode cX7_doGet 174 = .ok (.iaload, 1) := by decide +kernel
theorem dX7_doGet_175 : decode cX7_doGet 175 = .ok (.iconst 1, 1) := by decide +kernel
theorem dX7_doGet_176 : decode cX7_doGet 176 = .ok (.iadd, 1) := by decide +kernel
theorem dX7_doGet_177 : decode cX7_doGet 177 = .ok (.iastore, 1) := by decide +kernel
theorem dX7_doGet_178 : decode cX7_doGet 178 = .ok (.bipush (-4), 2) := by decide +kernel
theorem dX7_doGet_180 : decode cX7_doGet 180 = .ok (.ireturn, 1) := by decide +kernel
theorem dX7_doGet_181 : decode cX7_doGet 181 = .ok (.iload_n 1, 1) := by decide +kernel
theorem dX7_doGet_182 : decode cX7_doGet 182 = .ok (.invokestatic 82, 3) := by decide +kernel
theorem dX7_doGet_185 : decode cX7_doGet 185 = .ok (.istore 6, 2) := by decide +kernel
theorem dX7_doGet_187 : decode cX7_doGet 187 = .ok (.aload_n 0, 1) := by decide +kernel
theorem dX7_doGet_188 : decode cX7_doGet 188 = .ok (.getfield 9, 3) := by decide +kernel
theorem dX7_doGet_191 : decode cX7_doGet 191 = .ok (.iload 6, 2) := by decide +kernel
theorem dX7_doGet_193 : decode cX7_doGet 193 = .ok (.iconst 1, 1) := by decide +kernel
theorem dX7_doGet_194 : decode cX7_doGet 194 = .ok (.iadd, 1) := by decide +kernel
theorem dX7_doGet_195 : decode cX7_doGet 195 = .ok (.iload_n 2, 1) := by decide +kernel
theorem dX7_doGet_196 : decode cX7_doGet 196 = .ok (.iastore, 1) := by decide +kernel
theorem dX7_doGet_197 : decode cX7_doGet 197 = .ok (.aload_n 0, 1) := by decide +kernel
theorem dX7_doGet_198 : decode cX7_doGet 198 = .ok (.getfield 9, 3) := by decide +kernel
theorem dX7_doGet_201 : decode cX7_doGet 201 = .ok (.iload 6, 2) := by decide +kernel
theorem dX7_doGet_203 : decode cX7_doGet 203 = .ok (.iconst 2, 1) := by decide +kernel
theorem dX7_doGet_204 : decode cX7_doGet 204 = .ok (.iadd, 1) := by decide +kernel
theorem dX7_doGet_205 : decode cX7_doGet 205 = .ok (.iconst 0, 1) := by decide +kernel
theorem dX7_doGet_206 : decode cX7_doGet 206 = .ok (.iastore, 1) := by decide +kernel
theorem dX7_doGet_207 : decode cX7_doGet 207 = .ok (.aload_n 0, 1) := by decide +kernel
theorem dX7_doGet_208 : decode cX7_doGet 208 = .ok (.getfield 9, 3) := by decide +kernel
theorem dX7_doGet_211 : decode cX7_doGet 211 = .ok (.iload 6, 2) := by decide +kernel
theorem dX7_doGet_213 : decode cX7_doGet 213 = .ok (.iconst 3, 1) := by decide +kernel
theorem dX7_doGet_214 : decode cX7_doGet 214 = .ok (.iadd, 1) := by decide +kernel
theorem dX7_doGet_215 : decode cX7_doGet 215 = .ok (.iconst 0, 1) := by decide +kernel
theorem dX7_doGet_216 : decode cX7_doGet 216 = .ok (.iastore, 1) := by decide +kernel
theorem dX7_doGet_217 : decode cX7_doGet 217 = .ok (.aload_n 0, 1) := by decide +kernel
theorem dX7_doGet_218 : decode cX7_doGet 218 = .ok (.getfield 9, 3) := by decide +kernel
theorem dX7_doGet_221 : decode cX7_doGet 221 = .ok (.bipush 9, 2) := by decide +kernel
theorem dX7_doGet_223 : decode cX7_doGet 223 = .ok (.iaload, 1) := by decide +kernel
theorem dX7_doGet_224 : decode cX7_doGet 224 = .ok (.iconst 1, 1) := by decide +kernel
theorem dX7_doGet_225 : decode cX7_doGet 225 = .ok (.if_icmp .ne 74, 3) := by decide +kernel
theorem dX7_doGet_228 : decode cX7_doGet 228 = .ok (.aload_n 0, 1) := by decide +kernel
theorem dX7_doGet_229 : decode cX7_doGet 229 = .ok (.getfield 9, 3) := by decide +kernel
theorem dX7_doGet_232 : decode cX7_doGet 232 = .ok (.iconst 1, 1) := by decide +kernel
theorem dX7_doGet_233 : decode cX7_doGet 233 = .ok (.dup2, 1) := by decide +kernel
theorem dX7_doGet_234 : decode cX7_doGet 234 = .ok (.iaload, 1) := by decide +kernel
theorem dX7_doGet_235 : decode cX7_doGet 235 = .ok (.iconst 1, 1) := by decide +kernel
theorem dX7_doGet_236 : decode cX7_doGet 236 = .ok (.iadd, 1) := by decide +kernel
theorem dX7_doGet_237 : decode cX7_doGet 237 = .ok (.iastore, 1) := by decide +kernel
theorem dX7_doGet_238 : decode cX7_doGet 238 = .ok (.aload_n 0, 1) := by decide +kernel
theorem dX7_doGet_239 : decode cX7_doGet 239 = .ok (.getfield 9, 3) := by decide +kernel
theorem dX7_doGet_242 : decode cX7_doGet 242 = .ok (.iload 6, 2) := by decide +kernel
theorem dX7_doGet_244 : decode cX7_doGet 244 = .ok (.iconst 2, 1) := by decide +kernel
theorem dX7_doGet_245 : decode cX7_doGet 245 = .ok (.iadd, 1) := by decide +kernel
theorem dX7_doGet_246 : decode cX7_doGet 246 = .ok (.aload_n 0, 1) := by decide +kernel
theorem dX7_doGet_247 : decode cX7_doGet 247 = .ok (.getfield 9, 3) := by decide +kernel
theorem dX7_doGet_250 : decode cX7_doGet 250 = .ok (.iconst 1, 1) := by decide +kernel
theorem dX7_doGet_251 : decode cX7_doGet 251 = .ok (.iaload, 1) := by decide +kernel
theorem dX7_doGet_252 : decode cX7_doGet 252 = .ok (.iastore, 1) := by decide +kernel
theorem dX7_doGet_253 : decode cX7_doGet 253 = .ok (.aload_n 0, 1) := by decide +kernel
theorem dX7_doGet_254 : decode cX7_doGet 254 = .ok (.getfield 9, 3) := by decide +kernel
theorem dX7_doGet_257 : decode cX7_doGet 257 = .ok (.iload 5, 2) := by decide +kernel
theorem dX7_doGet_259 : decode cX7_doGet 259 = .ok (.aload_n 0, 1) := by decide +kernel
theorem dX7_doGet_260 : decode cX7_doGet 260 = .ok (.getfield 9, 3) := by decide +kernel
theorem dX7_doGet_263 : decode cX7_doGet 263 = .ok (.iconst 0, 1) := by decide +kernel
theorem dX7_doGet_264 : decode cX7_doGet 264 = .ok (.iaload, 1) := by decide +kernel
theorem dX7_doGet_265 : decode cX7_doGet 265 = .ok (.aload_n 0, 1) := by decide +kernel
theorem dX7_doGet_266 : decode cX7_doGet 266 = .ok (.getfield 9, 3) := by decide +kernel
theorem dX7_doGet_269 : decode cX7_doGet 269 = .ok (.bipush 6, 2) := by decide +kernel
theorem dX7_doGet_271 : decode cX7_doGet 271 = .ok (.iaload, 1) := by decide +kernel
theorem dX7_doGet_272 : decode cX7_doGet 272 = .ok (.iadd, 1) := by decide +kernel
theorem dX7_doGet_273 : decode cX7_doGet 273 = .ok (.iastore, 1) := by decide +kernel
theorem dX7_doGet_274 : decode cX7_doGet 274 = .ok (.aload_n 0, 1) := by decide +kernel
theorem dX7_doGet_275 : decode cX7_doGet 275 = .ok (.getfield 9, 3) := by decide +kernel
theorem dX7_doGet_278 : decode cX7_doGet 278 = .ok (.iload 5, 2) := by decide +kernel
theorem dX7_doGet_280 : decode cX7_doGet 280 = .ok (.iconst 1, 1) := by decide +kernel
theorem dX7_doGet_281 : decode cX7_doGet 281 = .ok (.iadd, 1) := by decide +kernel
theorem dX7_doGet_282 : decode cX7_doGet 282 = .ok (.iload_n 1, 1) := by decide +kernel
theorem dX7_doGet_283 : decode cX7_doGet 283 = .ok (.iastore, 1) := by decide +kernel
theorem dX7_doGet_284 : decode cX7_doGet 284 = .ok (.aload_n 0, 1) := by decide +kernel
theorem dX7_doGet_285 : decode cX7_doGet 285 = .ok (.getfield 9, 3) := by decide +kernel
theorem dX7_doGet_288 : decode cX7_doGet 288 = .ok (.iload 5, 2) := by decide +kernel
theorem dX7_doGet_290 : decode cX7_doGet 290 = .ok (.iconst 2, 1) := by decide +kernel
theorem dX7_doGet_291 : decode cX7_doGet 291 = .ok (.iadd, 1) := by decide +kernel
theorem dX7_doGet_292 : decode cX7_doGet 292 = .ok (.aload_n 0, 1) := by decide +kernel
theorem dX7_doGet_293 : decode cX7_doGet 293 = .ok (.getfield 9, 3) := by decide +kernel
theorem dX7_doGet_296 : decode cX7_doGet 296 = .ok (.iconst 1, 1) := by decide +kernel
theorem dX7_doGet_297 : decode cX7_doGet 297 = .ok (.iaload, 1) := by decide +kernel
theorem dX7_doGet_298 : decode cX7_doGet 298 = .ok (.iastore, 1) := by decide +kernel
theorem dX7_doGet_299 : decode cX7_doGet 299 = .ok (.aload_n 0, 1) := by decide +kernel
theorem dX7_doGet_300 : decode cX7_doGet 300 = .ok (.getfield 9, 3) := by decide +kernel
theorem dX7_doGet_303 : decode cX7_doGet 303 = .ok (.bipush 17, 2) := by decide +kernel
theorem dX7_doGet_305 : decode cX7_doGet 305 = .ok (.dup2, 1) := by decide +kernel
theorem dX7_doGet_306 : decode cX7_doGet 306 = .ok (.iaload, 1) := by decide +kernel
theorem dX7_doGet_307 : decode cX7_doGet 307 = .ok (.iconst 1, 1) := by decide +kernel
theorem dX7_doGet_308 : decode cX7_doGet 308 = .ok (.iadd, 1) := by decide +kernel
theorem dX7_doGet_309 : decode cX7_doGet 309 = .ok (.iastore, 1) := by decide +kernel
theorem dX7_doGet_310 : decode cX7_doGet 310 = .ok (.bipush (-6), 2) := by decide +kernel
theorem dX7_doGet_312 : decode cX7_doGet 312 = .ok (.ireturn, 1) := by decide +kernel
theorem dX7_doLook_0 : decode cX7_doLook 0 = .ok (.iload_n 1, 1) := by decide +kernel
theorem dX7_doLook_1 : decode cX7_doLook 1 = .ok (.invokestatic 82, 3) := by decide +kernel
theorem dX7_doLook_4 : decode cX7_doLook 4 = .ok (.istore_n 2, 1) := by decide +kernel
theorem dX7_doLook_5 : decode cX7_doLook 5 = .ok (.aload_n 0, 1) := by decide +kernel
theorem dX7_doLook_6 : decode cX7_doLook 6 = .ok (.getfield 9, 3) := by decide +kernel
theorem dX7_doLook_9 : decode cX7_doLook 9 = .ok (.iload_n 2, 1) := by decide +kernel
theorem dX7_doLook_10 : decode cX7_doLook 10 = .ok (.iconst 1, 1) := by decide +kernel
theorem dX7_doLook_11 : decode cX7_doLook 11 = .ok (.iadd, 1) := by decide +kernel
theorem dX7_doLook_12 : decode cX7_doLook 12 = .ok (.iaload, 1) := by decide +kernel
theorem dX7_doLook_13 : decode cX7_doLook 13 = .ok (.istore_n 3, 1) := by decide +kernel
theorem dX7_doLook_14 : decode cX7_doLook 14 = .ok (.iload_n 3, 1) := by decide +kernel
theorem dX7_doLook_15 : decode cX7_doLook 15 = .ok (.iconst (-1), 1) := by decide +kernel
theorem dX7_doLook_16 : decode cX7_doLook 16 = .ok (.if_icmp .ne 6, 3) := by decide +kernel
theorem dX7_doLook_19 : decode cX7_doLook 19 = .ok (.bipush (-5), 2) := by decide +kernel
theorem dX7_doLook_21 : decode cX7_doLook 21 = .ok (.ireturn, 1) := by decide +kernel
theorem dX7_doLook_22 : decode cX7_doLook 22 = .ok (.aload_n 0, 1) := by decide +kernel
theorem dX7_doLook_23 : decode cX7_doLook 23 = .ok (.iload_n 1, 1) := by decide +kernel
theorem dX7_doLook_24 : decode cX7_doLook 24 = .ok (.invokevirtual 109, 3) := by decide +kernel
theorem dX7_doLook_27 : decode cX7_doLook 27 = .ok (.istore 4, 2) := by decide +kernel
theorem dX7_doLook_29 : decode cX7_doLook 29 = .ok (.iload 4, 2) := by decide +kernel
theorem dX7_doLook_31 : decode cX7_doLook 31 = .ok (.iconst 2, 1) := by decide +kernel
theorem dX7_doLook_32 : decode cX7_doLook 32 = .ok (.irem, 1) := by decide +kernel
theorem dX7_doLook_33 : decode cX7_doLook 33 = .ok (.ifCond .ne 10, 3) := by decide +kernel
theorem dX7_doLook_36 : decode cX7_doLook 36 = .ok (.iload 4, 2) := by decide +kernel
theorem dX7_doLook_38 : decode cX7_doLook 38 = .ok (.iconst 1, 1) := by decide +kernel
theorem dX7_doLook_39 : decode cX7_doLook 39 = .ok (.iadd, 1) := by decide +kernel
theorem dX7_doLook_40 : decode cX7_doLook 40 = .ok (.goto 7, 3) := by decide +kernel
theorem dX7_doLook_43 : decode cX7_doLook 43 = .ok (.iload 4, 2) := by decide +kernel
theorem dX7_doLook_45 : decode cX7_doLook 45 = .ok (.iconst 1, 1) := by decide +kernel
theorem dX7_doLook_46 : decode cX7_doLook 46 = .ok (.isub, 1) := by decide +kernel
theorem dX7_doLook_47 : decode cX7_doLook 47 = .ok (.istore 5, 2) := by decide +kernel
theorem dX7_doLook_49 : decode cX7_doLook 49 = .ok (.iload 5, 2) := by decide +kernel
theorem dX7_doLook_51 : decode cX7_doLook 51 = .ok (.iload_n 3, 1) := by decide +kernel
theorem dX7_doLook_52 : decode cX7_doLook 52 = .ok (.invokestatic 112, 3) := by decide +kernel
theorem dX7_doLook_55 : decode cX7_doLook 55 = .ok (.istore 6, 2) := by decide +kernel
theorem dX7_doLook_57 : decode cX7_doLook 57 = .ok (.aload_n 0, 1) := by decide +kernel
theorem dX7_doLook_58 : decode cX7_doLook 58 = .ok (.getfield 9, 3) := by decide +kernel
theorem dX7_doLook_61 : decode cX7_doLook 61 = .ok (.iload_n 2, 1) := by decide +kernel
theorem dX7_doLook_62 : decode cX7_doLook 62 = .ok (.iconst 3, 1) := by decide +kernel
theorem dX7_doLook_63 : decode cX7_doLook 63 = .ok (.iadd, 1) := by decide +kernel
theorem dX7_doLook_64 : decode cX7_doLook 64 = .ok (.iconst 1, 1) := by decide +kernel
theorem dX7_doLook_65 : decode cX7_doLook 65 = .ok (.iastore, 1) := by decide +kernel
theorem dX7_doLook_66 : decode cX7_doLook 66 = .ok (.aload_n 0, 1) := by decide +kernel
theorem dX7_doLook_67 : decode cX7_doLook 67 = .ok (.getfield 9, 3) := by decide +kernel
theorem dX7_doLook_70 : decode cX7_doLook 70 = .ok (.sipush 216, 3) := by decide +kernel
theorem dX7_doLook_73 : decode cX7_doLook 73 = .ok (.iload 4, 2) := by decide +kernel
theorem dX7_doLook_75 : decode cX7_doLook 75 = .ok (.iadd, 1) := by decide +kernel
theorem dX7_doLook_76 : decode cX7_doLook 76 = .ok (.iaload, 1) := by decide +kernel
theorem dX7_doLook_77 : decode cX7_doLook 77 = .ok (.iconst 1, 1) := by decide +kernel
theorem dX7_doLook_78 : decode cX7_doLook 78 = .ok (.if_icmp .ne 90, 3) := by decide +kernel
theorem dX7_doLook_81 : decode cX7_doLook 81 = .ok (.aload_n 0, 1) := by decide +kernel
theorem dX7_doLook_82 : decode cX7_doLook 82 = .ok (.getfield 9, 3) := by decide +kernel
theorem dX7_doLook_85 : decode cX7_doLook 85 = .ok (.sipush 216, 3) := by decide +kernel
theorem dX7_doLook_88 : decode cX7_doLook 88 = .ok (.iload 5, 2) := by decide +kernel
theorem dX7_doLook_90 : decode cX7_doLook 90 = .ok (.iadd, 1) := by decide +kernel
theorem dX7_doLook_91 : decode cX7_doLook 91 = .ok (.iaload, 1) := by decide +kernel
theorem dX7_doLook_92 : decode cX7_doLook 92 = .ok (.ifCond .ne 76, 3) := by decide +kernel
theorem dX7_doLook_95 : decode cX7_doLook 95 = .ok (.aload_n 0, 1) := by decide +kernel
theorem dX7_doLook_96 : decode cX7_doLook 96 = .ok (.iload 6, 2) := by decide +kernel
theorem dX7_doLook_98 : decode cX7_doLook 98 = .ok (.invokevirtual 115, 3) := by decide +kernel
theorem dX7_doLook_101 : decode cX7_doLook 101 = .ok (.ifCond .eq 67, 3) := by decide +kernel
theorem dX7_doLook_104 : decode cX7_doLook 104 = .ok (.aload_n 0, 1) := by decide +kernel
theorem dX7_doLook_105 : decode cX7_doLook 105 = .ok (.getfield 9, 3) := by decide +kernel
theorem dX7_doLook_108 : decode cX7_doLook 108 = .ok (.iload_n 2, 1) := by decide +kernel
theorem dX7_doLook_109 : decode cX7_doLook 109 = .ok (.iconst 4, 1) := by decide +kernel
theorem dX7_doLook_110 : decode cX7_doLook 110 = .ok (.iadd, 1) := by decide +kernel
theorem dX7_doLook_111 : decode cX7_doLook 111 = .ok (.aload_n 0, 1) := by decide +kernel
theorem dX7_doLook_112 : decode cX7_doLook 112 = .ok (.getfield 9, 3) := by decide +kernel
theorem dX7_doLook_115 : decode cX7_doLook 115 = .ok (.iload 6, 2) := by decide +kernel
theorem dX7_doLook_117 : decode cX7_doLook 117 = .ok (.iconst 1, 1) := by decide +kernel
theorem dX7_doLook_118 : decode cX7_doLook 118 = .ok (.iadd, 1) := by decide +kernel
theorem dX7_doLook_119 : decode cX7_doLook 119 = .ok (.iaload, 1) := by decide +kernel
theorem dX7_doLook_120 : decode cX7_doLook 120 = .ok (.iastore, 1) := by decide +kernel
theorem dX7_doLook_121 : decode cX7_doLook 121 = .ok (.aload_n 0, 1) := by decide +kernel
theorem dX7_doLook_122 : decode cX7_doLook 122 = .ok (.getfield 9, 3) := by decide +kernel
theorem dX7_doLook_125 : decode cX7_doLook 125 = .ok (.iload_n 2, 1) := by decide +kernel
theorem dX7_doLook_126 : decode cX7_doLook 126 = .ok (.iconst 5, 1) := by decide +kernel
theorem dX7_doLook_127 : decode cX7_doLook 127 = .ok (.iadd, 1) := by decide +kernel
theorem dX7_doLook_128 : decode cX7_doLook 128 = .ok (.aload_n 0, 1) := by decide +kernel
theorem dX7_doLook_129 : decode cX7_doLook 129 = .ok (.getfield 9, 3) := by decide +kernel
theorem dX7_doLook_132 : decode cX7_doLook 132 = .ok (.iload 6, 2) := by decide +kernel
theorem dX7_doLook_134 : decode cX7_doLook 134 = .ok (.iconst 2, 1) := by decide +kernel
theorem dX7_doLook_135 : decode cX7_doLook 135 = .ok (.iadd, 1) := by decide +kernel
theorem dX7_doLook_136 : decode cX7_doLook 136 = .ok (.iaload, 1) := by decide +kernel
theorem dX7_doLook_137 : decode cX7_doLook 137 = .ok (.iastore, 1) := by decide +kernel
theorem dX7_doLook_138 : decode cX7_doLook 138 = .ok (.aload_n 0, 1) := by decide +kernel
theorem dX7_doLook_139 : decode cX7_doLook 139 = .ok (.getfield 9, 3) := by decide +kernel
theorem dX7_doLook_142 : decode cX7_doLook 142 = .ok (.iload_n 2, 1) := by decide +kernel
theorem dX7_doLook_143 : decode cX7_doLook 143 = .ok (.bipush 6, 2) := by decide +kernel
theorem dX7_doLook_145 : decode cX7_doLook 145 = .ok (.iadd, 1) := by decide +kernel
theorem dX7_doLook_146 : decode cX7_doLook 146 = .ok (.iconst 1, 1) := by decide +kernel
theorem dX7_doLook_147 : decode cX7_doLook 147 = .ok (.iastore, 1) := by decide +kernel
theorem dX7_doLook_148 : decode cX7_doLook 148 = .ok (.aload_n 0, 1) := by decide +kernel
theorem dX7_doLook_149 : decode cX7_doLook 149 = .ok (.getfield 9, 3) := by decide +kernel
theorem dX7_doLook_152 : decode cX7_doLook 152 = .ok (.bipush 22, 2) := by decide +kernel
theorem dX7_doLook_154 : decode cX7_doLook 154 = .ok (.dup2, 1) := by decide +kernel
theorem dX7_doLook_155 : decode cX7_doLook 155 = .ok (.iaload, 1) := by decide +kernel
theorem dX7_doLook_156 : decode cX7_doLook 156 = .ok (.iconst 1, 1) := by decide +kernel
theorem dX7_doLook_157 : decode cX7_doLook 157 = .ok (.iadd, 1) := by decide +kernel
theorem dX7_doLook_158 : decode cX7_doLook 158 = .ok (.iastore, 1) := by decide +kernel
theorem dX7_doLook_159 : decode cX7_doLook 159 = .ok (.aload_n 0, 1) := by decide +kernel
theorem dX7_doLook_160 : decode cX7_doLook 160 = .ok (.getfield 9, 3) := by decide +kernel
theorem dX7_doLook_163 : decode cX7_doLook 163 = .ok (.iload_n 2, 1) := by decide +kernel
theorem dX7_doLook_164 : decode cX7_doLook 164 = .ok (.iconst 4, 1) := by decide +kernel
theorem dX7_doLook_165 : decode cX7_doLook 165 = .ok (.iadd, 1) := by decide +kernel
theorem dX7_doLook_166 : decode cX7_doLook 166 = .ok (.iaload, 1) := by decide +kernel
theorem dX7_doLook_167 : decode cX7_doLook 167 = .ok (.ireturn, 1) := by decide +kernel
theorem dX7_doLook_168 : decode cX7_doLook 168 = .ok (.iload 4, 2) := by decide +kernel
theorem dX7_doLook_170 : decode cX7_doLook 170 = .ok (.iconst 2, 1) := by decide +kernel
theorem dX7_doLook_171 : decode cX7_doLook 171 = .ok (.idiv, 1) := by decide +kernel
theorem dX7_doLook_172 : decode cX7_doLook 172 = .ok (.istore 7, 2) := by decide +kernel
theorem dX7_doLook_174 : decode cX7_doLook 174 = .ok (.aload_n 0, 1) := by decide +kernel
theorem dX7_doLook_175 : decode cX7_doLook 175 = .ok (.getfield 9, 3) := by decide +kernel
theorem dX7_doLook_178 : decode cX7_doLook 178 = .ok (.sipush 942, 3) := by decide +kernel
theorem dX7_doLook_181 : decode cX7_doLook 181 = .ok (.bipush 10, 2) := by decide +kernel
theorem dX7_doLook_183 : decode cX7_doLook 183 = .ok (.iload 7, 2) := by decide +kernel
theorem dX7_doLook_185 : decode cX7_doLook 185 = .ok (.imul, 1) := by decide +kernel
theorem dX7_doLook_186 : decode cX7_doLook 186 = .ok (.iadd, 1) := by decide +kernel
theorem dX7_doLook_187 : decode cX7_doLook 187 = .ok (.iload_n 3, 1) := by decide +kernel
theorem dX7_doLook_188 : decode cX7_doLook 188 = .ok (.iadd, 1) := by decide +kernel
theorem dX7_doLook_189 : decode cX7_doLook 189 = .ok (.iaload, 1) := by decide +kernel
theorem dX7_doLook_190 : decode cX7_doLook 190 = .ok (.ifCond .le 7, 3) := by decide +kernel
theorem dX7_doLook_193 : decode cX7_doLook 193 = .ok (.iconst 0, 1) := by decide +kernel
theorem dX7_doLook_194 : decode cX7_doLook 194 = .ok (.goto 5, 3) := by decide +kernel
theorem dX7_doLook_197 : decode cX7_doLook 197 = .ok (.iload 7, 2) := by decide +kernel
theorem dX7_doLook_199 : decode cX7_doLook 199 = .ok (.istore 8, 2) := by decide +kernel
theorem dX7_doLook_201 : decode cX7_doLook 201 = .ok (.aload_n 0, 1) := by decide +kernel
theorem dX7_doLook_202 : decode cX7_doLook 202 = .ok (.getfield 9, 3) := by decide +kernel
theorem dX7_doLook_205 : decode cX7_doLook 205 = .ok (.bipush 13, 2) := by decide +kernel
theorem dX7_doLook_207 : decode cX7_doLook 207 = .ok (.iload 8, 2) := by decide +kernel
theorem dX7_doLook_209 : decode cX7_doLook 209 = .ok (.iadd, 1) := by decide +kernel
theorem dX7_doLook_210 : decode cX7_doLook 210 = .ok (.dup2, 1) := by decide +kernel
theorem dX7_doLook_211 : decode cX7_doLook 211 = .ok (.iaload, 1) := by decide +kernel
theorem dX7_doLook_212 : decode cX7_doLook 212 = .ok (.iconst 1, 1) := by decide +kernel
theorem dX7_doLook_213 : decode cX7_doLook 213 = .ok (.iadd, 1) := by decide +kernel
theorem dX7_doLook_214 : decode cX7_doLook 214 = .ok (.iastore, 1) := by decide +kernel
theorem dX7_doLook_215 : decode cX7_doLook 215 = .ok (.aload_n 0, 1) := by decide +kernel
theorem dX7_doLook_216 : decode cX7_doLook 216 = .ok (.getfield 9, 3) := by decide +kernel
theorem dX7_doLook_219 : decode cX7_doLook 219 = .ok (.iload_n 2, 1) := by decide +kernel
theorem dX7_doLook_220 : decode cX7_doLook 220 = .ok (.iconst 5, 1) := by decide +kernel
theorem dX7_doLook_221 : decode cX7_doLook 221 = .ok (.iadd, 1) := by decide +kernel
theorem dX7_doLook_222 : decode cX7_doLook 222 = .ok (.aload_n 0, 1) := by decide +kernel
theorem dX7_doLook_223 : decode cX7_doLook 223 = .ok (.iload 8, 2) := by decide +kernel
theorem dX7_doLook_225 : decode cX7_doLook 225 = .ok (.iload_n 3, 1) := by decide +kernel
theorem dX7_doLook_226 : decode cX7_doLook 226 = .ok (.invokevirtual 125, 3) := by decide +kernel
theorem dX7_doLook_229 : decode cX7_doLook 229 = .ok (.iastore, 1) := by decide +kernel
theorem dX7_doLook_230 : decode cX7_doLook 230 = .ok (.aload_n 0, 1) := by decide +kernel
theorem dX7_doLook_231 : decode cX7_doLook 231 = .ok (.getfield 9, 3) := by decide +kernel
theorem dX7_doLook_234 : decode cX7_doLook 234 = .ok (.iload_n 2, 1) := by decide +kernel
theorem dX7_doLook_235 : decode cX7_doLook 235 = .ok (.iconst 4, 1) := by decide +kernel
theorem dX7_doLook_236 : decode cX7_doLook 236 = .ok (.iadd, 1) := by decide +kernel
theorem dX7_doLook_237 : decode cX7_doLook 237 = .ok (.aload_n 0, 1) := by decide +kernel
theorem dX7_doLook_238 : decode cX7_doLook 238 = .ok (.aload_n 0, 1) := by decide +kernel

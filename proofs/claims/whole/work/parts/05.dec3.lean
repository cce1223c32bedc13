theorem dX10_init_0 : decode cX10_init 0 = .ok (.aload_n 0, 1) := by decide +kernel
theorem dX10_init_1 : decode cX10_init 1 = .ok (.invokespecial 1, 3) := by decide +kernel
theorem dX10_init_4 : decode cX10_init 4 = .ok (.aload_n 0, 1) := by decide +kernel
theorem dX10_init_5 : decode cX10_init 5 = .ok (.bipush 24, 2) := by decide +kernel
theorem dX10_init_7 : decode cX10_init 7 = .ok (.newarray .int, 2) := by decide +kernel
theorem dX10_init_9 : decode cX10_init 9 = .ok (.putfield 7, 3) := by decide +kernel
theorem dX10_init_12 : decode cX10_init 12 = .ok (.aload_n 0, 1) := by decide +kernel
theorem dX10_init_13 : decode cX10_init 13 = .ok (.bipush 24, 2) := by decide +kernel
theorem dX10_init_15 : decode cX10_init 15 = .ok (.newarray .int, 2) := by decide +kernel
theorem dX10_init_17 : decode cX10_init 17 = .ok (.putfield 13, 3) := by decide +kernel
theorem dX10_init_20 : decode cX10_init 20 = .ok (.aload_n 0, 1) := by decide +kernel
theorem dX10_init_21 : decode cX10_init 21 = .ok (.bipush 40, 2) := by decide +kernel
theorem dX10_init_23 : decode cX10_init 23 = .ok (.newarray .int, 2) := by decide +kernel
theorem dX10_init_25 : decode cX10_init 25 = .ok (.putfield 16, 3) := by decide +kernel
theorem dX10_init_28 : decode cX10_init 28 = .ok (.aload_n 0, 1) := by decide +kernel
theorem dX10_init_29 : decode cX10_init 29 = .ok (.bipush 40, 2) := by decide +kernel
theorem dX10_init_31 : decode cX10_init 31 = .ok (.newarray .int, 2) := by decide +kernel
theorem dX10_init_33 : decode cX10_init 33 = .ok (.putfield 19, 3) := by decide +kernel
theorem dX10_init_36 : decode cX10_init 36 = .ok (.aload_n 0, 1) := by decide +kernel
theorem dX10_init_37 : decode cX10_init 37 = .ok (.bipush 40, 2) := by decide +kernel
theorem dX10_init_39 : decode cX10_init 39 = .ok (.newarray .int, 2) := by decide +kernel
theorem dX10_init_41 : decode cX10_init 41 = .ok (.putfield 22, 3) := by decide +kernel
theorem dX10_init_44 : decode cX10_init 44 = .ok (.aload_n 0, 1) := by decide +kernel
theorem dX10_init_45 : decode cX10_init 45 = .ok (.bipush 12, 2) := by decide +kernel
theorem dX10_init_47 : decode cX10_init 47 = .ok (.newarray .int, 2) := by decide +kernel
theorem dX10_init_49 : decode cX10_init 49 = .ok (.putfield 25, 3) := by decide +kernel
theorem dX10_init_52 : decode cX10_init 52 = .ok (.aload_n 0, 1) := by decide +kernel
theorem dX10_init_53 : decode cX10_init 53 = .ok (.bipush 72, 2) := by decide +kernel
theorem dX10_init_55 : decode cX10_init 55 = .ok (.newarray .boolean, 2) := by decide +kernel
theorem dX10_init_57 : decode cX10_init 57 = .ok (.putfield 28, 3) := by decide +kernel
theorem dX10_init_60 : decode cX10_init 60 = .ok (.aload_n 0, 1) := by decide +kernel
theorem dX10_init_61 : decode cX10_init 61 = .ok (.bipush 72, 2) := by decide +kernel
theorem dX10_init_63 : decode cX10_init 63 = .ok (.newarray .int, 2) := by decide +kernel
theorem dX10_init_65 : decode cX10_init 65 = .ok (.putfield 32, 3) := by decide +kernel
theorem dX10_init_68 : decode cX10_init 68 = .ok (.aload_n 0, 1) := by decide +kernel
theorem dX10_init_69 : decode cX10_init 69 = .ok (.bipush 72, 2) := by decide +kernel
theorem dX10_init_71 : decode cX10_init 71 = .ok (.newarray .int, 2) := by decide +kernel
theorem dX10_init_73 : decode cX10_init 73 = .ok (.putfield 35, 3) := by decide +kernel
theorem dX10_init_76 : decode cX10_init 76 = .ok (.aload_n 0, 1) := by decide +kernel
theorem dX10_init_77 : decode cX10_init 77 = .ok (.bipush 96, 2) := by decide +kernel
theorem dX10_init_79 : decode cX10_init 79 = .ok (.newarray .int, 2) := by decide +kernel
theorem dX10_init_81 : decode cX10_init 81 = .ok (.putfield 38, 3) := by decide +kernel
theorem dX10_init_84 : decode cX10_init 84 = .ok (.aload_n 0, 1) := by decide +kernel
theorem dX10_init_85 : decode cX10_init 85 = .ok (.bipush 96, 2) := by decide +kernel
theorem dX10_init_87 : decode cX10_init 87 = .ok (.newarray .int, 2) := by decide +kernel
theorem dX10_init_89 : decode cX10_init 89 = .ok (.putfield 41, 3) := by decide +kernel
theorem dX10_init_92 : decode cX10_init 92 = .ok (.aload_n 0, 1) := by decide +kernel
theorem dX10_init_93 : decode cX10_init 93 = .ok (.sipush 192, 3) := by decide +kernel
theorem dX10_init_96 : decode cX10_init 96 = .ok (.newarray .int, 2) := by decide +kernel
theorem dX10_init_98 : decode cX10_init 98 = .ok (.putfield 44, 3) := by decide +kernel
theorem dX10_init_101 : decode cX10_init 101 = .ok (.aload_n 0, 1) := by decide +kernel
theorem dX10_init_102 : decode cX10_init 102 = .ok (.bipush 24, 2) := by decide +kernel
theorem dX10_init_104 : decode cX10_init 104 = .ok (.newarray .long, 2) := by decide +kernel
theorem dX10_init_106 : decode cX10_init 106 = .ok (.putfield 47, 3) := by decide +kernel
theorem dX10_init_109 : decode cX10_init 109 = .ok (.aload_n 0, 1) := by decide +kernel
theorem dX10_init_110 : decode cX10_init 110 = .ok (.bipush 24, 2) := by decide +kernel
theorem dX10_init_112 : decode cX10_init 112 = .ok (.newarray .boolean, 2) := by decide +kernel
theorem dX10_init_114 : decode cX10_init 114 = .ok (.putfield 51, 3) := by decide +kernel
theorem dX10_init_117 : decode cX10_init 117 = .ok (.aload_n 0, 1) := by decide +kernel
theorem dX10_init_118 : decode cX10_init 118 = .ok (.bipush 8, 2) := by decide +kernel
theorem dX10_init_120 : decode cX10_init 120 = .ok (.newarray .int, 2) := by decide +kernel
theorem dX10_init_122 : decode cX10_init 122 = .ok (.putfield 54, 3) := by decide +kernel
theorem dX10_init_125 : decode cX10_init 125 = .ok (.aload_n 0, 1) := by decide +kernel
theorem dX10_init_126 : decode cX10_init 126 = .ok (.bipush 8, 2) := by decide +kernel
theorem dX10_init_128 : decode cX10_init 128 = .ok (.newarray .int, 2) := by decide +kernel
theorem dX10_init_130 : decode cX10_init 130 = .ok (.putfield 57, 3) := by decide +kernel
theorem dX10_init_133 : decode cX10_init 133 = .ok (.aload_n 0, 1) := by decide +kernel
theorem dX10_init_134 : decode cX10_init 134 = .ok (.iconst 5, 1) := by decide +kernel
theorem dX10_init_135 : decode cX10_init 135 = .ok (.newarray .int, 2) := by decide +kernel
theorem dX10_init_137 : decode cX10_init 137 = .ok (.putfield 60, 3) := by decide +kernel
theorem dX10_init_140 : decode cX10_init 140 = .ok (.aload_n 0, 1) := by decide +kernel
theorem dX10_init_141 : decode cX10_init 141 = .ok (.iconst 5, 1) := by decide +kernel
theorem dX10_init_142 : decode cX10_init 142 = .ok (.newarray .int, 2) := by decide +kernel
theorem dX10_init_144 : decode cX10_init 144 = .ok (.putfield 63, 3) := by decide +kernel
theorem dX10_init_147 : decode cX10_init 147 = .ok (.aload_n 0, 1) := by decide +kernel
theorem dX10_init_148 : decode cX10_init 148 = .ok (.iconst 5, 1) := by decide +kernel
theorem dX10_init_149 : decode cX10_init 149 = .ok (.newarray .boolean, 2) := by decide +kernel
theorem dX10_init_151 : decode cX10_init 151 = .ok (.putfield 66, 3) := by decide +kernel
theorem dX10_init_154 : decode cX10_init 154 = .ok (.aload_n 0, 1) := by decide +kernel
theorem dX10_init_155 : decode cX10_init 155 = .ok (.iconst 5, 1) := by decide +kernel
theorem dX10_init_156 : decode cX10_init 156 = .ok (.newarray .boolean, 2) := by decide +kernel
theorem dX10_init_158 : decode cX10_init 158 = .ok (.putfield 69, 3) := by decide +kernel
theorem dX10_init_161 : decode cX10_init 161 = .ok (.aload_n 0, 1) := by decide +kernel
theorem dX10_init_162 : decode cX10_init 162 = .ok (.bipush 40, 2) := by decide +kernel
theorem dX10_init_164 : decode cX10_init 164 = .ok (.newarray .int, 2) := by decide +kernel
theorem dX10_init_166 : decode cX10_init 166 = .ok (.putfield 72, 3) := by decide +kernel
theorem dX10_init_169 : decode cX10_init 169 = .ok (.aload_n 0, 1) := by decide +kernel
theorem dX10_init_170 : decode cX10_init 170 = .ok (.iconst 5, 1) := by decide +kernel
theorem dX10_init_171 : decode cX10_init 171 = .ok (.newarray .long, 2) := by decide +kernel
theorem dX10_init_173 : decode cX10_init 173 = .ok (.putfield 75, 3) := by decide +kernel
theorem dX10_init_176 : decode cX10_init 176 = .ok (.aload_n 0, 1) := by decide +kernel
theorem dX10_init_177 : decode cX10_init 177 = .ok (.iconst 5, 1) := by decide +kernel
theorem dX10_init_178 : decode cX10_init 178 = .ok (.newarray .int, 2) := by decide +kernel
theorem dX10_init_180 : decode cX10_init 180 = .ok (.putfield 78, 3) := by decide +kernel
theorem dX10_init_183 : decode cX10_init 183 = .ok (.aload_n 0, 1) := by decide +kernel
theorem dX10_init_184 : decode cX10_init 184 = .ok (.bipush 15, 2) := by decide +kernel
theorem dX10_init_186 : decode cX10_init 186 = .ok (.newarray .int, 2) := by decide +kernel
theorem dX10_init_188 : decode cX10_init 188 = .ok (.putfield 81, 3) := by decide +kernel
theorem dX10_init_191 : decode cX10_init 191 = .ok (.aload_n 0, 1) := by decide +kernel
theorem dX10_init_192 : decode cX10_init 192 = .ok (.bipush 10, 2) := by decide +kernel
theorem dX10_init_194 : decode cX10_init 194 = .ok (.putfield 84, 3) := by decide +kernel
theorem dX10_init_197 : decode cX10_init 197 = .ok (.aload_n 0, 1) := by decide +kernel
theorem dX10_init_198 : decode cX10_init 198 = .ok (.bipush 100, 2) := by decide +kernel
theorem dX10_init_200 : decode cX10_init 200 = .ok (.newarray .int, 2) := by decide +kernel
theorem dX10_init_202 : decode cX10_init 202 = .ok (.putfield 88, 3) := by decide +kernel
theorem dX10_init_205 : decode cX10_init 205 = .ok (.aload_n 0, 1) := by decide +kernel
theorem dX10_init_206 : decode cX10_init 206 = .ok (.bipush 100, 2) := by decide +kernel
theorem dX10_init_208 : decode cX10_init 208 = .ok (.newarray .int, 2) := by decide +kernel
theorem dX10_init_210 : decode cX10_init 210 = .ok (.putfield 91, 3) := by decide +kernel
theorem dX10_init_213 : decode cX10_init 213 = .ok (.aload_n 0, 1) := by decide +kernel
theorem dX10_init_214 : decode cX10_init 214 = .ok (.bipush 100, 2) := by decide +kernel
theorem dX10_init_216 : decode cX10_init 216 = .ok (.newarray .int, 2) := by decide +kernel
theorem dX10_init_218 : decode cX10_init 218 = .ok (.putfield 94, 3) := by decide +kernel
theorem dX10_init_221 : decode cX10_init 221 = .ok (.aload_n 0, 1) := by decide +kernel
theorem dX10_init_222 : decode cX10_init 222 = .ok (.bipush 100, 2) := by decide +kernel
theorem dX10_init_224 : decode cX10_init 224 = .ok (.newarray .long, 2) := by decide +kernel
theorem dX10_init_226 : decode cX10_init 226 = .ok (.putfield 97, 3) := by decide +kernel
theorem dX10_init_229 : decode cX10_init 229 = .ok (.aload_n 0, 1) := by decide +kernel
theorem dX10_init_230 : decode cX10_init 230 = .ok (.bipush 100, 2) := by decide +kernel
theorem dX10_init_232 : decode cX10_init 232 = .ok (.newarray .int, 2) := by decide +kernel
theorem dX10_init_234 : decode cX10_init 234 = .ok (.putfield 100, 3) := by decide +kernel
theorem dX10_init_237 : decode cX10_init 237 = .ok (.aload_n 0, 1) := by decide +kernel
theorem dX10_init_238 : decode cX10_init 238 = .ok (.bipush 8, 2) := by decide +kernel
theorem dX10_init_240 : decode cX10_init 240 = .ok (.newarray .int, 2) := by decide +kernel
theorem dX10_init_242 : decode cX10_init 242 = .ok (.putfield 103, 3) := by decide +kernel
theorem dX10_init_245 : decode cX10_init 245 = .ok (.aload_n 0, 1) := by decide +kernel
theorem dX10_init_246 : decode cX10_init 246 = .ok (.bipush 8, 2) := by decide +kernel
theorem dX10_init_248 : decode cX10_init 248 = .ok (.newarray .int, 2) := by decide +kernel
theorem dX10_init_250 : decode cX10_init 250 = .ok (.putfield 106, 3) := by decide +kernel
theorem dX10_init_253 : decode cX10_init 253 = .ok (.aload_n 0, 1) := by decide +kernel
theorem dX10_init_254 : decode cX10_init 254 = .ok (.bipush 8, 2) := by decide +kernel
theorem dX10_init_256 : decode cX10_init 256 = .ok (.newarray .int, 2) := by decide +kernel
theorem dX10_init_258 : decode cX10_init 258 = .ok (.putfield 109, 3) := by decide +kernel
theorem dX10_init_261 : decode cX10_init 261 = .ok (.aload_n 0, 1) := by decide +kernel
theorem dX10_init_262 : decode cX10_init 262 = .ok (.bipush 8, 2) := by decide +kernel
theorem dX10_init_264 : decode cX10_init 264 = .ok (.newarray .int, 2) := by decide +kernel
theorem dX10_init_266 : decode cX10_init 266 = .ok (.putfield 112, 3) := by decide +kernel
theorem dX10_init_269 : decode cX10_init 269 = .ok (.aload_n 0, 1) := by decide +kernel
theorem dX10_init_270 : decode cX10_init 270 = .ok (.bipush 36, 2) := by decide +kernel
theorem dX10_init_272 : decode cX10_init 272 = .ok (.newarray .int, 2) := by decide +kernel
theorem dX10_init_274 : decode cX10_init 274 = .ok (.putfield 115, 3) := by decide +kernel
theorem dX10_init_277 : decode cX10_init 277 = .ok (.aload_n 0, 1) := by decide +kernel
theorem dX10_init_278 : decode cX10_init 278 = .ok (.bipush 8, 2) := by decide +kernel
theorem dX10_init_280 : decode cX10_init 280 = .ok (.newarray .int, 2) := by decide +kernel
theorem dX10_init_282 : decode cX10_init 282 = .ok (.putfield 118, 3) := by decide +kernel
theorem dX10_init_285 : decode cX10_init 285 = .ok (.aload_n 0, 1) := by decide +kernel
theorem dX10_init_286 : decode cX10_init 286 = .ok (.sipush 2304, 3) := by decide +kernel
theorem dX10_init_289 : decode cX10_init 289 = .ok (.newarray .int, 2) := by decide +kernel
theorem dX10_init_291 : decode cX10_init 291 = .ok (.putfield 121, 3) := by decide +kernel
theorem dX10_init_294 : decode cX10_init 294 = .ok (.aload_n 0, 1) := by decide +kernel
theorem dX10_init_295 : decode cX10_init 295 = .ok (.bipush 8, 2) := by decide +kernel
theorem dX10_init_297 : decode cX10_init 297 = .ok (.newarray .int, 2) := by decide +kernel
theorem dX10_init_299 : decode cX10_init 299 = .ok (.putfield 124, 3) := by decide +kernel
theorem dX10_init_302 : decode cX10_init 302 = .ok (.aload_n 0, 1) := by decide +kernel
theorem dX10_init_303 : decode cX10_init 303 = .ok (.bipush 8, 2) := by decide +kernel
theorem dX10_init_305 : decode cX10_init 305 = .ok (.newarray .int, 2) := by decide +kernel
theorem dX10_init_307 : decode cX10_init 307 = .ok (.putfield 127, 3) := by decide +kernel
theorem dX10_init_310 : decode cX10_init 310 = .ok (.iconst 0, 1) := by decide +kernel
theorem dX10_init_311 : decode cX10_init 311 = .ok (.istore_n 1, 1) := by decide +kernel
theorem dX10_init_312 : decode cX10_init 312 = .ok (.iload_n 1, 1) := by decide +kernel
theorem dX10_init_313 : decode cX10_init 313 = .ok (.iconst 5, 1) := by decide +kernel
theorem dX10_init_314 : decode cX10_init 314 = .ok (.if_icmp .ge 18, 3) := by decide +kernel
theorem dX10_init_317 : decode cX10_init 317 = .ok (.aload_n 0, 1) := by decide +kernel
theorem dX10_init_318 : decode cX10_init 318 = .ok (.getfield 60, 3) := by decide +kernel
theorem dX10_init_321 : decode cX10_init 321 = .ok (.iload_n 1, 1) := by decide +kernel
theorem dX10_init_322 : decode cX10_init 322 = .ok (.sipush 1000, 3) := by decide +kernel
theorem dX10_init_325 : decode cX10_init 325 = .ok (.iastore, 1) := by decide +kernel
theorem dX10_init_326 : decode cX10_init 326 = .ok (.iinc 1 1, 3) := by decide +kernel
theorem dX10_init_329 : decode cX10_init 329 = .ok (.goto (-17), 3) := by decide +kernel
theorem dX10_init_332 : decode cX10_init 332 = .ok (.return_, 1) := by decide +kernel
theorem dX10_in_0 : decode cX10_in 0 = .ok (.iload_n 0, 1) := by decide +kernel
theorem dX10_in_1 : decode cX10_in 1 = .ok (.iload_n 1, 1) := by decide +kernel
theorem dX10_in_2 : decode cX10_in 2 = .ok (.if_icmp .lt 12, 3) := by decide +kernel
theorem dX10_in_5 : decode cX10_in 5 = .ok (.iload_n 0, 1) := by decide +kernel
theorem dX10_in_6 : decode cX10_in 6 = .ok (.iload_n 2, 1) := by decide +kernel
theorem dX10_in_7 : decode cX10_in 7 = .ok (.if_icmp .gt 7, 3) := by decide +kernel
theorem dX10_in_10 : decode cX10_in 10 = .ok (.iconst 1, 1) := by decide +kernel
theorem dX10_in_11 : decode cX10_in 11 = .ok (.goto 4, 3) := by decide +kernel
theorem dX10_in_14 : decode cX10_in 14 = .ok (.iconst 0, 1) := by decide +kernel
theorem dX10_in_15 : decode cX10_in 15 = .ok (.ireturn, 1) := by decide +kernel
theorem dX10_isBase_0 : decode cX10_isBase 0 = .ok (.iload_n 1, 1) := by decide +kernel
theorem dX10_isBase_1 : decode cX10_isBase 1 = .ok (.iconst 0, 1) := by decide +kernel
theorem dX10_isBase_2 : decode cX10_isBase 2 = .ok (.aload_n 0, 1) := by decide +kernel
theorem dX10_isBase_3 : decode cX10_isBase 3 = .ok (.getfield 130, 3) := by decide +kernel
theorem dX10_isBase_6 : decode cX10_isBase 6 = .ok (.iconst 1, 1) := by decide +kernel
theorem dX10_isBase_7 : decode cX10_isBase 7 = .ok (.isub, 1) := by decide +kernel
theorem dX10_isBase_8 : decode cX10_isBase 8 = .ok (.invokestatic 133, 3) := by decide +kernel
theorem dX10_isBase_11 : decode cX10_isBase 11 = .ok (.ireturn, 1) := by decide +kernel
theorem dX10_isBatch_0 : decode cX10_isBatch 0 = .ok (.iload_n 1, 1) := by decide +kernel
theorem dX10_isBatch_1 : decode cX10_isBatch 1 = .ok (.iconst 0, 1) := by decide +kernel
theorem dX10_isBatch_2 : decode cX10_isBatch 2 = .ok (.aload_n 0, 1) := by decide +kernel
theorem dX10_isBatch_3 : decode cX10_isBatch 3 = .ok (.getfield 137, 3) := by decide +kernel
theorem dX10_isBatch_6 : decode cX10_isBatch 6 = .ok (.iconst 1, 1) := by decide +kernel
theorem dX10_isBatch_7 : decode cX10_isBatch 7 = .ok (.isub, 1) := by decide +kernel
theorem dX10_isBatch_8 : decode cX10_isBatch 8 = .ok (.invokestatic 133, 3) := by decide +kernel
theorem dX10_isBatch_11 : decode cX10_isBatch 11 = .ok (.ireturn, 1) := by decide +kernel
theorem dX10_isTank_0 : decode cX10_isTank 0 = .ok (.iload_n 0, 1) := by decide +kernel
theorem dX10_isTank_1 : decode cX10_isTank 1 = .ok (.iconst 0, 1) := by decide +kernel
theorem dX10_isTank_2 : decode cX10_isTank 2 = .ok (.iconst 4, 1) := by decide +kernel
theorem dX10_isTank_3 : decode cX10_isTank 3 = .ok (.invokestatic 133, 3) := by decide +kernel
theorem dX10_isTank_6 : decode cX10_isTank 6 = .ok (.ireturn, 1) := by decide +kernel
theorem dX10_base_0 : decode cX10_base 0 = .ok (.iload_n 1, 1) := by decide +kernel
theorem dX10_base_1 : decode cX10_base 1 = .ok (.iconst 0, 1) := by decide +kernel
theorem dX10_base_2 : decode cX10_base 2 = .ok (.sipush 1000, 3) := by decide +kernel
theorem dX10_base_5 : decode cX10_base 5 = .ok (.invokestatic 133, 3) := by decide +kernel
theorem dX10_base_8 : decode cX10_base 8 = .ok (.ifCond .eq 14, 3) := by decide +kernel
theorem dX10_base_11 : decode cX10_base 11 = .ok (.iload_n 2, 1) := by decide +kernel
theorem dX10_base_12 : decode cX10_base 12 = .ok (.iconst 0, 1) := by decide +kernel
theorem dX10_base_13 : decode cX10_base 13 = .ok (.sipush 1000, 3) := by decide +kernel
theorem dX10_base_16 : decode cX10_base 16 = .ok (.invokestatic 133, 3) := by decide +kernel
theorem dX10_base_19 : decode cX10_base 19 = .ok (.ifCond .ne 6, 3) := by decide +kernel
theorem dX10_base_22 : decode cX10_base 22 = .ok (.bipush (-3), 2) := by decide +kernel
theorem dX10_base_24 : decode cX10_base 24 = .ok (.ireturn, 1) := by decide +kernel
theorem dX10_base_25 : decode cX10_base 25 = .ok (.aload_n 0, 1) := by decide +kernel
theorem dX10_base_26 : decode cX10_base 26 = .ok (.getfield 130, 3) := by decide +kernel
theorem dX10_base_29 : decode cX10_base 29 = .ok (.bipush 8, 2) := by decide +kernel
theorem dX10_base_31 : decode cX10_base 31 = .ok (.if_icmp .ne 6, 3) := by decide +kernel
theorem dX10_base_34 : decode cX10_base 34 = .ok (.bipush (-6), 2) := by decide +kernel
theorem dX10_base_36 : decode cX10_base 36 = .ok (.ireturn, 1) := by decide +kernel
theorem dX10_base_37 : decode cX10_base 37 = .ok (.iconst 0, 1) := by decide +kernel
theorem dX10_base_38 : decode cX10_base 38 = .ok (.istore_n 3, 1) := by decide +kernel
theorem dX10_base_39 : decode cX10_base 39 = .ok (.iload_n 3, 1) := by decide +kernel
theorem dX10_base_40 : decode cX10_base 40 = .ok (.iconst 3, 1) := by decide +kernel
theorem dX10_base_41 : decode cX10_base 41 = .ok (.if_icmp .ge 39, 3) := by decide +kernel
theorem dX10_base_44 : decode cX10_base 44 = .ok (.aload_n 0, 1) := by decide +kernel
theorem dX10_base_45 : decode cX10_base 45 = .ok (.getfield 7, 3) := by decide +kernel
theorem dX10_base_48 : decode cX10_base 48 = .ok (.bipush 8, 2) := by decide +kernel
theorem dX10_base_50 : decode cX10_base 50 = .ok (.iload_n 3, 1) := by decide +kernel
theorem dX10_base_51 : decode cX10_base 51 = .ok (.imul, 1) := by decide +kernel
theorem dX10_base_52 : decode cX10_base 52 = .ok (.aload_n 0, 1) := by decide +kernel
theorem dX10_base_53 : decode cX10_base 53 = .ok (.getfield 130, 3) := by decide +kernel
theorem dX10_base_56 : decode cX10_base 56 = .ok (.iadd, 1) := by decide +kernel
theorem dX10_base_57 : decode cX10_base 57 = .ok (.iload_n 1, 1) := by decide +kernel
theorem dX10_base_58 : decode cX10_base 58 = .ok (.iastore, 1) := by decide +kernel
theorem dX10_base_59 : decode cX10_base 59 = .ok (.aload_n 0, 1) := by decide +kernel
theorem dX10_base_60 : decode cX10_base 60 = .ok (.getfield 13, 3) := by decide +kernel
theorem dX10_base_63 : decode cX10_base 63 = .ok (.bipush 8, 2) := by decide +kernel
theorem dX10_base_65 : decode cX10_base 65 = .ok (.iload_n 3, 1) := by decide +kernel
theorem dX10_base_66 : decode cX10_base 66 = .ok (.imul, 1) := by decide +kernel
theorem dX10_base_67 : decode cX10_base 67 = .ok (.aload_n 0, 1) := by decide +kernel
theorem dX10_base_68 : decode cX10_base 68 = .ok (.getfield 130, 3) := by decide +kernel
theorem dX10_base_71 : decode cX10_base 71 = .ok (.iadd, 1) := by decide +kernel
theorem dX10_base_72 : decode cX10_base 72 = .ok (.iload_n 2, 1) := by decide +kernel
theorem dX10_base_73 : decode cX10_base 73 = .ok (.iastore, 1) := by decide +kernel
theorem dX10_base_74 : decode cX10_base 74 = .ok (.iinc 3 1, 3) := by decide +kernel
theorem dX10_base_77 : decode cX10_base 77 = .ok (.goto (-38), 3) := by decide +kernel
theorem dX10_base_80 : decode cX10_base 80 = .ok (.aload_n 0, 1) := by decide +kernel
theorem dX10_base_81 : decode cX10_base 81 = .ok (.dup, 1) := by decide +kernel
theorem dX10_base_82 : decode cX10_base 82 = .ok (.getfield 130, 3) := by decide +kernel
theorem dX10_base_85 : decode cX10_base 85 = .ok (.iconst 1, 1) := by decide +kernel
theorem dX10_base_86 : decode cX10_base 86 = .ok (.iadd, 1) := by decide +kernel
theorem dX10_base_87 : decode cX10_base 87 = .ok (.putfield 130, 3) := by decide +kernel
theorem dX10_base_90 : decode cX10_base 90 = .ok (.aload_n 0, 1) := by decide +kernel
theorem dX10_base_91 : decode cX10_base 91 = .ok (.getfield 130, 3) := by decide +kernel
theorem dX10_base_94 : decode cX10_base 94 = .ok (.iconst 1, 1) := by decide +kernel
theorem dX10_base_95 : decode cX10_base 95 = .ok (.isub, 1) := by decide +kernel
theorem dX10_base_96 : decode cX10_base 96 = .ok (.ireturn, 1) := by decide +kernel
theorem dX10_band_0 : decode cX10_band 0 = .ok (.aload_n 0, 1) := by decide +kernel
theorem dX10_band_1 : decode cX10_band 1 = .ok (.iload_n 1, 1) := by decide +kernel
theorem dX10_band_2 : decode cX10_band 2 = .ok (.invokevirtual 140, 3) := by decide +kernel
theorem dX10_band_5 : decode cX10_band 5 = .ok (.ifCond .eq 12, 3) := by decide +kernel
theorem dX10_band_8 : decode cX10_band 8 = .ok (.iload_n 2, 1) := by decide +kernel
theorem dX10_band_9 : decode cX10_band 9 = .ok (.iconst 0, 1) := by decide +kernel
theorem dX10_band_10 : decode cX10_band 10 = .ok (.iconst 2, 1) := by decide +kernel
theorem dX10_band_11 : decode cX10_band 11 = .ok (.invokestatic 133, 3) := by decide +kernel
theorem dX10_band_14 : decode cX10_band 14 = .ok (.ifCond .ne 6, 3) := by decide +kernel
theorem dX10_band_17 : decode cX10_band 17 = .ok (.bipush (-2), 2) := by decide +kernel
theorem dX10_band_19 : decode cX10_band 19 = .ok (.ireturn, 1) := by decide +kernel
theorem dX10_band_20 : decode cX10_band 20 = .ok (.iload_n 3, 1) := by decide +kernel
theorem dX10_band_21 : decode cX10_band 21 = .ok (.iconst 0, 1) := by decide +kernel
theorem dX10_band_22 : decode cX10_band 22 = .ok (.sipush 1000, 3) := by decide +kernel
theorem dX10_band_25 : decode cX10_band 25 = .ok (.invokestatic 133, 3) := by decide +kernel
theorem dX10_band_28 : decode cX10_band 28 = .ok (.ifCond .eq 15, 3) := by decide +kernel
theorem dX10_band_31 : decode cX10_band 31 = .ok (.iload 4, 2) := by decide +kernel
theorem dX10_band_33 : decode cX10_band 33 = .ok (.iconst 0, 1) := by decide +kernel
theorem dX10_band_34 : decode cX10_band 34 = .ok (.sipush 1000, 3) := by decide +kernel
theorem dX10_band_37 : decode cX10_band 37 = .ok (.invokestatic 133, 3) := by decide +kernel
theorem dX10_band_40 : decode cX10_band 40 = .ok (.ifCond .ne 6, 3) := by decide +kernel
theorem dX10_band_43 : decode cX10_band 43 = .ok (.bipush (-3), 2) := by decide +kernel
theorem dX10_band_45 : decode cX10_band 45 = .ok (.ireturn, 1) := by decide +kernel
theorem dX10_band_46 : decode cX10_band 46 = .ok (.aload_n 0, 1) := by decide +kernel
theorem dX10_band_47 : decode cX10_band 47 = .ok (.getfield 7, 3) := by decide +kernel
theorem dX10_band_50 : decode cX10_band 50 = .ok (.bipush 8, 2) := by decide +kernel
theorem dX10_band_52 : decode cX10_band 52 = .ok (.iload_n 2, 1) := by decide +kernel
theorem dX10_band_53 : decode cX10_band 53 = .ok (.imul, 1) := by decide +kernel
theorem dX10_band_54 : decode cX10_band 54 = .ok (.iload_n 1, 1) := by decide +kernel
theorem dX10_band_55 : decode cX10_band 55 = .ok (.iadd, 1) := by decide +kernel
theorem dX10_band_56 : decode cX10_band 56 = .ok (.iload_n 3, 1) := by decide +kernel
theorem dX10_band_57 : decode cX10_band 57 = .ok (.iastore, 1) := by decide +kernel
theorem dX10_band_58 : decode cX10_band 58 = .ok (.aload_n 0, 1) := by decide +kernel
theorem dX10_band_59 : decode cX10_band 59 = .ok (.getfield 13, 3) := by decide +kernel
theorem dX10_band_62 : decode cX10_band 62 = .ok (.bipush 8, 2) := by decide +kernel
theorem dX10_band_64 : decode cX10_band 64 = .ok (.iload_n 2, 1) := by decide +kernel
theorem dX10_band_65 : decode cX10_band 65 = .ok (.imul, 1) := by decide +kernel
theorem dX10_band_66 : decode cX10_band 66 = .ok (.iload_n 1, 1) := by decide +kernel
theorem dX10_band_67 : decode cX10_band 67 = .ok (.iadd, 1) := by decide +kernel
theorem dX10_band_68 : decode cX10_band 68 = .ok (.iload 4, 2) := by decide +kernel
theorem dX10_band_70 : decode cX10_band 70 = .ok (.iastore, 1) := by decide +kernel
theorem dX10_band_71 : decode cX10_band 71 = .ok (.iconst 1, 1) := by decide +kernel
theorem dX10_band_72 : decode cX10_band 72 = .ok (.ireturn, 1) := by decide +kernel
theorem dX10_lot_0 : decode cX10_lot 0 = .ok (.aload_n 0, 1) := by decide +kernel
theorem dX10_lot_1 : decode cX10_lot 1 = .ok (.iload_n 1, 1) := by decide +kernel
theorem dX10_lot_2 : decode cX10_lot 2 = .ok (.invokevirtual 140, 3) := by decide +kernel
theorem dX10_lot_5 : decode cX10_lot 5 = .ok (.ifCond .ne 6, 3) := by decide +kernel
theorem dX10_lot_8 : decode cX10_lot 8 = .ok (.bipush (-2), 2) := by decide +kernel
theorem dX10_lot_10 : decode cX10_lot 10 = .ok (.ireturn, 1) := by decide +kernel
theorem dX10_lot_11 : decode cX10_lot 11 = .ok (.iload_n 2, 1) := by decide +kernel
theorem dX10_lot_12 : decode cX10_lot 12 = .ok (.iconst 1, 1) := by decide +kernel
theorem dX10_lot_13 : decode cX10_lot 13 = .ok (.sipush 20000, 3) := by decide +kernel
theorem dX10_lot_16 : decode cX10_lot 16 = .ok (.invokestatic 133, 3) := by decide +kernel
theorem dX10_lot_19 : decode cX10_lot 19 = .ok (.ifCond .eq 14, 3) := by decide +kernel
theorem dX10_lot_22 : decode cX10_lot 22 = .ok (.iload_n 3, 1) := by decide +kernel
theorem dX10_lot_23 : decode cX10_lot 23 = .ok (.iconst 0, 1) := by decide +kernel
theorem dX10_lot_24 : decode cX10_lot 24 = .ok (.sipush 10000, 3) := by decide +kernel
theorem dX10_lot_27 : decode cX10_lot 27 = .ok (.invokestatic 133, 3) := by decide +kernel
theorem dX10_lot_30 : decode cX10_lot 30 = .ok (.ifCond .ne 6, 3) := by decide +kernel
theorem dX10_lot_33 : decode cX10_lot 33 = .ok (.bipush (-3), 2) := by decide +kernel
theorem dX10_lot_35 : decode cX10_lot 35 = .ok (.ireturn, 1) := by decide +kernel
theorem dX10_lot_36 : decode cX10_lot 36 = .ok (.aload_n 0, 1) := by decide +kernel
theorem dX10_lot_37 : decode cX10_lot 37 = .ok (.getfield 144, 3) := by decide +kernel
theorem dX10_lot_40 : decode cX10_lot 40 = .ok (.bipush 40, 2) := by decide +kernel
theorem dX10_lot_42 : decode cX10_lot 42 = .ok (.if_icmp .ne 6, 3) := by decide +kernel
theorem dX10_lot_45 : decode cX10_lot 45 = .ok (.bipush (-6), 2) := by decide +kernel
theorem dX10_lot_47 : decode cX10_lot 47 = .ok (.ireturn, 1) := by decide +kernel
theorem dX10_lot_48 : decode cX10_lot 48 = .ok (.aload_n 0, 1) := by decide +kernel
theorem dX10_lot_49 : decode cX10_lot 49 = .ok (.getfield 16, 3) := by decide +kernel
theorem dX10_lot_52 : decode cX10_lot 52 = .ok (.aload_n 0, 1) := by decide +kernel
theorem dX10_lot_53 : decode cX10_lot 53 = .ok (.getfield 144, 3) := by decide +kernel
theorem dX10_lot_56 : decode cX10_lot 56 = .ok (.iload_n 1, 1) := by decide +kernel
theorem dX10_lot_57 : decode cX10_lot 57 = .ok (.iastore, 1) := by decide +kernel
theorem dX10_lot_58 : decode cX10_lot 58 = .ok (.aload_n 0, 1) := by decide +kernel
theorem dX10_lot_59 : decode cX10_lot 59 = .ok (.getfield 19, 3) := by decide +kernel
theorem dX10_lot_62 : decode cX10_lot 62 = .ok (.aload_n 0, 1) := by decide +kernel
theorem dX10_lot_63 : decode cX10_lot 63 = .ok (.getfield 144, 3) := by decide +kernel
theorem dX10_lot_66 : decode cX10_lot 66 = .ok (.iload_n 2, 1) := by decide +kernel
theorem dX10_lot_67 : decode cX10_lot 67 = .ok (.iastore, 1) := by decide +kernel
theorem dX10_lot_68 : decode cX10_lot 68 = .ok (.aload_n 0, 1) := by decide +kernel
theorem dX10_lot_69 : decode cX10_lot 69 = .ok (.getfield 22, 3) := by decide +kernel
theorem dX10_lot_72 : decode cX10_lot 72 = .ok (.aload_n 0, 1) := by decide +kernel
theorem dX10_lot_73 : decode cX10_lot 73 = .ok (.getfield 144, 3) := by decide +kernel
theorem dX10_lot_76 : decode cX10_lot 76 = .ok (.iload_n 3, 1) := by decide +kernel
theorem dX10_lot_77 : decode cX10_lot 77 = .ok (.iastore, 1) := by decide +kernel
theorem dX10_lot_78 : decode cX10_lot 78 = .ok (.aload_n 0, 1) := by decide +kernel
theorem dX10_lot_79 : decode cX10_lot 79 = .ok (.dup, 1) := by decide +kernel
theorem dX10_lot_80 : decode cX10_lot 80 = .ok (.getfield 144, 3) := by decide +kernel
theorem dX10_lot_83 : decode cX10_lot 83 = .ok (.iconst 1, 1) := by decide +kernel
theorem dX10_lot_84 : decode cX10_lot 84 = .ok (.iadd, 1) := by decide +kernel
theorem dX10_lot_85 : decode cX10_lot 85 = .ok (.putfield 144, 3) := by decide +kernel
theorem dX10_lot_88 : decode cX10_lot 88 = .ok (.aload_n 0, 1) := by decide +kernel
theorem dX10_lot_89 : decode cX10_lot 89 = .ok (.getfield 144, 3) := by decide +kernel
theorem dX10_lot_92 : decode cX10_lot 92 = .ok (.iconst 1, 1) := by decide +kernel
theorem dX10_lot_93 : decode cX10_lot 93 = .ok (.isub, 1) := by decide +kernel
theorem dX10_lot_94 : decode cX10_lot 94 = .ok (.ireturn, 1) := by decide +kernel
theorem dX10_left_0 : decode cX10_left 0 = .ok (.iload_n 1, 1) := by decide +kernel
theorem dX10_left_1 : decode cX10_left 1 = .ok (.iconst 0, 1) := by decide +kernel
theorem dX10_left_2 : decode cX10_left 2 = .ok (.aload_n 0, 1) := by decide +kernel
theorem dX10_left_3 : decode cX10_left 3 = .ok (.getfield 144, 3) := by decide +kernel
theorem dX10_left_6 : decode cX10_left 6 = .ok (.iconst 1, 1) := by decide +kernel
theorem dX10_left_7 : decode cX10_left 7 = .ok (.isub, 1) := by decide +kernel
theorem dX10_left_8 : decode cX10_left 8 = .ok (.invokestatic 133, 3) := by decide +kernel
theorem dX10_left_11 : decode cX10_left 11 = .ok (.ifCond .eq 12, 3) := by decide +kernel
theorem dX10_left_14 : decode cX10_left 14 = .ok (.aload_n 0, 1) := by decide +kernel
theorem dX10_left_15 : decode cX10_left 15 = .ok (.getfield 19, 3) := by decide +kernel
theorem dX10_left_18 : decode cX10_left 18 = .ok (.iload_n 1, 1) := by decide +kernel
theorem dX10_left_19 : decode cX10_left 19 = .ok (.iaload, 1) := by decide +kernel
theorem dX10_left_20 : decode cX10_left 20 = .ok (.goto 5, 3) := by decide +kernel
theorem dX10_left_23 : decode cX10_left 23 = .ok (.bipush (-2), 2) := by decide +kernel
theorem dX10_left_25 : decode cX10_left 25 = .ok (.ireturn, 1) := by decide +kernel
theorem dX10_mayTake_0 : decode cX10_mayTake 0 = .ok (.aload_n 0, 1) := by decide +kernel
theorem dX10_mayTake_1 : decode cX10_mayTake 1 = .ok (.getfield 16, 3) := by decide +kernel
theorem dX10_mayTake_4 : decode cX10_mayTake 4 = .ok (.iload_n 1, 1) := by decide +kernel
theorem dX10_mayTake_5 : decode cX10_mayTake 5 = .ok (.iaload, 1) := by decide +kernel
theorem dX10_mayTake_6 : decode cX10_mayTake 6 = .ok (.iload_n 2, 1) := by decide +kernel
theorem dX10_mayTake_7 : decode cX10_mayTake 7 = .ok (.if_icmp .ne 29, 3) := by decide +kernel
theorem dX10_mayTake_10 : decode cX10_mayTake 10 = .ok (.aload_n 0, 1) := by decide +kernel
theorem dX10_mayTake_11 : decode cX10_mayTake 11 = .ok (.getfield 19, 3) := by decide +kernel
theorem dX10_mayTake_14 : decode cX10_mayTake 14 = .ok (.iload_n 1, 1) := by decide +kernel
theorem dX10_mayTake_15 : decode cX10_mayTake 15 = .ok (.iaload, 1) := by decide +kernel
theorem dX10_mayTake_16 : decode cX10_mayTake 16 = .ok (.ifCond .le 20, 3) := by decide +kernel
theorem dX10_mayTake_19 : decode cX10_mayTake 19 = .ok (.aload_n 0, 1) := by decide +kernel
theorem dX10_mayTake_20 : decode cX10_mayTake 20 = .ok (.getfield 22, 3) := by decide +kernel
theorem dX10_mayTake_23 : decode cX10_mayTake 23 = .ok (.iload_n 1, 1) := by decide +kernel
theorem dX10_mayTake_24 : decode cX10_mayTake 24 = .ok (.iaload, 1) := by decide +kernel
theorem dX10_mayTake_25 : decode cX10_mayTake 25 = .ok (.aload_n 0, 1) := by decide +kernel
theorem dX10_mayTake_26 : decode cX10_mayTake 26 = .ok (.getfield 147, 3) := by decide +kernel
theorem dX10_mayTake_29 : decode cX10_mayTake 29 = .ok (.if_icmp .lt 7, 3) := by decide +kernel
theorem dX10_mayTake_32 : decode cX10_mayTake 32 = .ok (.iconst 1, 1) := by decide +kernel
theorem dX10_mayTake_33 : decode cX10_mayTake 33 = .ok (.goto 4, 3) := by decide +kernel
theorem dX10_mayTake_36 : decode cX10_mayTake 36 = .ok (.iconst 0, 1) := by decide +kernel
theorem dX10_mayTake_37 : decode cX10_mayTake 37 = .ok (.ireturn, 1) := by decide +kernel
theorem dX10_mayOf_0 : decode cX10_mayOf 0 = .ok (.iconst 0, 1) := by decide +kernel
theorem dX10_mayOf_1 : decode cX10_mayOf 1 = .ok (.istore_n 2, 1) := by decide +kernel
theorem dX10_mayOf_2 : decode cX10_mayOf 2 = .ok (.iconst 0, 1) := by decide +kernel
theorem dX10_mayOf_3 : decode cX10_mayOf 3 = .ok (.istore_n 3, 1) := by decide +kernel
theorem dX10_mayOf_4 : decode cX10_mayOf 4 = .ok (.iload_n 3, 1) := by decide +kernel
theorem dX10_mayOf_5 : decode cX10_mayOf 5 = .ok (.aload_n 0, 1) := by decide +kernel
theorem dX10_mayOf_6 : decode cX10_mayOf 6 = .ok (.getfield 144, 3) := by decide +kernel
theorem dX10_mayOf_9 : decode cX10_mayOf 9 = .ok (.if_icmp .ge 31, 3) := by decide +kernel
theorem dX10_mayOf_12 : decode cX10_mayOf 12 = .ok (.iload_n 2, 1) := by decide +kernel
theorem dX10_mayOf_13 : decode cX10_mayOf 13 = .ok (.aload_n 0, 1) := by decide +kernel
theorem dX10_mayOf_14 : decode cX10_mayOf 14 = .ok (.iload_n 3, 1) := by decide +kernel
theorem dX10_mayOf_15 : decode cX10_mayOf 15 = .ok (.iload_n 1, 1) := by decide +kernel
theorem dX10_mayOf_16 : decode cX10_mayOf 16 = .ok (.invokevirtual 150, 3) := by decide +kernel
theorem dX10_mayOf_19 : decode cX10_mayOf 19 = .ok (.ifCond .eq 12, 3) := by decide +kernel
theorem dX10_mayOf_22 : decode cX10_mayOf 22 = .ok (.aload_n 0, 1) := by decide +kernel
theorem dX10_mayOf_23 : decode cX10_mayOf 23 = .ok (.getfield 19, 3) := by decide +kernel
theorem dX10_mayOf_26 : decode cX10_mayOf 26 = .ok (.iload_n 3, 1) := by decide +kernel
theorem dX10_mayOf_27 : decode cX10_mayOf 27 = .ok (.iaload, 1) := by decide +kernel
theorem dX10_mayOf_28 : decode cX10_mayOf 28 = .ok (.goto 4, 3) := by decide +kernel
theorem dX10_mayOf_31 : decode cX10_mayOf 31 = .ok (.iconst 0, 1) := by decide +kernel
theorem dX10_mayOf_32 : decode cX10_mayOf 32 = .ok (.iadd, 1) := by decide +kernel
theorem dX10_mayOf_33 : decode cX10_mayOf 33 = .ok (.istore_n 2, 1) := by decide +kernel
theorem dX10_mayOf_34 : decode cX10_mayOf 34 = .ok (.iinc 3 1, 3) := by decide +kernel
theorem dX10_mayOf_37 : decode cX10_mayOf 37 = .ok (.goto (-33), 3) := by decide +kernel
theorem dX10_mayOf_40 : decode cX10_mayOf 40 = .ok (.iload_n 2, 1) := by decide +kernel
theorem dX10_mayOf_41 : decode cX10_mayOf 41 = .ok (.ireturn, 1) := by decide +kernel
theorem dX10_may_0 : decode cX10_may 0 = .ok (.aload_n 0, 1) := by decide +kernel
theorem dX10_may_1 : decode cX10_may 1 = .ok (.iload_n 1, 1) := by decide +kernel
theorem dX10_may_2 : decode cX10_may 2 = .ok (.invokevirtual 140, 3) := by decide +kernel
theorem dX10_may_5 : decode cX10_may 5 = .ok (.ifCond .eq 11, 3) := by decide +kernel
theorem dX10_may_8 : decode cX10_may 8 = .ok (.aload_n 0, 1) := by decide +kernel
theorem dX10_may_9 : decode cX10_may 9 = .ok (.iload_n 1, 1) := by decide +kernel
theorem dX10_may_10 : decode cX10_may 10 = .ok (.invokevirtual 154, 3) := by decide +kernel
theorem dX10_may_13 : decode cX10_may 13 = .ok (.goto 5, 3) := by decide +kernel
theorem dX10_may_16 : decode cX10_may 16 = .ok (.bipush (-2), 2) := by decide +kernel
theorem dX10_may_18 : decode cX10_may 18 = .ok (.ireturn, 1) := by decide +kernel
theorem dX10_day_0 : decode cX10_day 0 = .ok (.iload_n 1, 1) := by decide +kernel
theorem dX10_day_1 : decode cX10_day 1 = .ok (.iconst 0, 1) := by decide +kernel
theorem dX10_day_2 : decode cX10_day 2 = .ok (.sipush 1000, 3) := by decide +kernel
theorem dX10_day_5 : decode cX10_day 5 = .ok (.invokestatic 133, 3) := by decide +kernel
theorem dX10_day_8 : decode cX10_day 8 = .ok (.ifCond .eq 15, 3) := by decide +kernel
theorem dX10_day_11 : decode cX10_day 11 = .ok (.aload_n 0, 1) := by decide +kernel
theorem dX10_day_12 : decode cX10_day 12 = .ok (.getfield 147, 3) := by decide +kernel
theorem dX10_day_15 : decode cX10_day 15 = .ok (.iload_n 1, 1) := by decide +kernel
theorem dX10_day_16 : decode cX10_day 16 = .ok (.iadd, 1) := by decide +kernel
theorem dX10_day_17 : decode cX10_day 17 = .ok (.sipush 10000, 3) := by decide +kernel
theorem dX10_day_20 : decode cX10_day 20 = .ok (.if_icmp .le 6, 3) := by decide +kernel
theorem dX10_day_23 : decode cX10_day 23 = .ok (.bipush (-3), 2) := by decide +kernel
theorem dX10_day_25 : decode cX10_day 25 = .ok (.ireturn, 1) := by decide +kernel
theorem dX10_day_26 : decode cX10_day 26 = .ok (.aload_n 0, 1) := by decide +kernel
theorem dX10_day_27 : decode cX10_day 27 = .ok (.dup, 1) := by decide +kernel
theorem dX10_day_28 : decode cX10_day 28 = .ok (.getfield 147, 3) := by decide +kernel
theorem dX10_day_31 : decode cX10_day 31 = .ok (.iload_n 1, 1) := by decide +kernel
theorem dX10_day_32 : decode cX10_day 32 = .ok (.iadd, 1) := by decide +kernel
theorem dX10_day_33 : decode cX10_day 33 = .ok (.putfield 147, 3) := by decide +kernel
theorem dX10_day_36 : decode cX10_day 36 = .ok (.aload_n 0, 1) := by decide +kernel
theorem dX10_day_37 : decode cX10_day 37 = .ok (.getfield 147, 3) := by decide +kernel
theorem dX10_day_40 : decode cX10_day 40 = .ok (.ireturn, 1) := by decide +kernel
theorem dX10_take_0 : decode cX10_take 0 = .ok (.iload_n 3, 1) := by decide +kernel
theorem dX10_take_1 : decode cX10_take 1 = .ok (.istore 4, 2) := by decide +kernel
theorem dX10_take_3 : decode cX10_take 3 = .ok (.iload 4, 2) := by decide +kernel
theorem dX10_take_5 : decode cX10_take 5 = .ok (.ifCond .le 131, 3) := by decide +kernel
theorem dX10_take_8 : decode cX10_take 8 = .ok (.iconst (-1), 1) := by decide +kernel
theorem dX10_take_9 : decode cX10_take 9 = .ok (.istore 5, 2) := by decide +kernel
theorem dX10_take_11 : decode cX10_take 11 = .ok (.iconst 0, 1) := by decide +kernel
theorem dX10_take_12 : decode cX10_take 12 = .ok (.istore 6, 2) := by decide +kernel
theorem dX10_take_14 : decode cX10_take 14 = .ok (.iload 6, 2) := by decide +kernel
theorem dX10_take_16 : decode cX10_take 16 = .ok (.aload_n 0, 1) := by decide +kernel
theorem dX10_take_17 : decode cX10_take 17 = .ok (.getfield 144, 3) := by decide +kernel
theorem dX10_take_20 : decode cX10_take 20 = .ok (.if_icmp .ge 51, 3) := by decide +kernel
theorem dX10_take_23 : decode cX10_take 23 = .ok (.aload_n 0, 1) := by decide +kernel
theorem dX10_take_24 : decode cX10_take 24 = .ok (.iload 6, 2) := by decide +kernel
theorem dX10_take_26 : decode cX10_take 26 = .ok (.iload_n 2, 1) := by decide +kernel
theorem dX10_take_27 : decode cX10_take 27 = .ok (.invokevirtual 150, 3) := by decide +kernel
theorem dX10_take_30 : decode cX10_take 30 = .ok (.ifCond .eq 31, 3) := by decide +kernel
theorem dX10_take_33 : decode cX10_take 33 = .ok (.iload 5, 2) := by decide +kernel
theorem dX10_take_35 : decode cX10_take 35 = .ok (.iconst (-1), 1) := by decide +kernel
theorem dX10_take_36 : decode cX10_take 36 = .ok (.if_icmp .eq 20, 3) := by decide +kernel
theorem dX10_take_39 : decode cX10_take 39 = .ok (.aload_n 0, 1) := by decide +kernel
theorem dX10_take_40 : decode cX10_take 40 = .ok (.getfield 22, 3) := by decide +kernel
theorem dX10_take_43 : decode cX10_take 43 = .ok (.iload 6, 2) := by decide +kernel
theorem dX10_take_45 : decode cX10_take 45 = .ok (.iaload, 1) := by decide +kernel
theorem dX10_take_46 : decode cX10_take 46 = .ok (.aload_n 0, 1) := by decide +kernel
theorem dX10_take_47 : decode cX10_take 47 = .ok (.getfield 22, 3) := by decide +kernel
theorem dX10_take_50 : decode cX10_take 50 = .ok (.iload 5, 2) := by decide +kernel
theorem dX10_take_52 : decode cX10_take 52 = .ok (.iaload, 1) := by decide +kernel
theorem dX10_take_53 : decode cX10_take 53 = .ok (.if_icmp .ge 8, 3) := by decide +kernel
theorem dX10_take_56 : decode cX10_take 56 = .ok (.iload 6, 2) := by decide +kernel
theorem dX10_take_58 : decode cX10_take 58 = .ok (.goto 5, 3) := by decide +kernel
theorem dX10_take_61 : decode cX10_take 61 = .ok (.iload 5, 2) := by decide +kernel
theorem dX10_take_63 : decode cX10_take 63 = .ok (.istore 5, 2) := by decide +kernel
theorem dX10_take_65 : decode cX10_take 65 = .ok (.iinc 6 1, 3) := by decide +kernel
theorem dX10_take_68 : decode cX10_take 68 = .ok (.goto (-54), 3) := by decide +kernel
theorem dX10_take_71 : decode cX10_take 71 = .ok (.aload_n 0, 1) := by decide +kernel
theorem dX10_take_72 : decode cX10_take 72 = .ok (.getfield 19, 3) := by decide +kernel
theorem dX10_take_75 : decode cX10_take 75 = .ok (.iload 5, 2) := by decide +kernel
theorem dX10_take_77 : decode cX10_take 77 = .ok (.iaload, 1) := by decide +kernel
theorem dX10_take_78 : decode cX10_take 78 = .ok (.iload 4, 2) := by decide +kernel
theorem dX10_take_80 : decode cX10_take 80 = .ok (.if_icmp .ge 13, 3) := by decide +kernel
theorem dX10_take_83 : decode cX10_take 83 = .ok (.aload_n 0, 1) := by decide +kernel
theorem dX10_take_84 : decode cX10_take 84 = .ok (.getfield 19, 3) := by decide +kernel
theorem dX10_take_87 : decode cX10_take 87 = .ok (.iload 5, 2) := by decide +kernel
theorem dX10_take_89 : decode cX10_take 89 = .ok (.iaload, 1) := by decide +kernel
theorem dX10_take_90 : decode cX10_take 90 = .ok (.goto 5, 3) := by decide +kernel
theorem dX10_take_93 : decode cX10_take 93 = .ok (.iload 4, 2) := by decide +kernel
theorem dX10_take_95 : decode cX10_take 95 = .ok (.istore 6, 2) := by decide +kernel
theorem dX10_take_97 : decode cX10_take 97 = .ok (.aload_n 0, 1) := by decide +kernel
theorem dX10_take_98 : decode cX10_take 98 = .ok (.getfield 19, 3) := by decide +kernel
theorem dX10_take_101 : decode cX10_take 101 = .ok (.iload 5, 2) := by decide +kernel
theorem dX10_take_103 : decode cX10_take 103 = .ok (.dup2, 1) := by decide +kernel
theorem dX10_take_104 : decode cX10_take 104 = .ok (.iaload, 1) := by decide +kernel
theorem dX10_take_105 : decode cX10_take 105 = .ok (.iload 6, 2) := by decide +kernel
theorem dX10_take_107 : decode cX10_take 107 = .ok (.isub, 1) := by decide +kernel
theorem dX10_take_108 : decode cX10_take 108 = .ok (.iastore, 1) := by decide +kernel
theorem dX10_take_109 : decode cX10_take 109 = .ok (.iload 4, 2) := by decide +kernel
theorem dX10_take_111 : decode cX10_take 111 = .ok (.iload 6, 2) := by decide +kernel
theorem dX10_take_113 : decode cX10_take 113 = .ok (.isub, 1) := by decide +kernel
theorem dX10_take_114 : decode cX10_take 114 = .ok (.istore 4, 2) := by decide +kernel
theorem dX10_take_116 : decode cX10_take 116 = .ok (.aload_n 0, 1) := by decide +kernel
theorem dX10_take_117 : decode cX10_take 117 = .ok (.getfield 47, 3) := by decide +kernel
theorem dX10_take_120 : decode cX10_take 120 = .ok (.iload_n 1, 1) := by decide +kernel
theorem dX10_take_121 : decode cX10_take 121 = .ok (.aload_n 0, 1) := by decide +kernel
theorem dX10_take_122 : decode cX10_take 122 = .ok (.getfield 47, 3) := by decide +kernel
theorem dX10_take_125 : decode cX10_take 125 = .ok (.iload_n 1, 1) := by decide +kernel
theorem dX10_take_126 : decode cX10_take 126 = .ok (.laload, 1) := by decide +kernel
theorem dX10_take_127 : decode cX10_take 127 = .ok (.lconst 1, 1) := by decide +kernel
theorem dX10_take_128 : decode cX10_take 128 = .ok (.iload 5, 2) := by decide +kernel
theorem dX10_take_130 : decode cX10_take 130 = .ok (.lshl, 1) := by decide +kernel
theorem dX10_take_131 : decode cX10_take 131 = .ok (.lor, 1) := by decide +kernel
theorem dX10_take_132 : decode cX10_take 132 = .ok (.lastore, 1) := by decide +kernel
theorem dX10_take_133 : decode cX10_take 133 = .ok (.goto (-130), 3) := by decide +kernel
theorem dX10_take_136 : decode cX10_take 136 = .ok (.aload_n 0, 1) := by decide +kernel
theorem dX10_take_137 : decode cX10_take 137 = .ok (.getfield 44, 3) := by decide +kernel
theorem dX10_take_140 : decode cX10_take 140 = .ok (.bipush 8, 2) := by decide +kernel
theorem dX10_take_142 : decode cX10_take 142 = .ok (.iload_n 1, 1) := by decide +kernel
theorem dX10_take_143 : decode cX10_take 143 = .ok (.imul, 1) := by decide +kernel
theorem dX10_take_144 : decode cX10_take 144 = .ok (.iload_n 2, 1) := by decide +kernel
theorem dX10_take_145 : decode cX10_take 145 = .ok (.iadd, 1) := by decide +kernel
theorem dX10_take_146 : decode cX10_take 146 = .ok (.dup2, 1) := by decide +kernel
theorem dX10_take_147 : decode cX10_take 147 = .ok (.iaload, 1) := by decide +kernel
theorem dX10_take_148 : decode cX10_take 148 = .ok (.iload_n 3, 1) := by decide +kernel
theorem dX10_take_149 : decode cX10_take 149 = .ok (.iadd, 1) := by decide +kernel
theorem dX10_take_150 : decode cX10_take 150 = .ok (.iastore, 1) := by decide +kernel
theorem dX10_take_151 : decode cX10_take 151 = .ok (.return_, 1) := by decide +kernel
theorem dX10_recipe_0 : decode cX10_recipe 0 = .ok (.aload_n 0, 1) := by decide +kernel
theorem dX10_recipe_1 : decode cX10_recipe 1 = .ok (.getfield 158, 3) := by decide +kernel
theorem dX10_recipe_4 : decode cX10_recipe 4 = .ok (.bipush 12, 2) := by decide +kernel
theorem dX10_recipe_6 : decode cX10_recipe 6 = .ok (.if_icmp .ne 6, 3) := by decide +kernel
theorem dX10_recipe_9 : decode cX10_recipe 9 = .ok (.bipush (-6), 2) := by decide +kernel
theorem dX10_recipe_11 : decode cX10_recipe 11 = .ok (.ireturn, 1) := by decide +kernel
theorem dX10_recipe_12 : decode cX10_recipe 12 = .ok (.aload_n 0, 1) := by decide +kernel
theorem dX10_recipe_13 : decode cX10_recipe 13 = .ok (.dup, 1) := by decide +kernel
theorem dX10_recipe_14 : decode cX10_recipe 14 = .ok (.getfield 158, 3) := by decide +kernel
theorem dX10_recipe_17 : decode cX10_recipe 17 = .ok (.iconst 1, 1) := by decide +kernel
theorem dX10_recipe_18 : decode cX10_recipe 18 = .ok (.iadd, 1) := by decide +kernel
theorem dX10_recipe_19 : decode cX10_recipe 19 = .ok (.putfield 158, 3) := by decide +kernel
theorem dX10_recipe_22 : decode cX10_recipe 22 = .ok (.aload_n 0, 1) := by decide +kernel
theorem dX10_recipe_23 : decode cX10_recipe 23 = .ok (.getfield 158, 3) := by decide +kernel
theorem dX10_recipe_26 : decode cX10_recipe 26 = .ok (.iconst 1, 1) := by decide +kernel
theorem dX10_recipe_27 : decode cX10_recipe 27 = .ok (.isub, 1) := by decide +kernel
theorem dX10_recipe_28 : decode cX10_recipe 28 = .ok (.ireturn, 1) := by decide +kernel
theorem dX10_findNeeds_0 : decode cX10_findNeeds 0 = .ok (.iconst 0, 1) := by decide +kernel
theorem dX10_findNeeds_1 : decode cX10_findNeeds 1 = .ok (.istore_n 1, 1) := by decide +kernel
theorem dX10_findNeeds_2 : decode cX10_findNeeds 2 = .ok (.iload_n 1, 1) := by decide +kernel
theorem dX10_findNeeds_3 : decode cX10_findNeeds 3 = .ok (.aload_n 0, 1) := by decide +kernel
theorem dX10_findNeeds_4 : decode cX10_findNeeds 4 = .ok (.getfield 158, 3) := by decide +kernel
theorem dX10_findNeeds_7 : decode cX10_findNeeds 7 = .ok (.if_icmp .ge 149, 3) := by decide +kernel
theorem dX10_findNeeds_10 : decode cX10_findNeeds 10 = .ok (.iconst 0, 1) := by decide +kernel
theorem dX10_findNeeds_11 : decode cX10_findNeeds 11 = .ok (.istore_n 2, 1) := by decide +kernel
theorem dX10_findNeeds_12 : decode cX10_findNeeds 12 = .ok (.iconst 0, 1) := by decide +kernel
theorem dX10_findNeeds_13 : decode cX10_findNeeds 13 = .ok (.istore_n 3, 1) := by decide +kernel
theorem dX10_findNeeds_14 : decode cX10_findNeeds 14 = .ok (.iload_n 3, 1) := by decide +kernel
theorem dX10_findNeeds_15 : decode cX10_findNeeds 15 = .ok (.bipush 8, 2) := by decide +kernel
theorem dX10_findNeeds_17 : decode cX10_findNeeds 17 = .ok (.if_icmp .ge 124, 3) := by decide +kernel
theorem dX10_findNeeds_20 : decode cX10_findNeeds 20 = .ok (.iconst 0, 1) := by decide +kernel
theorem dX10_findNeeds_21 : decode cX10_findNeeds 21 = .ok (.istore 4, 2) := by decide +kernel
theorem dX10_findNeeds_23 : decode cX10_findNeeds 23 = .ok (.iconst 0, 1) := by decide +kernel
theorem dX10_findNeeds_24 : decode cX10_findNeeds 24 = .ok (.istore 5, 2) := by decide +kernel
theorem dX10_findNeeds_26 : decode cX10_findNeeds 26 = .ok (.iload 5, 2) := by decide +kernel
theorem dX10_findNeeds_28 : decode cX10_findNeeds 28 = .ok (.aload_n 0, 1) := by decide +kernel
theorem dX10_findNeeds_29 : decode cX10_findNeeds 29 = .ok (.getfield 25, 3) := by decide +kernel
theorem dX10_findNeeds_32 : decode cX10_findNeeds 32 = .ok (.iload_n 1, 1) := by decide +kernel
theorem dX10_findNeeds_33 : decode cX10_findNeeds 33 = .ok (.iaload, 1) := by decide +kernel
theorem dX10_findNeeds_34 : decode cX10_findNeeds 34 = .ok (.if_icmp .ge 83, 3) := by decide +kernel
theorem dX10_findNeeds_37 : decode cX10_findNeeds 37 = .ok (.bipush 6, 2) := by decide +kernel
theorem dX10_findNeeds_39 : decode cX10_findNeeds 39 = .ok (.iload_n 1, 1) := by decide +kernel
theorem dX10_findNeeds_40 : decode cX10_findNeeds 40 = .ok (.imul, 1) := by decide +kernel
theorem dX10_findNeeds_41 : decode cX10_findNeeds 41 = .ok (.iload 5, 2) := by decide +kernel
theorem dX10_findNeeds_43 : decode cX10_findNeeds 43 = .ok (.iadd, 1) := by decide +kernel
theorem dX10_findNeeds_44 : decode cX10_findNeeds 44 = .ok (.istore 6, 2) := by decide +kernel
theorem dX10_findNeeds_46 : decode cX10_findNeeds 46 = .ok (.iload 4, 2) := by decide +kernel
theorem dX10_findNeeds_48 : decode cX10_findNeeds 48 = .ok (.aload_n 0, 1) := by decide +kernel
theorem dX10_findNeeds_49 : decode cX10_findNeeds 49 = .ok (.getfield 28, 3) := by decide +kernel
theorem dX10_findNeeds_52 : decode cX10_findNeeds 52 = .ok (.iload 6, 2) := by decide +kernel
theorem dX10_findNeeds_54 : decode cX10_findNeeds 54 = .ok (.baload, 1) := by decide +kernel
theorem dX10_findNeeds_55 : decode cX10_findNeeds 55 = .ok (.ifCond .eq 31, 3) := by decide +kernel
theorem dX10_findNeeds_58 : decode cX10_findNeeds 58 = .ok (.aload_n 0, 1) := by decide +kernel
theorem dX10_findNeeds_59 : decode cX10_findNeeds 59 = .ok (.getfield 35, 3) := by decide +kernel
theorem dX10_findNeeds_62 : decode cX10_findNeeds 62 = .ok (.iload 6, 2) := by decide +kernel
theorem dX10_findNeeds_64 : decode cX10_findNeeds 64 = .ok (.iaload, 1) := by decide +kernel
theorem dX10_findNeeds_65 : decode cX10_findNeeds 65 = .ok (.aload_n 0, 1) := by decide +kernel
theorem dX10_findNeeds_66 : decode cX10_findNeeds 66 = .ok (.getfield 41, 3) := by decide +kernel
theorem dX10_findNeeds_69 : decode cX10_findNeeds 69 = .ok (.bipush 8, 2) := by decide +kernel
theorem dX10_findNeeds_71 : decode cX10_findNeeds 71 = .ok (.aload_n 0, 1) := by decide +kernel
theorem dX10_findNeeds_72 : decode cX10_findNeeds 72 = .ok (.getfield 32, 3) := by decide +kernel
theorem dX10_findNeeds_75 : decode cX10_findNeeds 75 = .ok (.iload 6, 2) := by decide +kernel
theorem dX10_findNeeds_77 : decode cX10_findNeeds 77 = .ok (.iaload, 1) := by decide +kernel
theorem dX10_findNeeds_78 : decode cX10_findNeeds 78 = .ok (.imul, 1) := by decide +kernel
theorem dX10_findNeeds_79 : decode cX10_findNeeds 79 = .ok (.iload_n 3, 1) := by decide +kernel
theorem dX10_findNeeds_80 : decode cX10_findNeeds 80 = .ok (.iadd, 1) := by decide +kernel
theorem dX10_findNeeds_81 : decode cX10_findNeeds 81 = .ok (.iaload, 1) := by decide +kernel
theorem dX10_findNeeds_82 : decode cX10_findNeeds 82 = .ok (.imul, 1) := by decide +kernel
theorem dX10_findNeeds_83 : decode cX10_findNeeds 83 = .ok (.goto 25, 3) := by decide +kernel
theorem dX10_findNeeds_86 : decode cX10_findNeeds 86 = .ok (.aload_n 0, 1) := by decide +kernel
theorem dX10_findNeeds_87 : decode cX10_findNeeds 87 = .ok (.getfield 32, 3) := by decide +kernel
theorem dX10_findNeeds_90 : decode cX10_findNeeds 90 = .ok (.iload 6, 2) := by decide +kernel
theorem dX10_findNeeds_92 : decode cX10_findNeeds 92 = .ok (.iaload, 1) := by decide +kernel
theorem dX10_findNeeds_93 : decode cX10_findNeeds 93 = .ok (.iload_n 3, 1) := by decide +kernel
theorem dX10_findNeeds_94 : decode cX10_findNeeds 94 = .ok (.if_icmp .ne 13, 3) := by decide +kernel
theorem dX10_findNeeds_97 : decode cX10_findNeeds 97 = .ok (.aload_n 0, 1) := by decide +kernel
theorem dX10_findNeeds_98 : decode cX10_findNeeds 98 = .ok (.getfield 35, 3) := by decide +kernel
theorem dX10_findNeeds_101 : decode cX10_findNeeds 101 = .ok (.iload 6, 2) := by decide +kernel
theorem dX10_findNeeds_103 : decode cX10_findNeeds 103 = .ok (.iaload, 1) := by decide +kernel
theorem dX10_findNeeds_104 : decode cX10_findNeeds 104 = .ok (.goto 4, 3) := by decide +kernel
theorem dX10_findNeeds_107 : decode cX10_findNeeds 107 = .ok (.iconst 0, 1) := by decide +kernel
theorem dX10_findNeeds_108 : decode cX10_findNeeds 108 = .ok (.iadd, 1) := by decide +kernel
theorem dX10_findNeeds_109 : decode cX10_findNeeds 109 = .ok (.istore 4, 2) := by decide +kernel
theorem dX10_findNeeds_111 : decode cX10_findNeeds 111 = .ok (.iinc 5 1, 3) := by decide +kernel
theorem dX10_findNeeds_114 : decode cX10_findNeeds 114 = .ok (.goto (-88), 3) := by decide +kernel
theorem dX10_findNeeds_117 : decode cX10_findNeeds 117 = .ok (.aload_n 0, 1) := by decide +kernel
theorem dX10_findNeeds_118 : decode cX10_findNeeds 118 = .ok (.getfield 41, 3) := by decide +kernel
theorem dX10_findNeeds_121 : decode cX10_findNeeds 121 = .ok (.bipush 8, 2) := by decide +kernel
theorem dX10_findNeeds_123 : decode cX10_findNeeds 123 = .ok (.iload_n 1, 1) := by decide +kernel
theorem dX10_findNeeds_124 : decode cX10_findNeeds 124 = .ok (.imul, 1) := by decide +kernel
theorem dX10_findNeeds_125 : decode cX10_findNeeds 125 = .ok (.iload_n 3, 1) := by decide +kernel
theorem dX10_findNeeds_126 : decode cX10_findNeeds 126 = .ok (.iadd, 1) := by decide +kernel
theorem dX10_findNeeds_127 : decode cX10_findNeeds 127 = .ok (.iload 4, 2) := by decide +kernel
theorem dX10_findNeeds_129 : decode cX10_findNeeds 129 = .ok (.iastore, 1) := by decide +kernel
theorem dX10_findNeeds_130 : decode cX10_findNeeds 130 = .ok (.iload_n 2, 1) := by decide +kernel
theorem dX10_findNeeds_131 : decode cX10_findNeeds 131 = .ok (.iload 4, 2) := by decide +kernel
theorem dX10_findNeeds_133 : decode cX10_findNeeds 133 = .ok (.iadd, 1) := by decide +kernel
theorem dX10_findNeeds_134 : decode cX10_findNeeds 134 = .ok (.istore_n 2, 1) := by decide +kernel
theorem dX10_findNeeds_135 : decode cX10_findNeeds 135 = .ok (.iinc 3 1, 3) := by decide +kernel
theorem dX10_findNeeds_138 : decode cX10_findNeeds 138 = .ok (.goto (-124), 3) := by decide +kernel
theorem dX10_findNeeds_141 : decode cX10_findNeeds 141 = .ok (.iload_n 2, 1) := by decide +kernel
theorem dX10_findNeeds_142 : decode cX10_findNeeds 142 = .ok (.sipush 20000, 3) := by decide +kernel
theorem dX10_findNeeds_145 : decode cX10_findNeeds 145 = .ok (.if_icmp .le 5, 3) := by decide +kernel
theorem dX10_findNeeds_148 : decode cX10_findNeeds 148 = .ok (.iconst 0, 1) := by decide +kernel
theorem dX10_findNeeds_149 : decode cX10_findNeeds 149 = .ok (.ireturn, 1) := by decide +kernel
theorem dX10_findNeeds_150 : decode cX10_findNeeds 150 = .ok (.iinc 1 1, 3) := by decide +kernel
theorem dX10_findNeeds_153 : decode cX10_findNeeds 153 = .ok (.goto (-151), 3) := by decide +kernel
theorem dX10_findNeeds_156 : decode cX10_findNeeds 156 = .ok (.iconst 1, 1) := by decide +kernel
theorem dX10_findNeeds_157 : decode cX10_findNeeds 157 = .ok (.ireturn, 1) := by decide +kernel
theorem dX10_part_0 : decode cX10_part 0 = .ok (.iload_n 1, 1) := by decide +kernel
theorem dX10_part_1 : decode cX10_part 1 = .ok (.iconst 0, 1) := by decide +kernel
theorem dX10_part_2 : decode cX10_part 2 = .ok (.aload_n 0, 1) := by decide +kernel
theorem dX10_part_3 : decode cX10_part 3 = .ok (.getfield 158, 3) := by decide +kernel
theorem dX10_part_6 : decode cX10_part 6 = .ok (.iconst 1, 1) := by decide +kernel
theorem dX10_part_7 : decode cX10_part 7 = .ok (.isub, 1) := by decide +kernel
theorem dX10_part_8 : decode cX10_part 8 = .ok (.invokestatic 133, 3) := by decide +kernel
theorem dX10_part_11 : decode cX10_part 11 = .ok (.ifCond .eq 32, 3) := by decide +kernel
theorem dX10_part_14 : decode cX10_part 14 = .ok (.iload_n 2, 1) := by decide +kernel
theorem dX10_part_15 : decode cX10_part 15 = .ok (.ifCond .eq 20, 3) := by decide +kernel
theorem dX10_part_18 : decode cX10_part 18 = .ok (.iload_n 3, 1) := by decide +kernel
theorem dX10_part_19 : decode cX10_part 19 = .ok (.iconst 0, 1) := by decide +kernel
theorem dX10_part_20 : decode cX10_part 20 = .ok (.aload_n 0, 1) := by decide +kernel
theorem dX10_part_21 : decode cX10_part 21 = .ok (.getfield 158, 3) := by decide +kernel
theorem dX10_part_24 : decode cX10_part 24 = .ok (.iconst 1, 1) := by decide +kernel
theorem dX10_part_25 : decode cX10_part 25 = .ok (.isub, 1) := by decide +kernel
theorem dX10_part_26 : decode cX10_part 26 = .ok (.invokestatic 133, 3) := by decide +kernel
theorem dX10_part_29 : decode cX10_part 29 = .ok (.ifCond .ne 17, 3) := by decide +kernel
theorem dX10_part_32 : decode cX10_part 32 = .ok (.goto 11, 3) := by decide +kernel
theorem dX10_part_35 : decode cX10_part 35 = .ok (.aload_n 0, 1) := by decide +kernel
theorem dX10_part_36 : decode cX10_part 36 = .ok (.iload_n 3, 1) := by decide +kernel
theorem dX10_part_37 : decode cX10_part 37 = .ok (.invokevirtual 140, 3) := by decide +kernel
theorem dX10_part_40 : decode cX10_part 40 = .ok (.ifCond .ne 6, 3) := by decide +kernel
theorem dX10_part_43 : decode cX10_part 43 = .ok (.bipush (-2), 2) := by decide +kernel
theorem dX10_part_45 : decode cX10_part 45 = .ok (.ireturn, 1) := by decide +kernel
theorem dX10_part_46 : decode cX10_part 46 = .ok (.iload 4, 2) := by decide +kernel
theorem dX10_part_48 : decode cX10_part 48 = .ok (.iconst 1, 1) := by decide +kernel
theorem dX10_part_49 : decode cX10_part 49 = .ok (.bipush 100, 2) := by decide +kernel
theorem dX10_part_51 : decode cX10_part 51 = .ok (.invokestatic 133, 3) := by decide +kernel
theorem dX10_part_54 : decode cX10_part 54 = .ok (.ifCond .eq 12, 3) := by decide +kernel
theorem dX10_part_57 : decode cX10_part 57 = .ok (.iload_n 2, 1) := by decide +kernel
theorem dX10_part_58 : decode cX10_part 58 = .ok (.ifCond .eq 11, 3) := by decide +kernel
theorem dX10_part_61 : decode cX10_part 61 = .ok (.iload_n 3, 1) := by decide +kernel
theorem dX10_part_62 : decode cX10_part 62 = .ok (.iload_n 1, 1) := by decide +kernel
theorem dX10_part_63 : decode cX10_part 63 = .ok (.if_icmp .lt 6, 3) := by decide +kernel
theorem dX10_part_66 : decode cX10_part 66 = .ok (.bipush (-3), 2) := by decide +kernel
theorem dX10_part_68 : decode cX10_part 68 = .ok (.ireturn, 1) := by decide +kernel
theorem dX10_part_69 : decode cX10_part 69 = .ok (.aload_n 0, 1) := by decide +kernel
theorem dX10_part_70 : decode cX10_part 70 = .ok (.getfield 25, 3) := by decide +kernel
theorem dX10_part_73 : decode cX10_part 73 = .ok (.iload_n 1, 1) := by decide +kernel
theorem dX10_part_74 : decode cX10_part 74 = .ok (.iaload, 1) := by decide +kernel
theorem dX10_part_75 : decode cX10_part 75 = .ok (.bipush 6, 2) := by decide +kernel
theorem dX10_part_77 : decode cX10_part 77 = .ok (.if_icmp .ne 6, 3) := by decide +kernel
theorem dX10_part_80 : decode cX10_part 80 = .ok (.bipush (-6), 2) := by decide +kernel
theorem dX10_part_82 : decode cX10_part 82 = .ok (.ireturn, 1) := by decide +kernel
theorem dX10_part_83 : decode cX10_part 83 = .ok (.bipush 6, 2) := by decide +kernel
theorem dX10_part_85 : decode cX10_part 85 = .ok (.iload_n 1, 1) := by decide +kernel
theorem dX10_part_86 : decode cX10_part 86 = .ok (.imul, 1) := by decide +kernel
theorem dX10_part_87 : decode cX10_part 87 = .ok (.aload_n 0, 1) := by decide +kernel
theorem dX10_part_88 : decode cX10_part 88 = .ok (.getfield 25, 3) := by decide +kernel
theorem dX10_part_91 : decode cX10_part 91 = .ok (.iload_n 1, 1) := by decide +kernel
theorem dX10_part_92 : decode cX10_part 92 = .ok (.iaload, 1) := by decide +kernel
theorem dX10_part_93 : decode cX10_part 93 = .ok (.iadd, 1) := by decide +kernel
theorem dX10_part_94 : decode cX10_part 94 = .ok (.istore 5, 2) := by decide +kernel
theorem dX10_part_96 : decode cX10_part 96 = .ok (.aload_n 0, 1) := by decide +kernel
theorem dX10_part_97 : decode cX10_part 97 = .ok (.getfield 28, 3) := by decide +kernel
theorem dX10_part_100 : decode cX10_part 100 = .ok (.iload 5, 2) := by decide +kernel
theorem dX10_part_102 : decode cX10_part 102 = .ok (.iload_n 2, 1) := by decide +kernel
theorem dX10_part_103 : decode cX10_part 103 = .ok (.bastore, 1) := by decide +kernel
theorem dX10_part_104 : decode cX10_part 104 = .ok (.aload_n 0, 1) := by decide +kernel
theorem dX10_part_105 : decode cX10_part 105 = .ok (.getfield 32, 3) := by decide +kernel
theorem dX10_part_108 : decode cX10_part 108 = .ok (.iload 5, 2) := by decide +kernel
theorem dX10_part_110 : decode cX10_part 110 = .ok (.iload_n 3, 1) := by decide +kernel
theorem dX10_part_111 : decode cX10_part 111 = .ok (.iastore, 1) := by decide +kernel
theorem dX10_part_112 : decode cX10_part 112 = .ok (.aload_n 0, 1) := by decide +kernel
theorem dX10_part_113 : decode cX10_part 113 = .ok (.getfield 35, 3) := by decide +kernel
theorem dX10_part_116 : decode cX10_part 116 = .ok (.iload 5, 2) := by decide +kernel
theorem dX10_part_118 : decode cX10_part 118 = .ok (.iload 4, 2) := by decide +kernel
theorem dX10_part_120 : decode cX10_part 120 = .ok (.iastore, 1) := by decide +kernel
theorem dX10_part_121 : decode cX10_part 121 = .ok (.aload_n 0, 1) := by decide +kernel
theorem dX10_part_122 : decode cX10_part 122 = .ok (.getfield 25, 3) := by decide +kernel
theorem dX10_part_125 : decode cX10_part 125 = .ok (.iload_n 1, 1) := by decide +kernel
theorem dX10_part_126 : decode cX10_part 126 = .ok (.dup2, 1) := by decide +kernel
theorem dX10_part_127 : decode cX10_part 127 = .ok (.iaload, 1) := by decide +kernel
theorem dX10_part_128 : decode cX10_part 128 = .ok (.iconst 1, 1) := by decide +kernel
theorem dX10_part_129 : decode cX10_part 129 = .ok (.iadd, 1) := by decide +kernel
theorem dX10_part_130 : decode cX10_part 130 = .ok (.iastore, 1) := by decide +kernel
theorem dX10_part_131 : decode cX10_part 131 = .ok (.aload_n 0, 1) := by decide +kernel
theorem dX10_part_132 : decode cX10_part 132 = .ok (.invokevirtual 161, 3) := by decide +kernel
theorem dX10_part_135 : decode cX10_part 135 = .ok (.ifCond .ne 16, 3) := by decide +kernel
theorem dX10_part_138 : decode cX10_part 138 = .ok (.aload_n 0, 1) := by decide +kernel
theorem dX10_part_139 : decode cX10_part 139 = .ok (.getfield 25, 3) := by decide +kernel
theorem dX10_part_142 : decode cX10_part 142 = .ok (.iload_n 1, 1) := by decide +kernel
theorem dX10_part_143 : decode cX10_part 143 = .ok (.dup2, 1) := by decide +kernel
theorem dX10_part_144 : decode cX10_part 144 = .ok (.iaload, 1) := by decide +kernel
theorem dX10_part_145 : decode cX10_part 145 = .ok (.iconst 1, 1) := by decide +kernel
theorem dX10_part_146 : decode cX10_part 146 = .ok (.isub, 1) := by decide +kernel
theorem dX10_part_147 : decode cX10_part 147 = .ok (.iastore, 1) := by decide +kernel
theorem dX10_part_148 : decode cX10_part 148 = .ok (.bipush (-6), 2) := by decide +kernel
theorem dX10_part_150 : decode cX10_part 150 = .ok (.ireturn, 1) := by decide +kernel
theorem dX10_part_151 : decode cX10_part 151 = .ok (.iconst 0, 1) := by decide +kernel
theorem dX10_part_152 : decode cX10_part 152 = .ok (.istore 6, 2) := by decide +kernel
theorem dX10_part_154 : decode cX10_part 154 = .ok (.iload 6, 2) := by decide +kernel
theorem dX10_part_156 : decode cX10_part 156 = .ok (.bipush 96, 2) := by decide +kernel
theorem dX10_part_158 : decode cX10_part 158 = .ok (.if_icmp .ge 23, 3) := by decide +kernel
theorem dX10_part_161 : decode cX10_part 161 = .ok (.aload_n 0, 1) := by decide +kernel
theorem dX10_part_162 : decode cX10_part 162 = .ok (.getfield 38, 3) := by decide +kernel
theorem dX10_part_165 : decode cX10_part 165 = .ok (.iload 6, 2) := by decide +kernel
theorem dX10_part_167 : decode cX10_part 167 = .ok (.aload_n 0, 1) := by decide +kernel
theorem dX10_part_168 : decode cX10_part 168 = .ok (.getfield 41, 3) := by decide +kernel
theorem dX10_part_171 : decode cX10_part 171 = .ok (.iload 6, 2) := by decide +kernel
theorem dX10_part_173 : decode cX10_part 173 = .ok (.iaload, 1) := by decide +kernel
theorem dX10_part_174 : decode cX10_part 174 = .ok (.iastore, 1) := by decide +kernel
theorem dX10_part_175 : decode cX10_part 175 = .ok (.iinc 6 1, 3) := by decide +kernel
theorem dX10_part_178 : decode cX10_part 178 = .ok (.goto (-24), 3) := by decide +kernel
theorem dX10_part_181 : decode cX10_part 181 = .ok (.aload_n 0, 1) := by decide +kernel
theorem dX10_part_182 : decode cX10_part 182 = .ok (.getfield 25, 3) := by decide +kernel
theorem dX10_part_185 : decode cX10_part 185 = .ok (.iload_n 1, 1) := by decide +kernel
theorem dX10_part_186 : decode cX10_part 186 = .ok (.iaload, 1) := by decide +kernel
theorem dX10_part_187 : decode cX10_part 187 = .ok (.ireturn, 1) := by decide +kernel
theorem dX10_resolved_0 : decode cX10_resolved 0 = .ok (.iload_n 1, 1) := by decide +kernel
theorem dX10_resolved_1 : decode cX10_resolved 1 = .ok (.iconst 0, 1) := by decide +kernel
theorem dX10_resolved_2 : decode cX10_resolved 2 = .ok (.aload_n 0, 1) := by decide +kernel
theorem dX10_resolved_3 : decode cX10_resolved 3 = .ok (.getfield 158, 3) := by decide +kernel
theorem dX10_resolved_6 : decode cX10_resolved 6 = .ok (.iconst 1, 1) := by decide +kernel
theorem dX10_resolved_7 : decode cX10_resolved 7 = .ok (.isub, 1) := by decide +kernel
theorem dX10_resolved_8 : decode cX10_resolved 8 = .ok (.invokestatic 133, 3) := by decide +kernel
theorem dX10_resolved_11 : decode cX10_resolved 11 = .ok (.ifCond .eq 25, 3) := by decide +kernel
theorem dX10_resolved_14 : decode cX10_resolved 14 = .ok (.aload_n 0, 1) := by decide +kernel
theorem dX10_resolved_15 : decode cX10_resolved 15 = .ok (.iload_n 2, 1) := by decide +kernel
theorem dX10_resolved_16 : decode cX10_resolved 16 = .ok (.invokevirtual 140, 3) := by decide +kernel
theorem dX10_resolved_19 : decode cX10_resolved 19 = .ok (.ifCond .eq 17, 3) := by decide +kernel
theorem dX10_resolved_22 : decode cX10_resolved 22 = .ok (.aload_n 0, 1) := by decide +kernel
theorem dX10_resolved_23 : decode cX10_resolved 23 = .ok (.getfield 38, 3) := by decide +kernel
theorem dX10_resolved_26 : decode cX10_resolved 26 = .ok (.bipush 8, 2) := by decide +kernel
theorem dX10_resolved_28 : decode cX10_resolved 28 = .ok (.iload_n 1, 1) := by decide +kernel
theorem dX10_resolved_29 : decode cX10_resolved 29 = .ok (.imul, 1) := by decide +kernel
theorem dX10_resolved_30 : decode cX10_resolved 30 = .ok (.iload_n 2, 1) := by decide +kernel
theorem dX10_resolved_31 : decode cX10_resolved 31 = .ok (.iadd, 1) := by decide +kernel
theorem dX10_resolved_32 : decode cX10_resolved 32 = .ok (.iaload, 1) := by decide +kernel
theorem dX10_resolved_33 : decode cX10_resolved 33 = .ok (.goto 5, 3) := by decide +kernel
theorem dX10_resolved_36 : decode cX10_resolved 36 = .ok (.bipush (-2), 2) := by decide +kernel
theorem dX10_resolved_38 : decode cX10_resolved 38 = .ok (.ireturn, 1) := by decide +kernel
theorem dX10_batch_0 : decode cX10_batch 0 = .ok (.aload_n 0, 1) := by decide +kernel
theorem dX10_batch_1 : decode cX10_batch 1 = .ok (.getfield 137, 3) := by decide +kernel
theorem dX10_batch_4 : decode cX10_batch 4 = .ok (.bipush 24, 2) := by decide +kernel
theorem dX10_batch_6 : decode cX10_batch 6 = .ok (.if_icmp .ne 6, 3) := by decide +kernel
theorem dX10_batch_9 : decode cX10_batch 9 = .ok (.bipush (-6), 2) := by decide +kernel
theorem dX10_batch_11 : decode cX10_batch 11 = .ok (.ireturn, 1) := by decide +kernel
theorem dX10_batch_12 : decode cX10_batch 12 = .ok (.aload_n 0, 1) := by decide +kernel
theorem dX10_batch_13 : decode cX10_batch 13 = .ok (.dup, 1) := by decide +kernel
theorem dX10_batch_14 : decode cX10_batch 14 = .ok (.getfield 137, 3) := by decide +kernel
theorem dX10_batch_17 : decode cX10_batch 17 = .ok (.iconst 1, 1) := by decide +kernel
theorem dX10_batch_18 : decode cX10_batch 18 = .ok (.iadd, 1) := by decide +kernel
theorem dX10_batch_19 : decode cX10_batch 19 = .ok (.putfield 137, 3) := by decide +kernel
theorem dX10_batch_22 : decode cX10_batch 22 = .ok (.aload_n 0, 1) := by decide +kernel
theorem dX10_batch_23 : decode cX10_batch 23 = .ok (.getfield 137, 3) := by decide +kernel
theorem dX10_batch_26 : decode cX10_batch 26 = .ok (.iconst 1, 1) := by decide +kernel
theorem dX10_batch_27 : decode cX10_batch 27 = .ok (.isub, 1) := by decide +kernel
theorem dX10_batch_28 : decode cX10_batch 28 = .ok (.ireturn, 1) := by decide +kernel
theorem dX10_unitsOf_0 : decode cX10_unitsOf 0 = .ok (.iconst 0, 1) := by decide +kernel
theorem dX10_unitsOf_1 : decode cX10_unitsOf 1 = .ok (.istore_n 2, 1) := by decide +kernel
theorem dX10_unitsOf_2 : decode cX10_unitsOf 2 = .ok (.iconst 0, 1) := by decide +kernel
theorem dX10_unitsOf_3 : decode cX10_unitsOf 3 = .ok (.istore_n 3, 1) := by decide +kernel
theorem dX10_unitsOf_4 : decode cX10_unitsOf 4 = .ok (.iload_n 3, 1) := by decide +kernel
theorem dX10_unitsOf_5 : decode cX10_unitsOf 5 = .ok (.bipush 8, 2) := by decide +kernel
theorem dX10_unitsOf_7 : decode cX10_unitsOf 7 = .ok (.if_icmp .ge 23, 3) := by decide +kernel
theorem dX10_unitsOf_10 : decode cX10_unitsOf 10 = .ok (.iload_n 2, 1) := by decide +kernel
theorem dX10_unitsOf_11 : decode cX10_unitsOf 11 = .ok (.aload_n 0, 1) := by decide +kernel
theorem dX10_unitsOf_12 : decode cX10_unitsOf 12 = .ok (.getfield 44, 3) := by decide +kernel
theorem dX10_unitsOf_15 : decode cX10_unitsOf 15 = .ok (.bipush 8, 2) := by decide +kernel
theorem dX10_unitsOf_17 : decode cX10_unitsOf 17 = .ok (.iload_n 1, 1) := by decide +kernel
theorem dX10_unitsOf_18 : decode cX10_unitsOf 18 = .ok (.imul, 1) := by decide +kernel
theorem dX10_unitsOf_19 : decode cX10_unitsOf 19 = .ok (.iload_n 3, 1) := by decide +kernel
theorem dX10_unitsOf_20 : decode cX10_unitsOf 20 = .ok (.iadd, 1) := by decide +kernel
theorem dX10_unitsOf_21 : decode cX10_unitsOf 21 = .ok (.iaload, 1) := by decide +kernel
theorem dX10_unitsOf_22 : decode cX10_unitsOf 22 = .ok (.iadd, 1) := by decide +kernel
theorem dX10_unitsOf_23 : decode cX10_unitsOf 23 = .ok (.istore_n 2, 1) := by decide +kernel
theorem dX10_unitsOf_24 : decode cX10_unitsOf 24 = .ok (.iinc 3 1, 3) := by decide +kernel
theorem dX10_unitsOf_27 : decode cX10_unitsOf 27 = .ok (.goto (-23), 3) := by decide +kernel
theorem dX10_unitsOf_30 : decode cX10_unitsOf 30 = .ok (.iload_n 2, 1) := by decide +kernel
theorem dX10_unitsOf_31 : decode cX10_unitsOf 31 = .ok (.ireturn, 1) := by decide +kernel
theorem dX10_weigh_0 : decode cX10_weigh 0 = .ok (.aload_n 0, 1) := by decide +kernel
theorem dX10_weigh_1 : decode cX10_weigh 1 = .ok (.iload_n 1, 1) := by decide +kernel
theorem dX10_weigh_2 : decode cX10_weigh 2 = .ok (.invokevirtual 165, 3) := by decide +kernel
theorem dX10_weigh_5 : decode cX10_weigh 5 = .ok (.ifCond .eq 11, 3) := by decide +kernel
theorem dX10_weigh_8 : decode cX10_weigh 8 = .ok (.aload_n 0, 1) := by decide +kernel
theorem dX10_weigh_9 : decode cX10_weigh 9 = .ok (.iload_n 2, 1) := by decide +kernel
theorem dX10_weigh_10 : decode cX10_weigh 10 = .ok (.invokevirtual 140, 3) := by decide +kernel
theorem dX10_weigh_13 : decode cX10_weigh 13 = .ok (.ifCond .ne 6, 3) := by decide +kernel
theorem dX10_weigh_16 : decode cX10_weigh 16 = .ok (.bipush (-2), 2) := by decide +kernel
theorem dX10_weigh_18 : decode cX10_weigh 18 = .ok (.ireturn, 1) := by decide +kernel
theorem dX10_weigh_19 : decode cX10_weigh 19 = .ok (.iload_n 3, 1) := by decide +kernel
theorem dX10_weigh_20 : decode cX10_weigh 20 = .ok (.iconst 1, 1) := by decide +kernel
theorem dX10_weigh_21 : decode cX10_weigh 21 = .ok (.sipush 20000, 3) := by decide +kernel
theorem dX10_weigh_24 : decode cX10_weigh 24 = .ok (.invokestatic 133, 3) := by decide +kernel
theorem dX10_weigh_27 : decode cX10_weigh 27 = .ok (.ifCond .ne 6, 3) := by decide +kernel
theorem dX10_weigh_30 : decode cX10_weigh 30 = .ok (.bipush (-3), 2) := by decide +kernel
theorem dX10_weigh_32 : decode cX10_weigh 32 = .ok (.ireturn, 1) := by decide +kernel
theorem dX10_weigh_33 : decode cX10_weigh 33 = .ok (.aload_n 0, 1) := by decide +kernel
theorem dX10_weigh_34 : decode cX10_weigh 34 = .ok (.getfield 51, 3) := by decide +kernel
theorem dX10_weigh_37 : decode cX10_weigh 37 = .ok (.iload_n 1, 1) := by decide +kernel
theorem dX10_weigh_38 : decode cX10_weigh 38 = .ok (.baload, 1) := by decide +kernel
theorem dX10_weigh_39 : decode cX10_weigh 39 = .ok (.ifCond .eq 6, 3) := by decide +kernel
theorem dX10_weigh_42 : decode cX10_weigh 42 = .ok (.bipush (-4), 2) := by decide +kernel
theorem dX10_weigh_44 : decode cX10_weigh 44 = .ok (.ireturn, 1) := by decide +kernel
theorem dX10_weigh_45 : decode cX10_weigh 45 = .ok (.aload_n 0, 1) := by decide +kernel
theorem dX10_weigh_46 : decode cX10_weigh 46 = .ok (.iload_n 2, 1) := by decide +kernel
theorem dX10_weigh_47 : decode cX10_weigh 47 = .ok (.invokevirtual 154, 3) := by decide +kernel
theorem dX10_weigh_50 : decode cX10_weigh 50 = .ok (.iload_n 3, 1) := by decide +kernel
theorem dX10_weigh_51 : decode cX10_weigh 51 = .ok (.if_icmp .ge 6, 3) := by decide +kernel
theorem dX10_weigh_54 : decode cX10_weigh 54 = .ok (.bipush (-5), 2) := by decide +kernel
theorem dX10_weigh_56 : decode cX10_weigh 56 = .ok (.ireturn, 1) := by decide +kernel
theorem dX10_weigh_57 : decode cX10_weigh 57 = .ok (.aload_n 0, 1) := by decide +kernel
theorem dX10_weigh_58 : decode cX10_weigh 58 = .ok (.iload_n 1, 1) := by decide +kernel
theorem dX10_weigh_59 : decode cX10_weigh 59 = .ok (.invokevirtual 168, 3) := by decide +kernel
theorem dX10_weigh_62 : decode cX10_weigh 62 = .ok (.iload_n 3, 1) := by decide +kernel
theorem dX10_weigh_63 : decode cX10_weigh 63 = .ok (.iadd, 1) := by decide +kernel
theorem dX10_weigh_64 : decode cX10_weigh 64 = .ok (.sipush 20000, 3) := by decide +kernel
theorem dX10_weigh_67 : decode cX10_weigh 67 = .ok (.if_icmp .le 6, 3) := by decide +kernel
theorem dX10_weigh_70 : decode cX10_weigh 70 = .ok (.bipush (-6), 2) := by decide +kernel
theorem dX10_weigh_72 : decode cX10_weigh 72 = .ok (.ireturn, 1) := by decide +kernel
theorem dX10_weigh_73 : decode cX10_weigh 73 = .ok (.aload_n 0, 1) := by decide +kernel
theorem dX10_weigh_74 : decode cX10_weigh 74 = .ok (.iload_n 1, 1) := by decide +kernel
theorem dX10_weigh_75 : decode cX10_weigh 75 = .ok (.iload_n 2, 1) := by decide +kernel
theorem dX10_weigh_76 : decode cX10_weigh 76 = .ok (.iload_n 3, 1) := by decide +kernel
theorem dX10_weigh_77 : decode cX10_weigh 77 = .ok (.invokevirtual 171, 3) := by decide +kernel
theorem dX10_weigh_80 : decode cX10_weigh 80 = .ok (.aload_n 0, 1) := by decide +kernel
theorem dX10_weigh_81 : decode cX10_weigh 81 = .ok (.iload_n 1, 1) := by decide +kernel
theorem dX10_weigh_82 : decode cX10_weigh 82 = .ok (.invokevirtual 168, 3) := by decide +kernel
theorem dX10_weigh_85 : decode cX10_weigh 85 = .ok (.ireturn, 1) := by decide +kernel
theorem dX10_brew_0 : decode cX10_brew 0 = .ok (.aload_n 0, 1) := by decide +kernel
theorem dX10_brew_1 : decode cX10_brew 1 = .ok (.iload_n 1, 1) := by decide +kernel
theorem dX10_brew_2 : decode cX10_brew 2 = .ok (.invokevirtual 165, 3) := by decide +kernel
theorem dX10_brew_5 : decode cX10_brew 5 = .ok (.ifCond .eq 17, 3) := by decide +kernel
theorem dX10_brew_8 : decode cX10_brew 8 = .ok (.iload_n 2, 1) := by decide +kernel
theorem dX10_brew_9 : decode cX10_brew 9 = .ok (.iconst 0, 1) := by decide +kernel
theorem dX10_brew_10 : decode cX10_brew 10 = .ok (.aload_n 0, 1) := by decide +kernel
theorem dX10_brew_11 : decode cX10_brew 11 = .ok (.getfield 158, 3) := by decide +kernel
theorem dX10_brew_14 : decode cX10_brew 14 = .ok (.iconst 1, 1) := by decide +kernel
theorem dX10_brew_15 : decode cX10_brew 15 = .ok (.isub, 1) := by decide +kernel
theorem dX10_brew_16 : decode cX10_brew 16 = .ok (.invokestatic 133, 3) := by decide +kernel
theorem dX10_brew_19 : decode cX10_brew 19 = .ok (.ifCond .ne 6, 3) := by decide +kernel
theorem dX10_brew_22 : decode cX10_brew 22 = .ok (.bipush (-2), 2) := by decide +kernel
theorem dX10_brew_24 : decode cX10_brew 24 = .ok (.ireturn, 1) := by decide +kernel
theorem dX10_brew_25 : decode cX10_brew 25 = .ok (.iload_n 3, 1) := by decide +kernel
theorem dX10_brew_26 : decode cX10_brew 26 = .ok (.iconst 1, 1) := by decide +kernel
theorem dX10_brew_27 : decode cX10_brew 27 = .ok (.bipush 100, 2) := by decide +kernel
theorem dX10_brew_29 : decode cX10_brew 29 = .ok (.invokestatic 133, 3) := by decide +kernel
theorem dX10_brew_32 : decode cX10_brew 32 = .ok (.ifCond .ne 6, 3) := by decide +kernel
theorem dX10_brew_35 : decode cX10_brew 35 = .ok (.bipush (-3), 2) := by decide +kernel
theorem dX10_brew_37 : decode cX10_brew 37 = .ok (.ireturn, 1) := by decide +kernel
theorem dX10_brew_38 : decode cX10_brew 38 = .ok (.iconst 0, 1) := by decide +kernel
theorem dX10_brew_39 : decode cX10_brew 39 = .ok (.istore 4, 2) := by decide +kernel
theorem dX10_brew_41 : decode cX10_brew 41 = .ok (.iconst 0, 1) := by decide +kernel
theorem dX10_brew_42 : decode cX10_brew 42 = .ok (.istore 5, 2) := by decide +kernel
theorem dX10_brew_44 : decode cX10_brew 44 = .ok (.iconst 0, 1) := by decide +kernel
theorem dX10_brew_45 : decode cX10_brew 45 = .ok (.istore 6, 2) := by decide +kernel
theorem dX10_brew_47 : decode cX10_brew 47 = .ok (.iload 6, 2) := by decide +kernel
theorem dX10_brew_49 : decode cX10_brew 49 = .ok (.bipush 8, 2) := by decide +kernel
theorem dX10_brew_51 : decode cX10_brew 51 = .ok (.if_icmp .ge 60, 3) := by decide +kernel
theorem dX10_brew_54 : decode cX10_brew 54 = .ok (.iload_n 3, 1) := by decide +kernel
theorem dX10_brew_55 : decode cX10_brew 55 = .ok (.aload_n 0, 1) := by decide +kernel
theorem dX10_brew_56 : decode cX10_brew 56 = .ok (.getfield 38, 3) := by decide +kernel
theorem dX10_brew_59 : decode cX10_brew 59 = .ok (.bipush 8, 2) := by decide +kernel
theorem dX10_brew_61 : decode cX10_brew 61 = .ok (.iload_n 2, 1) := by decide +kernel
theorem dX10_brew_62 : decode cX10_brew 62 = .ok (.imul, 1) := by decide +kernel
theorem dX10_brew_63 : decode cX10_brew 63 = .ok (.iload 6, 2) := by decide +kernel
theorem dX10_brew_65 : decode cX10_brew 65 = .ok (.iadd, 1) := by decide +kernel
theorem dX10_brew_66 : decode cX10_brew 66 = .ok (.iaload, 1) := by decide +kernel
theorem dX10_brew_67 : decode cX10_brew 67 = .ok (.imul, 1) := by decide +kernel
theorem dX10_brew_68 : decode cX10_brew 68 = .ok (.istore 7, 2) := by decide +kernel
theorem dX10_brew_70 : decode cX10_brew 70 = .ok (.iload 4, 2) := by decide +kernel
theorem dX10_brew_72 : decode cX10_brew 72 = .ok (.iload 7, 2) := by decide +kernel
theorem dX10_brew_74 : decode cX10_brew 74 = .ok (.iadd, 1) := by decide +kernel
theorem dX10_brew_75 : decode cX10_brew 75 = .ok (.istore 4, 2) := by decide +kernel
theorem dX10_brew_77 : decode cX10_brew 77 = .ok (.iload 5, 2) := by decide +kernel
theorem dX10_brew_79 : decode cX10_brew 79 = .ok (.ifCond .ne 19, 3) := by decide +kernel
theorem dX10_brew_82 : decode cX10_brew 82 = .ok (.iload 7, 2) := by decide +kernel
theorem dX10_brew_84 : decode cX10_brew 84 = .ok (.ifCond .le 18, 3) := by decide +kernel
theorem dX10_brew_87 : decode cX10_brew 87 = .ok (.aload_n 0, 1) := by decide +kernel
theorem dX10_brew_88 : decode cX10_brew 88 = .ok (.iload 6, 2) := by decide +kernel
theorem dX10_brew_90 : decode cX10_brew 90 = .ok (.invokevirtual 154, 3) := by decide +kernel
theorem dX10_brew_93 : decode cX10_brew 93 = .ok (.iload 7, 2) := by decide +kernel
theorem dX10_brew_95 : decode cX10_brew 95 = .ok (.if_icmp .ge 7, 3) := by decide +kernel
theorem dX10_brew_98 : decode cX10_brew 98 = .ok (.iconst 1, 1) := by decide +kernel
theorem dX10_brew_99 : decode cX10_brew 99 = .ok (.goto 4, 3) := by decide +kernel
theorem dX10_brew_102 : decode cX10_brew 102 = .ok (.iconst 0, 1) := by decide +kernel
theorem dX10_brew_103 : decode cX10_brew 103 = .ok (.istore 5, 2) := by decide +kernel
theorem dX10_brew_105 : decode cX10_brew 105 = .ok (.iinc 6 1, 3) := by decide +kernel
theorem dX10_brew_108 : decode cX10_brew 108 = .ok (.goto (-61), 3) := by decide +kernel
theorem dX10_brew_111 : decode cX10_brew 111 = .ok (.aload_n 0, 1) := by decide +kernel
theorem dX10_brew_112 : decode cX10_brew 112 = .ok (.getfield 51, 3) := by decide +kernel
theorem dX10_brew_115 : decode cX10_brew 115 = .ok (.iload_n 1, 1) := by decide +kernel
theorem dX10_brew_116 : decode cX10_brew 116 = .ok (.baload, 1) := by decide +kernel
theorem dX10_brew_117 : decode cX10_brew 117 = .ok (.ifCond .ne 8, 3) := by decide +kernel
theorem dX10_brew_120 : decode cX10_brew 120 = .ok (.iload 4, 2) := by decide +kernel
theorem dX10_brew_122 : decode cX10_brew 122 = .ok (.ifCond .ne 6, 3) := by decide +kernel
theorem dX10_brew_125 : decode cX10_brew 125 = .ok (.bipush (-4), 2) := by decide +kernel
theorem dX10_brew_127 : decode cX10_brew 127 = .ok (.ireturn, 1) := by decide +kernel
theorem dX10_brew_128 : decode cX10_brew 128 = .ok (.iload 5, 2) := by decide +kernel
theorem dX10_brew_130 : decode cX10_brew 130 = .ok (.ifCond .eq 6, 3) := by decide +kernel
theorem dX10_brew_133 : decode cX10_brew 133 = .ok (.bipush (-5), 2) := by decide +kernel
theorem dX10_brew_135 : decode cX10_brew 135 = .ok (.ireturn, 1) := by decide +kernel
theorem dX10_brew_136 : decode cX10_brew 136 = .ok (.aload_n 0, 1) := by decide +kernel
theorem dX10_brew_137 : decode cX10_brew 137 = .ok (.iload_n 1, 1) := by decide +kernel
theorem dX10_brew_138 : decode cX10_brew 138 = .ok (.invokevirtual 168, 3) := by decide +kernel
theorem dX10_brew_141 : decode cX10_brew 141 = .ok (.iload 4, 2) := by decide +kernel
theorem dX10_brew_143 : decode cX10_brew 143 = .ok (.iadd, 1) := by decide +kernel
theorem dX10_brew_144 : decode cX10_brew 144 = .ok (.sipush 20000, 3) := by decide +kernel
theorem dX10_brew_147 : decode cX10_brew 147 = .ok (.if_icmp .le 6, 3) := by decide +kernel
theorem dX10_brew_150 : decode cX10_brew 150 = .ok (.bipush (-6), 2) := by decide +kernel
theorem dX10_brew_152 : decode cX10_brew 152 = .ok (.ireturn, 1) := by decide +kernel
theorem dX10_brew_153 : decode cX10_brew 153 = .ok (.iconst 0, 1) := by decide +kernel
theorem dX10_brew_154 : decode cX10_brew 154 = .ok (.istore 6, 2) := by decide +kernel
theorem dX10_brew_156 : decode cX10_brew 156 = .ok (.iload 6, 2) := by decide +kernel
theorem dX10_brew_158 : decode cX10_brew 158 = .ok (.bipush 8, 2) := by decide +kernel
theorem dX10_brew_160 : decode cX10_brew 160 = .ok (.if_icmp .ge 45, 3) := by decide +kernel
theorem dX10_brew_163 : decode cX10_brew 163 = .ok (.aload_n 0, 1) := by decide +kernel
theorem dX10_brew_164 : decode cX10_brew 164 = .ok (.getfield 38, 3) := by decide +kernel
theorem dX10_brew_167 : decode cX10_brew 167 = .ok (.bipush 8, 2) := by decide +kernel
theorem dX10_brew_169 : decode cX10_brew 169 = .ok (.iload_n 2, 1) := by decide +kernel
theorem dX10_brew_170 : decode cX10_brew 170 = .ok (.imul, 1) := by decide +kernel
theorem dX10_brew_171 : decode cX10_brew 171 = .ok (.iload 6, 2) := by decide +kernel
theorem dX10_brew_173 : decode cX10_brew 173 = .ok (.iadd, 1) := by decide +kernel
theorem dX10_brew_174 : decode cX10_brew 174 = .ok (.iaload, 1) := by decide +kernel
theorem dX10_brew_175 : decode cX10_brew 175 = .ok (.ifCond .le 24, 3) := by decide +kernel
theorem dX10_brew_178 : decode cX10_brew 178 = .ok (.aload_n 0, 1) := by decide +kernel
theorem dX10_brew_179 : decode cX10_brew 179 = .ok (.iload_n 1, 1) := by decide +kernel
theorem dX10_brew_180 : decode cX10_brew 180 = .ok (.iload 6, 2) := by decide +kernel
theorem dX10_brew_182 : decode cX10_brew 182 = .ok (.iload_n 3, 1) := by decide +kernel
theorem dX10_brew_183 : decode cX10_brew 183 = .ok (.aload_n 0, 1) := by decide +kernel
theorem dX10_brew_184 : decode cX10_brew 184 = .ok (.getfield 38, 3) := by decide +kernel
theorem dX10_brew_187 : decode cX10_brew 187 = .ok (.bipush 8, 2) := by decide +kernel
theorem dX10_brew_189 : decode cX10_brew 189 = .ok (.iload_n 2, 1) := by decide +kernel
theorem dX10_brew_190 : decode cX10_brew 190 = .ok (.imul, 1) := by decide +kernel
theorem dX10_brew_191 : decode cX10_brew 191 = .ok (.iload 6, 2) := by decide +kernel
theorem dX10_brew_193 : decode cX10_brew 193 = .ok (.iadd, 1) := by decide +kernel
theorem dX10_brew_194 : decode cX10_brew 194 = .ok (.iaload, 1) := by decide +kernel
theorem dX10_brew_195 : decode cX10_brew 195 = .ok (.imul, 1) := by decide +kernel
theorem dX10_brew_196 : decode cX10_brew 196 = .ok (.invokevirtual 171, 3) := by decide +kernel
theorem dX10_brew_199 : decode cX10_brew 199 = .ok (.iinc 6 1, 3) := by decide +kernel
theorem dX10_brew_202 : decode cX10_brew 202 = .ok (.goto (-46), 3) := by decide +kernel
theorem dX10_brew_205 : decode cX10_brew 205 = .ok (.aload_n 0, 1) := by decide +kernel
theorem dX10_brew_206 : decode cX10_brew 206 = .ok (.iload_n 1, 1) := by decide +kernel
theorem dX10_brew_207 : decode cX10_brew 207 = .ok (.invokevirtual 168, 3) := by decide +kernel
theorem dX10_brew_210 : decode cX10_brew 210 = .ok (.ireturn, 1) := by decide +kernel
theorem dX10_shadeOf_0 : decode cX10_shadeOf 0 = .ok (.lconst 0, 1) := by decide +kernel
theorem dX10_shadeOf_1 : decode cX10_shadeOf 1 = .ok (.lstore 5, 2) := by decide +kernel
theorem dX10_shadeOf_3 : decode cX10_shadeOf 3 = .ok (.lconst 0, 1) := by decide +kernel
theorem dX10_shadeOf_4 : decode cX10_shadeOf 4 = .ok (.lstore 7, 2) := by decide +kernel
theorem dX10_shadeOf_6 : decode cX10_shadeOf 6 = .ok (.iconst 0, 1) := by decide +kernel
theorem dX10_shadeOf_7 : decode cX10_shadeOf 7 = .ok (.istore 9, 2) := by decide +kernel
theorem dX10_shadeOf_9 : decode cX10_shadeOf 9 = .ok (.iload 9, 2) := by decide +kernel
theorem dX10_shadeOf_11 : decode cX10_shadeOf 11 = .ok (.bipush 8, 2) := by decide +kernel
theorem dX10_shadeOf_13 : decode cX10_shadeOf 13 = .ok (.if_icmp .ge 67, 3) := by decide +kernel
theorem dX10_shadeOf_16 : decode cX10_shadeOf 16 = .ok (.aload_n 1, 1) := by decide +kernel
theorem dX10_shadeOf_17 : decode cX10_shadeOf 17 = .ok (.iload_n 2, 1) := by decide +kernel
theorem dX10_shadeOf_18 : decode cX10_shadeOf 18 = .ok (.iload 9, 2) := by decide +kernel
theorem dX10_shadeOf_20 : decode cX10_shadeOf 20 = .ok (.iadd, 1) := by decide +kernel
theorem dX10_shadeOf_21 : decode cX10_shadeOf 21 = .ok (.iaload, 1) := by decide +kernel
theorem dX10_shadeOf_22 : decode cX10_shadeOf 22 = .ok (.aload_n 3, 1) := by decide +kernel
theorem dX10_shadeOf_23 : decode cX10_shadeOf 23 = .ok (.iload 9, 2) := by decide +kernel
theorem dX10_shadeOf_25 : decode cX10_shadeOf 25 = .ok (.iaload, 1) := by decide +kernel
theorem dX10_shadeOf_26 : decode cX10_shadeOf 26 = .ok (.iadd, 1) := by decide +kernel
theorem dX10_shadeOf_27 : decode cX10_shadeOf 27 = .ok (.i2l, 1) := by decide +kernel
theorem dX10_shadeOf_28 : decode cX10_shadeOf 28 = .ok (.lstore 10, 2) := by decide +kernel
theorem dX10_shadeOf_30 : decode cX10_shadeOf 30 = .ok (.lload 5, 2) := by decide +kernel
theorem dX10_shadeOf_32 : decode cX10_shadeOf 32 = .ok (.lload 10, 2) := by decide +kernel
theorem dX10_shadeOf_34 : decode cX10_shadeOf 34 = .ok (.aload_n 0, 1) := by decide +kernel
theorem dX10_shadeOf_35 : decode cX10_shadeOf 35 = .ok (.getfield 7, 3) := by decide +kernel
theorem dX10_shadeOf_38 : decode cX10_shadeOf 38 = .ok (.bipush 8, 2) := by decide +kernel
theorem dX10_shadeOf_40 : decode cX10_shadeOf 40 = .ok (.iload 4, 2) := by decide +kernel
theorem dX10_shadeOf_42 : decode cX10_shadeOf 42 = .ok (.imul, 1) := by decide +kernel
theorem dX10_shadeOf_43 : decode cX10_shadeOf 43 = .ok (.iload 9, 2) := by decide +kernel
theorem dX10_shadeOf_45 : decode cX10_shadeOf 45 = .ok (.iadd, 1) := by decide +kernel
theorem dX10_shadeOf_46 : decode cX10_shadeOf 46 = .ok (.iaload, 1) := by decide +kernel
theorem dX10_shadeOf_47 : decode cX10_shadeOf 47 = .ok (.i2l, 1) := by decide +kernel
theorem dX10_shadeOf_48 : decode cX10_shadeOf 48 = .ok (.lmul, 1) := by decide +kernel
theorem dX10_shadeOf_49 : decode cX10_shadeOf 49 = .ok (.ladd, 1) := by decide +kernel
theorem dX10_shadeOf_50 : decode cX10_shadeOf 50 = .ok (.lstore 5, 2) := by decide +kernel
theorem dX10_shadeOf_52 : decode cX10_shadeOf 52 = .ok (.lload 7, 2) := by decide +kernel
theorem dX10_shadeOf_54 : decode cX10_shadeOf 54 = .ok (.lload 10, 2) := by decide +kernel
theorem dX10_shadeOf_56 : decode cX10_shadeOf 56 = .ok (.aload_n 0, 1) := by decide +kernel
theorem dX10_shadeOf_57 : decode cX10_shadeOf 57 = .ok (.getfield 13, 3) := by decide +kernel
theorem dX10_shadeOf_60 : decode cX10_shadeOf 60 = .ok (.bipush 8, 2) := by decide +kernel
theorem dX10_shadeOf_62 : decode cX10_shadeOf 62 = .ok (.iload 4, 2) := by decide +kernel
theorem dX10_shadeOf_64 : decode cX10_shadeOf 64 = .ok (.imul, 1) := by decide +kernel
theorem dX10_shadeOf_65 : decode cX10_shadeOf 65 = .ok (.iload 9, 2) := by decide +kernel
theorem dX10_shadeOf_67 : decode cX10_shadeOf 67 = .ok (.iadd, 1) := by decide +kernel
theorem dX10_shadeOf_68 : decode cX10_shadeOf 68 = .ok (.iaload, 1) := by decide +kernel
theorem dX10_shadeOf_69 : decode cX10_shadeOf 69 = .ok (.i2l, 1) := by decide +kernel
theorem dX10_shadeOf_70 : decode cX10_shadeOf 70 = .ok (.lmul, 1) := by decide +kernel
theorem dX10_shadeOf_71 : decode cX10_shadeOf 71 = .ok (.ladd, 1) := by decide +kernel
theorem dX10_shadeOf_72 : decode cX10_shadeOf 72 = .ok (.lstore 7, 2) := by decide +kernel
theorem dX10_shadeOf_74 : decode cX10_shadeOf 74 = .ok (.iinc 9 1, 3) := by decide +kernel
theorem dX10_shadeOf_77 : decode cX10_shadeOf 77 = .ok (.goto (-68), 3) := by decide +kernel
theorem dX10_shadeOf_80 : decode cX10_shadeOf 80 = .ok (.lload 7, 2) := by decide +kernel
theorem dX10_shadeOf_82 : decode cX10_shadeOf 82 = .ok (.lconst 0, 1) := by decide +kernel
theorem dX10_shadeOf_83 : decode cX10_shadeOf 83 = .ok (.lcmp, 1) := by decide +kernel
theorem dX10_shadeOf_84 : decode cX10_shadeOf 84 = .ok (.ifCond .ne 6, 3) := by decide +kernel
theorem dX10_shadeOf_87 : decode cX10_shadeOf 87 = .ok (.ldc 175, 2) := by decide +kernel
theorem dX10_shadeOf_89 : decode cX10_shadeOf 89 = .ok (.ireturn, 1) := by decide +kernel
theorem dX10_shadeOf_90 : decode cX10_shadeOf 90 = .ok (.ldc2_w 176, 3) := by decide +kernel
theorem dX10_shadeOf_93 : decode cX10_shadeOf 93 = .ok (.lload 5, 2) := by decide +kernel
theorem dX10_shadeOf_95 : decode cX10_shadeOf 95 = .ok (.lmul, 1) := by decide +kernel
theorem dX10_shadeOf_96 : decode cX10_shadeOf 96 = .ok (.lload 7, 2) := by decide +kernel
theorem dX10_shadeOf_98 : decode cX10_shadeOf 98 = .ok (.ldiv, 1) := by decide +kernel
theorem dX10_shadeOf_99 : decode cX10_shadeOf 99 = .ok (.lstore 9, 2) := by decide +kernel
theorem dX10_shadeOf_101 : decode cX10_shadeOf 101 = .ok (.lload 9, 2) := by decide +kernel
theorem dX10_shadeOf_103 : decode cX10_shadeOf 103 = .ok (.ldc2_w 178, 3) := by decide +kernel
theorem dX10_shadeOf_106 : decode cX10_shadeOf 106 = .ok (.lcmp, 1) := by decide +kernel
theorem dX10_shadeOf_107 : decode cX10_shadeOf 107 = .ok (.ifCond .le 8, 3) := by decide +kernel
theorem dX10_shadeOf_110 : decode cX10_shadeOf 110 = .ok (.ldc 175, 2) := by decide +kernel
theorem dX10_shadeOf_112 : decode cX10_shadeOf 112 = .ok (.goto 6, 3) := by decide +kernel
theorem dX10_shadeOf_115 : decode cX10_shadeOf 115 = .ok (.lload 9, 2) := by decide +kernel
theorem dX10_shadeOf_117 : decode cX10_shadeOf 117 = .ok (.l2i, 1) := by decide +kernel
theorem dX10_shadeOf_118 : decode cX10_shadeOf 118 = .ok (.ireturn, 1) := by decide +kernel
theorem dX10_missOf_0 : decode cX10_missOf 0 = .ok (.iconst 0, 1) := by decide +kernel
theorem dX10_missOf_1 : decode cX10_missOf 1 = .ok (.istore 6, 2) := by decide +kernel
theorem dX10_missOf_3 : decode cX10_missOf 3 = .ok (.iconst 0, 1) := by decide +kernel
theorem dX10_missOf_4 : decode cX10_missOf 4 = .ok (.istore 7, 2) := by decide +kernel
theorem dX10_missOf_6 : decode cX10_missOf 6 = .ok (.iload 7, 2) := by decide +kernel
theorem dX10_missOf_8 : decode cX10_missOf 8 = .ok (.iconst 3, 1) := by decide +kernel
theorem dX10_missOf_9 : decode cX10_missOf 9 = .ok (.if_icmp .ge 80, 3) := by decide +kernel
theorem dX10_missOf_12 : decode cX10_missOf 12 = .ok (.aload_n 0, 1) := by decide +kernel
theorem dX10_missOf_13 : decode cX10_missOf 13 = .ok (.aload_n 0, 1) := by decide +kernel
theorem dX10_missOf_14 : decode cX10_missOf 14 = .ok (.getfield 44, 3) := by decide +kernel
theorem dX10_missOf_17 : decode cX10_missOf 17 = .ok (.bipush 8, 2) := by decide +kernel
theorem dX10_missOf_19 : decode cX10_missOf 19 = .ok (.iload_n 1, 1) := by decide +kernel
theorem dX10_missOf_20 : decode cX10_missOf 20 = .ok (.imul, 1) := by decide +kernel
theorem dX10_missOf_21 : decode cX10_missOf 21 = .ok (.aload_n 2, 1) := by decide +kernel
theorem dX10_missOf_22 : decode cX10_missOf 22 = .ok (.iload 7, 2) := by decide +kernel
theorem dX10_missOf_24 : decode cX10_missOf 24 = .ok (.invokevirtual 180, 3) := by decide +kernel
theorem dX10_missOf_27 : decode cX10_missOf 27 = .ok (.iload 7, 2) := by decide +kernel
theorem dX10_missOf_29 : decode cX10_missOf 29 = .ok (.ifCond .ne 7, 3) := by decide +kernel
theorem dX10_missOf_32 : decode cX10_missOf 32 = .ok (.iload_n 3, 1) := by decide +kernel
theorem dX10_missOf_33 : decode cX10_missOf 33 = .ok (.goto 16, 3) := by decide +kernel
theorem dX10_missOf_36 : decode cX10_missOf 36 = .ok (.iload 7, 2) := by decide +kernel
theorem dX10_missOf_38 : decode cX10_missOf 38 = .ok (.iconst 1, 1) := by decide +kernel
theorem dX10_missOf_39 : decode cX10_missOf 39 = .ok (.if_icmp .ne 8, 3) := by decide +kernel
theorem dX10_missOf_42 : decode cX10_missOf 42 = .ok (.iload 4, 2) := by decide +kernel
theorem dX10_missOf_44 : decode cX10_missOf 44 = .ok (.goto 5, 3) := by decide +kernel
theorem dX10_missOf_47 : decode cX10_missOf 47 = .ok (.iload 5, 2) := by decide +kernel
theorem dX10_missOf_49 : decode cX10_missOf 49 = .ok (.isub, 1) := by decide +kernel
theorem dX10_missOf_50 : decode cX10_missOf 50 = .ok (.istore 8, 2) := by decide +kernel
theorem dX10_missOf_52 : decode cX10_missOf 52 = .ok (.iload 8, 2) := by decide +kernel
theorem dX10_missOf_54 : decode cX10_missOf 54 = .ok (.ifCond .ge 9, 3) := by decide +kernel
theorem dX10_missOf_57 : decode cX10_missOf 57 = .ok (.iload 8, 2) := by decide +kernel
theorem dX10_missOf_59 : decode cX10_missOf 59 = .ok (.ineg, 1) := by decide +kernel
theorem dX10_missOf_60 : decode cX10_missOf 60 = .ok (.goto 5, 3) := by decide +kernel
theorem dX10_missOf_63 : decode cX10_missOf 63 = .ok (.iload 8, 2) := by decide +kernel
theorem dX10_missOf_65 : decode cX10_missOf 65 = .ok (.istore 8, 2) := by decide +kernel
theorem dX10_missOf_67 : decode cX10_missOf 67 = .ok (.iload 8, 2) := by decide +kernel
theorem dX10_missOf_69 : decode cX10_missOf 69 = .ok (.iload 6, 2) := by decide +kernel
theorem dX10_missOf_71 : decode cX10_missOf 71 = .ok (.if_icmp .le 8, 3) := by decide +kernel
theorem dX10_missOf_74 : decode cX10_missOf 74 = .ok (.iload 8, 2) := by decide +kernel
theorem dX10_missOf_76 : decode cX10_missOf 76 = .ok (.goto 5, 3) := by decide +kernel
theorem dX10_missOf_79 : decode cX10_missOf 79 = .ok (.iload 6, 2) := by decide +kernel
theorem dX10_missOf_81 : decode cX10_missOf 81 = .ok (.istore 6, 2) := by decide +kernel
theorem dX10_missOf_83 : decode cX10_missOf 83 = .ok (.iinc 7 1, 3) := by decide +kernel
theorem dX10_missOf_86 : decode cX10_missOf 86 = .ok (.goto (-80), 3) := by decide +kernel
theorem dX10_missOf_89 : decode cX10_missOf 89 = .ok (.iload 6, 2) := by decide +kernel
theorem dX10_missOf_91 : decode cX10_missOf 91 = .ok (.ireturn, 1) := by decide +kernel
theorem dX10_isAim_0 : decode cX10_isAim 0 = .ok (.iload_n 0, 1) := by decide +kernel
theorem dX10_isAim_1 : decode cX10_isAim 1 = .ok (.iconst 0, 1) := by decide +kernel
theorem dX10_isAim_2 : decode cX10_isAim 2 = .ok (.ldc 175, 2) := by decide +kernel
theorem dX10_isAim_4 : decode cX10_isAim 4 = .ok (.invokestatic 133, 3) := by decide +kernel
theorem dX10_isAim_7 : decode cX10_isAim 7 = .ok (.ifCond .eq 27, 3) := by decide +kernel
theorem dX10_isAim_10 : decode cX10_isAim 10 = .ok (.iload_n 1, 1) := by decide +kernel
theorem dX10_isAim_11 : decode cX10_isAim 11 = .ok (.iconst 0, 1) := by decide +kernel
theorem dX10_isAim_12 : decode cX10_isAim 12 = .ok (.ldc 175, 2) := by decide +kernel
theorem dX10_isAim_14 : decode cX10_isAim 14 = .ok (.invokestatic 133, 3) := by decide +kernel
theorem dX10_isAim_17 : decode cX10_isAim 17 = .ok (.ifCond .eq 17, 3) := by decide +kernel
theorem dX10_isAim_20 : decode cX10_isAim 20 = .ok (.iload_n 2, 1) := by decide +kernel
theorem dX10_isAim_21 : decode cX10_isAim 21 = .ok (.iconst 0, 1) := by decide +kernel
theorem dX10_isAim_22 : decode cX10_isAim 22 = .ok (.ldc 175, 2) := by decide +kernel
theorem dX10_isAim_24 : decode cX10_isAim 24 = .ok (.invokestatic 133, 3) := by decide +kernel
theorem dX10_isAim_27 : decode cX10_isAim 27 = .ok (.ifCond .eq 7, 3) := by decide +kernel
theorem dX10_isAim_30 : decode cX10_isAim 30 = .ok (.iconst 1, 1) := by decide +kernel
theorem dX10_isAim_31 : decode cX10_isAim 31 = .ok (.goto 4, 3) := by decide +kernel
theorem dX10_isAim_34 : decode cX10_isAim 34 = .ok (.iconst 0, 1) := by decide +kernel
theorem dX10_isAim_35 : decode cX10_isAim 35 = .ok (.ireturn, 1) := by decide +kernel
theorem dX10_hasNext_0 : decode cX10_hasNext 0 = .ok (.iconst 0, 1) := by decide +kernel
theorem dX10_hasNext_1 : decode cX10_hasNext 1 = .ok (.istore_n 3, 1) := by decide +kernel
theorem dX10_hasNext_2 : decode cX10_hasNext 2 = .ok (.iconst 0, 1) := by decide +kernel
theorem dX10_hasNext_3 : decode cX10_hasNext 3 = .ok (.istore 4, 2) := by decide +kernel
theorem dX10_hasNext_5 : decode cX10_hasNext 5 = .ok (.iload 4, 2) := by decide +kernel
theorem dX10_hasNext_7 : decode cX10_hasNext 7 = .ok (.aload_n 0, 1) := by decide +kernel
theorem dX10_hasNext_8 : decode cX10_hasNext 8 = .ok (.getfield 130, 3) := by decide +kernel
theorem dX10_hasNext_11 : decode cX10_hasNext 11 = .ok (.if_icmp .ge 19, 3) := by decide +kernel
theorem dX10_hasNext_14 : decode cX10_hasNext 14 = .ok (.iload_n 3, 1) := by decide +kernel
theorem dX10_hasNext_15 : decode cX10_hasNext 15 = .ok (.aload_n 0, 1) := by decide +kernel
theorem dX10_hasNext_16 : decode cX10_hasNext 16 = .ok (.getfield 57, 3) := by decide +kernel
theorem dX10_hasNext_19 : decode cX10_hasNext 19 = .ok (.iload 4, 2) := by decide +kernel
theorem dX10_hasNext_21 : decode cX10_hasNext 21 = .ok (.iaload, 1) := by decide +kernel
theorem dX10_hasNext_22 : decode cX10_hasNext 22 = .ok (.iadd, 1) := by decide +kernel
theorem dX10_hasNext_23 : decode cX10_hasNext 23 = .ok (.istore_n 3, 1) := by decide +kernel
theorem dX10_hasNext_24 : decode cX10_hasNext 24 = .ok (.iinc 4 1, 3) := by decide +kernel
theorem dX10_hasNext_27 : decode cX10_hasNext 27 = .ok (.goto (-22), 3) := by decide +kernel
theorem dX10_hasNext_30 : decode cX10_hasNext 30 = .ok (.aload_n 0, 1) := by decide +kernel
theorem dX10_hasNext_31 : decode cX10_hasNext 31 = .ok (.getfield 130, 3) := by decide +kernel
theorem dX10_hasNext_34 : decode cX10_hasNext 34 = .ok (.iconst 1, 1) := by decide +kernel
theorem dX10_hasNext_35 : decode cX10_hasNext 35 = .ok (.isub, 1) := by decide +kernel
theorem dX10_hasNext_36 : decode cX10_hasNext 36 = .ok (.istore 4, 2) := by decide +kernel
theorem dX10_hasNext_38 : decode cX10_hasNext 38 = .ok (.iload 4, 2) := by decide +kernel
theorem dX10_hasNext_40 : decode cX10_hasNext 40 = .ok (.ifCond .lt 59, 3) := by decide +kernel
theorem dX10_hasNext_43 : decode cX10_hasNext 43 = .ok (.iload_n 3, 1) := by decide +kernel
theorem dX10_hasNext_44 : decode cX10_hasNext 44 = .ok (.iload_n 2, 1) := by decide +kernel
theorem dX10_hasNext_45 : decode cX10_hasNext 45 = .ok (.if_icmp .ge 30, 3) := by decide +kernel
theorem dX10_hasNext_48 : decode cX10_hasNext 48 = .ok (.aload_n 0, 1) := by decide +kernel
theorem dX10_hasNext_49 : decode cX10_hasNext 49 = .ok (.getfield 57, 3) := by decide +kernel
theorem dX10_hasNext_52 : decode cX10_hasNext 52 = .ok (.iload 4, 2) := by decide +kernel
theorem dX10_hasNext_54 : decode cX10_hasNext 54 = .ok (.iaload, 1) := by decide +kernel
theorem dX10_hasNext_55 : decode cX10_hasNext 55 = .ok (.aload_n 1, 1) := by decide +kernel
theorem dX10_hasNext_56 : decode cX10_hasNext 56 = .ok (.iload 4, 2) := by decide +kernel
theorem dX10_hasNext_58 : decode cX10_hasNext 58 = .ok (.iaload, 1) := by decide +kernel
theorem dX10_hasNext_59 : decode cX10_hasNext 59 = .ok (.if_icmp .ge 16, 3) := by decide +kernel
theorem dX10_hasNext_62 : decode cX10_hasNext 62 = .ok (.aload_n 0, 1) := by decide +kernel
theorem dX10_hasNext_63 : decode cX10_hasNext 63 = .ok (.getfield 57, 3) := by decide +kernel
theorem dX10_hasNext_66 : decode cX10_hasNext 66 = .ok (.iload 4, 2) := by decide +kernel
theorem dX10_hasNext_68 : decode cX10_hasNext 68 = .ok (.dup2, 1) := by decide +kernel
theorem dX10_hasNext_69 : decode cX10_hasNext 69 = .ok (.iaload, 1) := by decide +kernel
theorem dX10_hasNext_70 : decode cX10_hasNext 70 = .ok (.iconst 1, 1) := by decide +kernel
theorem dX10_hasNext_71 : decode cX10_hasNext 71 = .ok (.iadd, 1) := by decide +kernel
theorem dX10_hasNext_72 : decode cX10_hasNext 72 = .ok (.iastore, 1) := by decide +kernel
theorem dX10_hasNext_73 : decode cX10_hasNext 73 = .ok (.iconst 1, 1) := by decide +kernel
theorem dX10_hasNext_74 : decode cX10_hasNext 74 = .ok (.ireturn, 1) := by decide +kernel
theorem dX10_hasNext_75 : decode cX10_hasNext 75 = .ok (.iload_n 3, 1) := by decide +kernel
theorem dX10_hasNext_76 : decode cX10_hasNext 76 = .ok (.aload_n 0, 1) := by decide +kernel
theorem dX10_hasNext_77 : decode cX10_hasNext 77 = .ok (.getfield 57, 3) := by decide +kernel
theorem dX10_hasNext_80 : decode cX10_hasNext 80 = .ok (.iload 4, 2) := by decide +kernel
theorem dX10_hasNext_82 : decode cX10_hasNext 82 = .ok (.iaload, 1) := by decide +kernel
theorem dX10_hasNext_83 : decode cX10_hasNext 83 = .ok (.isub, 1) := by decide +kernel
theorem dX10_hasNext_84 : decode cX10_hasNext 84 = .ok (.istore_n 3, 1) := by decide +kernel
theorem dX10_hasNext_85 : decode cX10_hasNext 85 = .ok (.aload_n 0, 1) := by decide +kernel
theorem dX10_hasNext_86 : decode cX10_hasNext 86 = .ok (.getfield 57, 3) := by decide +kernel
theorem dX10_hasNext_89 : decode cX10_hasNext 89 = .ok (.iload 4, 2) := by decide +kernel
theorem dX10_hasNext_91 : decode cX10_hasNext 91 = .ok (.iconst 0, 1) := by decide +kernel
theorem dX10_hasNext_92 : decode cX10_hasNext 92 = .ok (.iastore, 1) := by decide +kernel
theorem dX10_hasNext_93 : decode cX10_hasNext 93 = .ok (.iinc 4 (-1), 3) := by decide +kernel
theorem dX10_hasNext_96 : decode cX10_hasNext 96 = .ok (.goto (-58), 3) := by decide +kernel
theorem dX10_hasNext_99 : decode cX10_hasNext 99 = .ok (.iconst 0, 1) := by decide +kernel
theorem dX10_hasNext_100 : decode cX10_hasNext 100 = .ok (.ireturn, 1) := by decide +kernel
theorem dX10_drops_0 : decode cX10_drops 0 = .ok (.aload_n 0, 1) := by decide +kernel
theorem dX10_drops_1 : decode cX10_drops 1 = .ok (.iload_n 1, 1) := by decide +kernel
theorem dX10_drops_2 : decode cX10_drops 2 = .ok (.invokevirtual 165, 3) := by decide +kernel
theorem dX10_drops_5 : decode cX10_drops 5 = .ok (.ifCond .ne 6, 3) := by decide +kernel
theorem dX10_drops_8 : decode cX10_drops 8 = .ok (.bipush (-2), 2) := by decide +kernel
theorem dX10_drops_10 : decode cX10_drops 10 = .ok (.ireturn, 1) := by decide +kernel
theorem dX10_drops_11 : decode cX10_drops 11 = .ok (.iload_n 2, 1) := by decide +kernel
theorem dX10_drops_12 : decode cX10_drops 12 = .ok (.iconst 0, 1) := by decide +kernel
theorem dX10_drops_13 : decode cX10_drops 13 = .ok (.bipush 8, 2) := by decide +kernel
theorem dX10_drops_15 : decode cX10_drops 15 = .ok (.invokestatic 133, 3) := by decide +kernel
theorem dX10_drops_18 : decode cX10_drops 18 = .ok (.ifCond .eq 14, 3) := by decide +kernel
theorem dX10_drops_21 : decode cX10_drops 21 = .ok (.iload_n 3, 1) := by decide +kernel
theorem dX10_drops_22 : decode cX10_drops 22 = .ok (.iload 4, 2) := by decide +kernel
theorem dX10_drops_24 : decode cX10_drops 24 = .ok (.iload 5, 2) := by decide +kernel
theorem dX10_drops_26 : decode cX10_drops 26 = .ok (.invokestatic 184, 3) := by decide +kernel
theorem dX10_drops_29 : decode cX10_drops 29 = .ok (.ifCond .ne 6, 3) := by decide +kernel
theorem dX10_drops_32 : decode cX10_drops 32 = .ok (.bipush (-3), 2) := by decide +kernel
theorem dX10_drops_34 : decode cX10_drops 34 = .ok (.ireturn, 1) := by decide +kernel
theorem dX10_drops_35 : decode cX10_drops 35 = .ok (.aload_n 0, 1) := by decide +kernel
theorem dX10_drops_36 : decode cX10_drops 36 = .ok (.iload_n 1, 1) := by decide +kernel
theorem dX10_drops_37 : decode cX10_drops 37 = .ok (.invokevirtual 168, 3) := by decide +kernel
theorem dX10_drops_40 : decode cX10_drops 40 = .ok (.istore 6, 2) := by decide +kernel
theorem dX10_drops_42 : decode cX10_drops 42 = .ok (.aload_n 0, 1) := by decide +kernel
theorem dX10_drops_43 : decode cX10_drops 43 = .ok (.getfield 51, 3) := by decide +kernel
theorem dX10_drops_46 : decode cX10_drops 46 = .ok (.iload_n 1, 1) := by decide +kernel
theorem dX10_drops_47 : decode cX10_drops 47 = .ok (.baload, 1) := by decide +kernel
theorem dX10_drops_48 : decode cX10_drops 48 = .ok (.ifCond .ne 8, 3) := by decide +kernel
theorem dX10_drops_51 : decode cX10_drops 51 = .ok (.iload 6, 2) := by decide +kernel
theorem dX10_drops_53 : decode cX10_drops 53 = .ok (.ifCond .ne 6, 3) := by decide +kernel
theorem dX10_drops_56 : decode cX10_drops 56 = .ok (.bipush (-4), 2) := by decide +kernel
theorem dX10_drops_58 : decode cX10_drops 58 = .ok (.ireturn, 1) := by decide +kernel
theorem dX10_drops_59 : decode cX10_drops 59 = .ok (.sipush 20000, 3) := by decide +kernel
theorem dX10_drops_62 : decode cX10_drops 62 = .ok (.iload 6, 2) := by decide +kernel
theorem dX10_drops_64 : decode cX10_drops 64 = .ok (.isub, 1) := by decide +kernel
theorem dX10_drops_65 : decode cX10_drops 65 = .ok (.iload_n 2, 1) := by decide +kernel
theorem dX10_drops_66 : decode cX10_drops 66 = .ok (.if_icmp .ge 12, 3) := by decide +kernel
theorem dX10_drops_69 : decode cX10_drops 69 = .ok (.sipush 20000, 3) := by decide +kernel
theorem dX10_drops_72 : decode cX10_drops 72 = .ok (.iload 6, 2) := by decide +kernel
theorem dX10_drops_74 : decode cX10_drops 74 = .ok (.isub, 1) := by decide +kernel
theorem dX10_drops_75 : decode cX10_drops 75 = .ok (.goto 4, 3) := by decide +kernel
theorem dX10_drops_78 : decode cX10_drops 78 = .ok (.iload_n 2, 1) := by decide +kernel
theorem dX10_drops_79 : decode cX10_drops 79 = .ok (.istore 7, 2) := by decide +kernel
theorem dX10_drops_81 : decode cX10_drops 81 = .ok (.iconst 0, 1) := by decide +kernel
theorem dX10_drops_82 : decode cX10_drops 82 = .ok (.istore 8, 2) := by decide +kernel
theorem dX10_drops_84 : decode cX10_drops 84 = .ok (.iload 8, 2) := by decide +kernel
theorem dX10_drops_86 : decode cX10_drops 86 = .ok (.bipush 8, 2) := by decide +kernel
theorem dX10_drops_88 : decode cX10_drops 88 = .ok (.if_icmp .ge 43, 3) := by decide +kernel
theorem dX10_drops_91 : decode cX10_drops 91 = .ok (.aload_n 0, 1) := by decide +kernel
theorem dX10_drops_92 : decode cX10_drops 92 = .ok (.getfield 127, 3) := by decide +kernel
theorem dX10_drops_95 : decode cX10_drops 95 = .ok (.iload 8, 2) := by decide +kernel
theorem dX10_drops_97 : decode cX10_drops 97 = .ok (.iload 8, 2) := by decide +kernel
theorem dX10_drops_99 : decode cX10_drops 99 = .ok (.aload_n 0, 1) := by decide +kernel
theorem dX10_drops_100 : decode cX10_drops 100 = .ok (.getfield 130, 3) := by decide +kernel
theorem dX10_drops_103 : decode cX10_drops 103 = .ok (.if_icmp .ge 12, 3) := by decide +kernel
theorem dX10_drops_106 : decode cX10_drops 106 = .ok (.aload_n 0, 1) := by decide +kernel
theorem dX10_drops_107 : decode cX10_drops 107 = .ok (.iload 8, 2) := by decide +kernel
theorem dX10_drops_109 : decode cX10_drops 109 = .ok (.invokevirtual 154, 3) := by decide +kernel
theorem dX10_drops_112 : decode cX10_drops 112 = .ok (.goto 4, 3) := by decide +kernel
theorem dX10_drops_115 : decode cX10_drops 115 = .ok (.iconst 0, 1) := by decide +kernel
theorem dX10_drops_116 : decode cX10_drops 116 = .ok (.iastore, 1) := by decide +kernel
theorem dX10_drops_117 : decode cX10_drops 117 = .ok (.aload_n 0, 1) := by decide +kernel
theorem dX10_drops_118 : decode cX10_drops 118 = .ok (.getfield 57, 3) := by decide +kernel
theorem dX10_drops_121 : decode cX10_drops 121 = .ok (.iload 8, 2) := by decide +kernel
theorem dX10_drops_123 : decode cX10_drops 123 = .ok (.iconst 0, 1) := by decide +kernel
theorem dX10_drops_124 : decode cX10_drops 124 = .ok (.iastore, 1) := by decide +kernel
theorem dX10_drops_125 : decode cX10_drops 125 = .ok (.iinc 8 1, 3) := by decide +kernel
theorem dX10_drops_128 : decode cX10_drops 128 = .ok (.goto (-44), 3) := by decide +kernel
theorem dX10_drops_131 : decode cX10_drops 131 = .ok (.iconst (-1), 1) := by decide +kernel
theorem dX10_drops_132 : decode cX10_drops 132 = .ok (.istore 8, 2) := by decide +kernel
theorem dX10_drops_134 : decode cX10_drops 134 = .ok (.iconst 0, 1) := by decide +kernel
theorem dX10_drops_135 : decode cX10_drops 135 = .ok (.istore 9, 2) := by decide +kernel
theorem dX10_drops_137 : decode cX10_drops 137 = .ok (.iconst 1, 1) := by decide +kernel
theorem dX10_drops_138 : decode cX10_drops 138 = .ok (.istore 10, 2) := by decide +kernel
theorem dX10_drops_140 : decode cX10_drops 140 = .ok (.iload 10, 2) := by decide +kernel
theorem dX10_drops_142 : decode cX10_drops 142 = .ok (.ifCond .eq 130, 3) := by decide +kernel
theorem dX10_drops_145 : decode cX10_drops 145 = .ok (.aload_n 0, 1) := by decide +kernel
theorem dX10_drops_146 : decode cX10_drops 146 = .ok (.iload_n 1, 1) := by decide +kernel
theorem dX10_drops_147 : decode cX10_drops 147 = .ok (.aload_n 0, 1) := by decide +kernel
theorem dX10_drops_148 : decode cX10_drops 148 = .ok (.getfield 57, 3) := by decide +kernel
theorem dX10_drops_151 : decode cX10_drops 151 = .ok (.iload_n 3, 1) := by decide +kernel
theorem dX10_drops_152 : decode cX10_drops 152 = .ok (.iload 4, 2) := by decide +kernel
theorem dX10_drops_154 : decode cX10_drops 154 = .ok (.iload 5, 2) := by decide +kernel
theorem dX10_drops_156 : decode cX10_drops 156 = .ok (.invokevirtual 187, 3) := by decide +kernel
theorem dX10_drops_159 : decode cX10_drops 159 = .ok (.istore 11, 2) := by decide +kernel
theorem dX10_drops_161 : decode cX10_drops 161 = .ok (.iconst 0, 1) := by decide +kernel
theorem dX10_drops_162 : decode cX10_drops 162 = .ok (.istore 12, 2) := by decide +kernel
theorem dX10_drops_164 : decode cX10_drops 164 = .ok (.iconst 0, 1) := by decide +kernel
theorem dX10_drops_165 : decode cX10_drops 165 = .ok (.istore 13, 2) := by decide +kernel
theorem dX10_drops_167 : decode cX10_drops 167 = .ok (.iload 13, 2) := by decide +kernel
theorem dX10_drops_169 : decode cX10_drops 169 = .ok (.bipush 8, 2) := by decide +kernel
theorem dX10_drops_171 : decode cX10_drops 171 = .ok (.if_icmp .ge 21, 3) := by decide +kernel
theorem dX10_drops_174 : decode cX10_drops 174 = .ok (.iload 12, 2) := by decide +kernel
theorem dX10_drops_176 : decode cX10_drops 176 = .ok (.aload_n 0, 1) := by decide +kernel
theorem dX10_drops_177 : decode cX10_drops 177 = .ok (.getfield 57, 3) := by decide +kernel
theorem dX10_drops_180 : decode cX10_drops 180 = .ok (.iload 13, 2) := by decide +kernel
theorem dX10_drops_182 : decode cX10_drops 182 = .ok (.iaload, 1) := by decide +kernel
theorem dX10_drops_183 : decode cX10_drops 183 = .ok (.iadd, 1) := by decide +kernel
theorem dX10_drops_184 : decode cX10_drops 184 = .ok (.istore 12, 2) := by decide +kernel
theorem dX10_drops_186 : decode cX10_drops 186 = .ok (.iinc 13 1, 3) := by decide +kernel
theorem dX10_drops_189 : decode cX10_drops 189 = .ok (.goto (-22), 3) := by decide +kernel
theorem dX10_drops_192 : decode cX10_drops 192 = .ok (.iload 8, 2) := by decide +kernel
theorem dX10_drops_194 : decode cX10_drops 194 = .ok (.iconst (-1), 1) := by decide +kernel
theorem dX10_drops_195 : decode cX10_drops 195 = .ok (.if_icmp .eq 24, 3) := by decide +kernel
theorem dX10_drops_198 : decode cX10_drops 198 = .ok (.iload 11, 2) := by decide +kernel
theorem dX10_drops_200 : decode cX10_drops 200 = .ok (.iload 8, 2) := by decide +kernel
theorem dX10_drops_202 : decode cX10_drops 202 = .ok (.if_icmp .lt 17, 3) := by decide +kernel
theorem dX10_drops_205 : decode cX10_drops 205 = .ok (.iload 11, 2) := by decide +kernel
theorem dX10_drops_207 : decode cX10_drops 207 = .ok (.iload 8, 2) := by decide +kernel
theorem dX10_drops_209 : decode cX10_drops 209 = .ok (.if_icmp .ne 48, 3) := by decide +kernel
theorem dX10_drops_212 : decode cX10_drops 212 = .ok (.iload 12, 2) := by decide +kernel
theorem dX10_drops_214 : decode cX10_drops 214 = .ok (.iload 9, 2) := by decide +kernel
theorem dX10_drops_216 : decode cX10_drops 216 = .ok (.if_icmp .ge 41, 3) := by decide +kernel
theorem dX10_drops_219 : decode cX10_drops 219 = .ok (.iload 11, 2) := by decide +kernel
theorem dX10_drops_221 : decode cX10_drops 221 = .ok (.istore 8, 2) := by decide +kernel
theorem dX10_drops_223 : decode cX10_drops 223 = .ok (.iload 12, 2) := by decide +kernel
theorem dX10_drops_225 : decode cX10_drops 225 = .ok (.istore 9, 2) := by decide +kernel
theorem dX10_drops_227 : decode cX10_drops 227 = .ok (.iconst 0, 1) := by decide +kernel
theorem dX10_drops_228 : decode cX10_drops 228 = .ok (.istore 13, 2) := by decide +kernel
theorem dX10_drops_230 : decode cX10_drops 230 = .ok (.iload 13, 2) := by decide +kernel
theorem dX10_drops_232 : decode cX10_drops 232 = .ok (.bipush 8, 2) := by decide +kernel
theorem dX10_drops_234 : decode cX10_drops 234 = .ok (.if_icmp .ge 23, 3) := by decide +kernel
theorem dX10_drops_237 : decode cX10_drops 237 = .ok (.aload_n 0, 1) := by decide +kernel
theorem dX10_drops_238 : decode cX10_drops 238 = .ok (.getfield 54, 3) := by decide +kernel
theorem dX10_drops_241 : decode cX10_drops 241 = .ok (.iload 13, 2) := by decide +kernel
theorem dX10_drops_243 : decode cX10_drops 243 = .ok (.aload_n 0, 1) := by decide +kernel
theorem dX10_drops_244 : decode cX10_drops 244 = .ok (.getfield 57, 3) := by decide +kernel
theorem dX10_drops_247 : decode cX10_drops 247 = .ok (.iload 13, 2) := by decide +kernel
theorem dX10_drops_249 : decode cX10_drops 249 = .ok (.iaload, 1) := by decide +kernel
theorem dX10_drops_250 : decode cX10_drops 250 = .ok (.iastore, 1) := by decide +kernel
theorem dX10_drops_251 : decode cX10_drops 251 = .ok (.iinc 13 1, 3) := by decide +kernel
theorem dX10_drops_254 : decode cX10_drops 254 = .ok (.goto (-24), 3) := by decide +kernel
theorem dX10_drops_257 : decode cX10_drops 257 = .ok (.aload_n 0, 1) := by decide +kernel
theorem dX10_drops_258 : decode cX10_drops 258 = .ok (.aload_n 0, 1) := by decide +kernel
theorem dX10_drops_259 : decode cX10_drops 259 = .ok (.getfield 127, 3) := by decide +kernel
theorem dX10_drops_262 : decode cX10_drops 262 = .ok (.iload 7, 2) := by decide +kernel
theorem dX10_drops_264 : decode cX10_drops 264 = .ok (.invokevirtual 191, 3) := by decide +kernel
theorem dX10_drops_267 : decode cX10_drops 267 = .ok (.istore 10, 2) := by decide +kernel
theorem dX10_drops_269 : decode cX10_drops 269 = .ok (.goto (-129), 3) := by decide +kernel
theorem dX10_drops_272 : decode cX10_drops 272 = .ok (.aload_n 0, 1) := by decide +kernel
theorem dX10_drops_273 : decode cX10_drops 273 = .ok (.iconst 1, 1) := by decide +kernel
theorem dX10_drops_274 : decode cX10_drops 274 = .ok (.putfield 195, 3) := by decide +kernel
theorem dX10_drops_277 : decode cX10_drops 277 = .ok (.iload 8, 2) := by decide +kernel
theorem dX10_drops_279 : decode cX10_drops 279 = .ok (.ireturn, 1) := by decide +kernel
theorem dX10_drop_0 : decode cX10_drop 0 = .ok (.aload_n 0, 1) := by decide +kernel
theorem dX10_drop_1 : decode cX10_drop 1 = .ok (.iload_n 1, 1) := by decide +kernel
theorem dX10_drop_2 : decode cX10_drop 2 = .ok (.invokevirtual 140, 3) := by decide +kernel
theorem dX10_drop_5 : decode cX10_drop 5 = .ok (.ifCond .ne 8, 3) := by decide +kernel
theorem dX10_drop_8 : decode cX10_drop 8 = .ok (.bipush (-2), 2) := by decide +kernel
theorem dX10_drop_10 : decode cX10_drop 10 = .ok (.goto 20, 3) := by decide +kernel
theorem dX10_drop_13 : decode cX10_drop 13 = .ok (.aload_n 0, 1) := by decide +kernel
theorem dX10_drop_14 : decode cX10_drop 14 = .ok (.getfield 195, 3) := by decide +kernel
theorem dX10_drop_17 : decode cX10_drop 17 = .ok (.ifCond .eq 12, 3) := by decide +kernel
theorem dX10_drop_20 : decode cX10_drop 20 = .ok (.aload_n 0, 1) := by decide +kernel
theorem dX10_drop_21 : decode cX10_drop 21 = .ok (.getfield 54, 3) := by decide +kernel
theorem dX10_drop_24 : decode cX10_drop 24 = .ok (.iload_n 1, 1) := by decide +kernel
theorem dX10_drop_25 : decode cX10_drop 25 = .ok (.iaload, 1) := by decide +kernel
theorem dX10_drop_26 : decode cX10_drop 26 = .ok (.goto 4, 3) := by decide +kernel
theorem dX10_drop_29 : decode cX10_drop 29 = .ok (.iconst 0, 1) := by decide +kernel
theorem dX10_drop_30 : decode cX10_drop 30 = .ok (.ireturn, 1) := by decide +kernel
theorem dX10_dropIn_0 : decode cX10_dropIn 0 = .ok (.aload_n 0, 1) := by decide +kernel
theorem dX10_dropIn_1 : decode cX10_dropIn 1 = .ok (.iload_n 1, 1) := by decide +kernel
theorem dX10_dropIn_2 : decode cX10_dropIn 2 = .ok (.invokevirtual 165, 3) := by decide +kernel
theorem dX10_dropIn_5 : decode cX10_dropIn 5 = .ok (.ifCond .ne 6, 3) := by decide +kernel
theorem dX10_dropIn_8 : decode cX10_dropIn 8 = .ok (.bipush (-2), 2) := by decide +kernel
theorem dX10_dropIn_10 : decode cX10_dropIn 10 = .ok (.ireturn, 1) := by decide +kernel
theorem dX10_dropIn_11 : decode cX10_dropIn 11 = .ok (.aload_n 0, 1) := by decide +kernel
theorem dX10_dropIn_12 : decode cX10_dropIn 12 = .ok (.getfield 51, 3) := by decide +kernel
theorem dX10_dropIn_15 : decode cX10_dropIn 15 = .ok (.iload_n 1, 1) := by decide +kernel
theorem dX10_dropIn_16 : decode cX10_dropIn 16 = .ok (.baload, 1) := by decide +kernel
theorem dX10_dropIn_17 : decode cX10_dropIn 17 = .ok (.ifCond .ne 10, 3) := by decide +kernel
theorem dX10_dropIn_20 : decode cX10_dropIn 20 = .ok (.aload_n 0, 1) := by decide +kernel
theorem dX10_dropIn_21 : decode cX10_dropIn 21 = .ok (.getfield 195, 3) := by decide +kernel
theorem dX10_dropIn_24 : decode cX10_dropIn 24 = .ok (.ifCond .ne 6, 3) := by decide +kernel
theorem dX10_dropIn_27 : decode cX10_dropIn 27 = .ok (.bipush (-4), 2) := by decide +kernel
theorem dX10_dropIn_29 : decode cX10_dropIn 29 = .ok (.ireturn, 1) := by decide +kernel
theorem dX10_dropIn_30 : decode cX10_dropIn 30 = .ok (.iconst 0, 1) := by decide +kernel
theorem dX10_dropIn_31 : decode cX10_dropIn 31 = .ok (.istore_n 2, 1) := by decide +kernel
theorem dX10_dropIn_32 : decode cX10_dropIn 32 = .ok (.iconst 0, 1) := by decide +kernel
theorem dX10_dropIn_33 : decode cX10_dropIn 33 = .ok (.istore_n 3, 1) := by decide +kernel
theorem dX10_dropIn_34 : decode cX10_dropIn 34 = .ok (.iload_n 3, 1) := by decide +kernel
theorem dX10_dropIn_35 : decode cX10_dropIn 35 = .ok (.bipush 8, 2) := by decide +kernel
theorem dX10_dropIn_37 : decode cX10_dropIn 37 = .ok (.if_icmp .ge 44, 3) := by decide +kernel
theorem dX10_dropIn_40 : decode cX10_dropIn 40 = .ok (.iload_n 2, 1) := by decide +kernel
theorem dX10_dropIn_41 : decode cX10_dropIn 41 = .ok (.aload_n 0, 1) := by decide +kernel
theorem dX10_dropIn_42 : decode cX10_dropIn 42 = .ok (.getfield 54, 3) := by decide +kernel
theorem dX10_dropIn_45 : decode cX10_dropIn 45 = .ok (.iload_n 3, 1) := by decide +kernel
theorem dX10_dropIn_46 : decode cX10_dropIn 46 = .ok (.iaload, 1) := by decide +kernel
theorem dX10_dropIn_47 : decode cX10_dropIn 47 = .ok (.iadd, 1) := by decide +kernel
theorem dX10_dropIn_48 : decode cX10_dropIn 48 = .ok (.istore_n 2, 1) := by decide +kernel
theorem dX10_dropIn_49 : decode cX10_dropIn 49 = .ok (.aload_n 0, 1) := by decide +kernel
theorem dX10_dropIn_50 : decode cX10_dropIn 50 = .ok (.getfield 54, 3) := by decide +kernel
theorem dX10_dropIn_53 : decode cX10_dropIn 53 = .ok (.iload_n 3, 1) := by decide +kernel
theorem dX10_dropIn_54 : decode cX10_dropIn 54 = .ok (.iaload, 1) := by decide +kernel
theorem dX10_dropIn_55 : decode cX10_dropIn 55 = .ok (.ifCond .le 20, 3) := by decide +kernel
theorem dX10_dropIn_58 : decode cX10_dropIn 58 = .ok (.aload_n 0, 1) := by decide +kernel
theorem dX10_dropIn_59 : decode cX10_dropIn 59 = .ok (.iload_n 3, 1) := by decide +kernel
theorem dX10_dropIn_60 : decode cX10_dropIn 60 = .ok (.invokevirtual 154, 3) := by decide +kernel
theorem dX10_dropIn_63 : decode cX10_dropIn 63 = .ok (.aload_n 0, 1) := by decide +kernel
theorem dX10_dropIn_64 : decode cX10_dropIn 64 = .ok (.getfield 54, 3) := by decide +kernel
theorem dX10_dropIn_67 : decode cX10_dropIn 67 = .ok (.iload_n 3, 1) := by decide +kernel
theorem dX10_dropIn_68 : decode cX10_dropIn 68 = .ok (.iaload, 1) := by decide +kernel
theorem dX10_dropIn_69 : decode cX10_dropIn 69 = .ok (.if_icmp .ge 6, 3) := by decide +kernel
theorem dX10_dropIn_72 : decode cX10_dropIn 72 = .ok (.bipush (-5), 2) := by decide +kernel
theorem dX10_dropIn_74 : decode cX10_dropIn 74 = .ok (.ireturn, 1) := by decide +kernel
theorem dX10_dropIn_75 : decode cX10_dropIn 75 = .ok (.iinc 3 1, 3) := by decide +kernel
theorem dX10_dropIn_78 : decode cX10_dropIn 78 = .ok (.goto (-44), 3) := by decide +kernel
theorem dX10_dropIn_81 : decode cX10_dropIn 81 = .ok (.aload_n 0, 1) := by decide +kernel
theorem dX10_dropIn_82 : decode cX10_dropIn 82 = .ok (.iload_n 1, 1) := by decide +kernel
theorem dX10_dropIn_83 : decode cX10_dropIn 83 = .ok (.invokevirtual 168, 3) := by decide +kernel
theorem dX10_dropIn_86 : decode cX10_dropIn 86 = .ok (.iload_n 2, 1) := by decide +kernel
theorem dX10_dropIn_87 : decode cX10_dropIn 87 = .ok (.iadd, 1) := by decide +kernel
theorem dX10_dropIn_88 : decode cX10_dropIn 88 = .ok (.sipush 20000, 3) := by decide +kernel
theorem dX10_dropIn_91 : decode cX10_dropIn 91 = .ok (.if_icmp .le 6, 3) := by decide +kernel
theorem dX10_dropIn_94 : decode cX10_dropIn 94 = .ok (.bipush (-6), 2) := by decide +kernel
theorem dX10_dropIn_96 : decode cX10_dropIn 96 = .ok (.ireturn, 1) := by decide +kernel
theorem dX10_dropIn_97 : decode cX10_dropIn 97 = .ok (.iconst 0, 1) := by decide +kernel
theorem dX10_dropIn_98 : decode cX10_dropIn 98 = .ok (.istore_n 3, 1) := by decide +kernel
theorem dX10_dropIn_99 : decode cX10_dropIn 99 = .ok (.iload_n 3, 1) := by decide +kernel
theorem dX10_dropIn_100 : decode cX10_dropIn 100 = .ok (.bipush 8, 2) := by decide +kernel
theorem dX10_dropIn_102 : decode cX10_dropIn 102 = .ok (.if_icmp .ge 30, 3) := by decide +kernel
theorem dX10_dropIn_105 : decode cX10_dropIn 105 = .ok (.aload_n 0, 1) := by decide +kernel
theorem dX10_dropIn_106 : decode cX10_dropIn 106 = .ok (.getfield 54, 3) := by decide +kernel
theorem dX10_dropIn_109 : decode cX10_dropIn 109 = .ok (.iload_n 3, 1) := by decide +kernel

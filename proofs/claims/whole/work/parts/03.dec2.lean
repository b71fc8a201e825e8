theorem dX10_draw_20 : decode cX10_draw 20 = .ok (.iload_n 1, 1) := by decide +kernel
theorem dX10_draw_21 : decode cX10_draw 21 = .ok (.ifCond .le 18, 3) := by decide +kernel
theorem dX10_draw_24 : decode cX10_draw 24 = .ok (.aload_n 0, 1) := by decide +kernel
theorem dX10_draw_25 : decode cX10_draw 25 = .ok (.getfield 374, 3) := by decide +kernel
theorem dX10_draw_28 : decode cX10_draw 28 = .ok (.ldc2_w 390, 3) := by decide +kernel
theorem dX10_draw_31 : decode cX10_draw 31 = .ok (.ldiv, 1) := by decide +kernel
theorem dX10_draw_32 : decode cX10_draw 32 = .ok (.iload_n 1, 1) := by decide +kernel
theorem dX10_draw_33 : decode cX10_draw 33 = .ok (.i2l, 1) := by decide +kernel
theorem dX10_draw_34 : decode cX10_draw 34 = .ok (.lrem, 1) := by decide +kernel
theorem dX10_draw_35 : decode cX10_draw 35 = .ok (.l2i, 1) := by decide +kernel
theorem dX10_draw_36 : decode cX10_draw 36 = .ok (.goto 4, 3) := by decide +kernel
theorem dX10_draw_39 : decode cX10_draw 39 = .ok (.iconst 0, 1) := by decide +kernel
theorem dX10_draw_40 : decode cX10_draw 40 = .ok (.ireturn, 1) := by decide +kernel
theorem dX11_init_0 : decode cX11_init 0 = .ok (.aload_n 0, 1) := by decide +kernel
theorem dX11_init_1 : decode cX11_init 1 = .ok (.invokespecial 1, 3) := by decide +kernel
theorem dX11_init_4 : decode cX11_init 4 = .ok (.aload_n 0, 1) := by decide +kernel
theorem dX11_init_5 : decode cX11_init 5 = .ok (.sipush 1000, 3) := by decide +kernel
theorem dX11_init_8 : decode cX11_init 8 = .ok (.newarray .int, 2) := by decide +kernel
theorem dX11_init_10 : decode cX11_init 10 = .ok (.putfield 7, 3) := by decide +kernel
theorem dX11_init_13 : decode cX11_init 13 = .ok (.aload_n 0, 1) := by decide +kernel
theorem dX11_init_14 : decode cX11_init 14 = .ok (.bipush 8, 2) := by decide +kernel
theorem dX11_init_16 : decode cX11_init 16 = .ok (.newarray .int, 2) := by decide +kernel
theorem dX11_init_18 : decode cX11_init 18 = .ok (.putfield 13, 3) := by decide +kernel
theorem dX11_init_21 : decode cX11_init 21 = .ok (.aload_n 0, 1) := by decide +kernel
theorem dX11_init_22 : decode cX11_init 22 = .ok (.bipush 12, 2) := by decide +kernel
theorem dX11_init_24 : decode cX11_init 24 = .ok (.newarray .long, 2) := by decide +kernel
theorem dX11_init_26 : decode cX11_init 26 = .ok (.putfield 16, 3) := by decide +kernel
theorem dX11_init_29 : decode cX11_init 29 = .ok (.aload_n 0, 1) := by decide +kernel
theorem dX11_init_30 : decode cX11_init 30 = .ok (.bipush 10, 2) := by decide +kernel
theorem dX11_init_32 : decode cX11_init 32 = .ok (.newarray .long, 2) := by decide +kernel
theorem dX11_init_34 : decode cX11_init 34 = .ok (.putfield 20, 3) := by decide +kernel
theorem dX11_init_37 : decode cX11_init 37 = .ok (.aload_n 0, 1) := by decide +kernel
theorem dX11_init_38 : decode cX11_init 38 = .ok (.bipush 12, 2) := by decide +kernel
theorem dX11_init_40 : decode cX11_init 40 = .ok (.newarray .int, 2) := by decide +kernel
theorem dX11_init_42 : decode cX11_init 42 = .ok (.putfield 23, 3) := by decide +kernel
theorem dX11_init_45 : decode cX11_init 45 = .ok (.aload_n 0, 1) := by decide +kernel
theorem dX11_init_46 : decode cX11_init 46 = .ok (.bipush 12, 2) := by decide +kernel
theorem dX11_init_48 : decode cX11_init 48 = .ok (.newarray .int, 2) := by decide +kernel
theorem dX11_init_50 : decode cX11_init 50 = .ok (.putfield 26, 3) := by decide +kernel
theorem dX11_init_53 : decode cX11_init 53 = .ok (.aload_n 0, 1) := by decide +kernel
theorem dX11_init_54 : decode cX11_init 54 = .ok (.bipush 12, 2) := by decide +kernel
theorem dX11_init_56 : decode cX11_init 56 = .ok (.newarray .int, 2) := by decide +kernel
theorem dX11_init_58 : decode cX11_init 58 = .ok (.putfield 29, 3) := by decide +kernel
theorem dX11_init_61 : decode cX11_init 61 = .ok (.aload_n 0, 1) := by decide +kernel
theorem dX11_init_62 : decode cX11_init 62 = .ok (.bipush 12, 2) := by decide +kernel
theorem dX11_init_64 : decode cX11_init 64 = .ok (.newarray .int, 2) := by decide +kernel
theorem dX11_init_66 : decode cX11_init 66 = .ok (.putfield 32, 3) := by decide +kernel
theorem dX11_init_69 : decode cX11_init 69 = .ok (.aload_n 0, 1) := by decide +kernel
theorem dX11_init_70 : decode cX11_init 70 = .ok (.bipush 10, 2) := by decide +kernel
theorem dX11_init_72 : decode cX11_init 72 = .ok (.newarray .int, 2) := by decide +kernel
theorem dX11_init_74 : decode cX11_init 74 = .ok (.putfield 35, 3) := by decide +kernel
theorem dX11_init_77 : decode cX11_init 77 = .ok (.aload_n 0, 1) := by decide +kernel
theorem dX11_init_78 : decode cX11_init 78 = .ok (.bipush 10, 2) := by decide +kernel
theorem dX11_init_80 : decode cX11_init 80 = .ok (.newarray .int, 2) := by decide +kernel
theorem dX11_init_82 : decode cX11_init 82 = .ok (.putfield 38, 3) := by decide +kernel
theorem dX11_init_85 : decode cX11_init 85 = .ok (.aload_n 0, 1) := by decide +kernel
theorem dX11_init_86 : decode cX11_init 86 = .ok (.bipush 24, 2) := by decide +kernel
theorem dX11_init_88 : decode cX11_init 88 = .ok (.newarray .int, 2) := by decide +kernel
theorem dX11_init_90 : decode cX11_init 90 = .ok (.putfield 41, 3) := by decide +kernel
theorem dX11_init_93 : decode cX11_init 93 = .ok (.aload_n 0, 1) := by decide +kernel
theorem dX11_init_94 : decode cX11_init 94 = .ok (.iconst 2, 1) := by decide +kernel
theorem dX11_init_95 : decode cX11_init 95 = .ok (.newarray .int, 2) := by decide +kernel
theorem dX11_init_97 : decode cX11_init 97 = .ok (.putfield 44, 3) := by decide +kernel
theorem dX11_init_100 : decode cX11_init 100 = .ok (.aload_n 0, 1) := by decide +kernel
theorem dX11_init_101 : decode cX11_init 101 = .ok (.iconst 2, 1) := by decide +kernel
theorem dX11_init_102 : decode cX11_init 102 = .ok (.newarray .int, 2) := by decide +kernel
theorem dX11_init_104 : decode cX11_init 104 = .ok (.putfield 47, 3) := by decide +kernel
theorem dX11_init_107 : decode cX11_init 107 = .ok (.aload_n 0, 1) := by decide +kernel
theorem dX11_init_108 : decode cX11_init 108 = .ok (.sipush 2000, 3) := by decide +kernel
theorem dX11_init_111 : decode cX11_init 111 = .ok (.newarray .int, 2) := by decide +kernel
theorem dX11_init_113 : decode cX11_init 113 = .ok (.putfield 50, 3) := by decide +kernel
theorem dX11_init_116 : decode cX11_init 116 = .ok (.aload_n 0, 1) := by decide +kernel
theorem dX11_init_117 : decode cX11_init 117 = .ok (.bipush 7, 2) := by decide +kernel
theorem dX11_init_119 : decode cX11_init 119 = .ok (.newarray .int, 2) := by decide +kernel
theorem dX11_init_121 : decode cX11_init 121 = .ok (.putfield 53, 3) := by decide +kernel
theorem dX11_init_124 : decode cX11_init 124 = .ok (.aload_n 0, 1) := by decide +kernel
theorem dX11_init_125 : decode cX11_init 125 = .ok (.bipush 7, 2) := by decide +kernel
theorem dX11_init_127 : decode cX11_init 127 = .ok (.newarray .boolean, 2) := by decide +kernel
theorem dX11_init_129 : decode cX11_init 129 = .ok (.putfield 56, 3) := by decide +kernel
theorem dX11_init_132 : decode cX11_init 132 = .ok (.aload_n 0, 1) := by decide +kernel
theorem dX11_init_133 : decode cX11_init 133 = .ok (.bipush 7, 2) := by decide +kernel
theorem dX11_init_135 : decode cX11_init 135 = .ok (.newarray .int, 2) := by decide +kernel
theorem dX11_init_137 : decode cX11_init 137 = .ok (.putfield 60, 3) := by decide +kernel
theorem dX11_init_140 : decode cX11_init 140 = .ok (.aload_n 0, 1) := by decide +kernel
theorem dX11_init_141 : decode cX11_init 141 = .ok (.bipush 7, 2) := by decide +kernel
theorem dX11_init_143 : decode cX11_init 143 = .ok (.newarray .int, 2) := by decide +kernel
theorem dX11_init_145 : decode cX11_init 145 = .ok (.putfield 63, 3) := by decide +kernel
theorem dX11_init_148 : decode cX11_init 148 = .ok (.aload_n 0, 1) := by decide +kernel
theorem dX11_init_149 : decode cX11_init 149 = .ok (.bipush 7, 2) := by decide +kernel
theorem dX11_init_151 : decode cX11_init 151 = .ok (.newarray .int, 2) := by decide +kernel
theorem dX11_init_153 : decode cX11_init 153 = .ok (.putfield 66, 3) := by decide +kernel
theorem dX11_init_156 : decode cX11_init 156 = .ok (.aload_n 0, 1) := by decide +kernel
theorem dX11_init_157 : decode cX11_init 157 = .ok (.bipush 7, 2) := by decide +kernel
theorem dX11_init_159 : decode cX11_init 159 = .ok (.newarray .int, 2) := by decide +kernel
theorem dX11_init_161 : decode cX11_init 161 = .ok (.putfield 69, 3) := by decide +kernel
theorem dX11_init_164 : decode cX11_init 164 = .ok (.aload_n 0, 1) := by decide +kernel
theorem dX11_init_165 : decode cX11_init 165 = .ok (.bipush 7, 2) := by decide +kernel
theorem dX11_init_167 : decode cX11_init 167 = .ok (.newarray .int, 2) := by decide +kernel
theorem dX11_init_169 : decode cX11_init 169 = .ok (.putfield 72, 3) := by decide +kernel
theorem dX11_init_172 : decode cX11_init 172 = .ok (.aload_n 0, 1) := by decide +kernel
theorem dX11_init_173 : decode cX11_init 173 = .ok (.bipush 7, 2) := by decide +kernel
theorem dX11_init_175 : decode cX11_init 175 = .ok (.newarray .int, 2) := by decide +kernel
theorem dX11_init_177 : decode cX11_init 177 = .ok (.putfield 75, 3) := by decide +kernel
theorem dX11_init_180 : decode cX11_init 180 = .ok (.aload_n 0, 1) := by decide +kernel
theorem dX11_init_181 : decode cX11_init 181 = .ok (.bipush 7, 2) := by decide +kernel
theorem dX11_init_183 : decode cX11_init 183 = .ok (.newarray .int, 2) := by decide +kernel
theorem dX11_init_185 : decode cX11_init 185 = .ok (.putfield 78, 3) := by decide +kernel
theorem dX11_init_188 : decode cX11_init 188 = .ok (.aload_n 0, 1) := by decide +kernel
theorem dX11_init_189 : decode cX11_init 189 = .ok (.bipush 7, 2) := by decide +kernel
theorem dX11_init_191 : decode cX11_init 191 = .ok (.newarray .int, 2) := by decide +kernel
theorem dX11_init_193 : decode cX11_init 193 = .ok (.putfield 81, 3) := by decide +kernel
theorem dX11_init_196 : decode cX11_init 196 = .ok (.aload_n 0, 1) := by decide +kernel
theorem dX11_init_197 : decode cX11_init 197 = .ok (.bipush 7, 2) := by decide +kernel
theorem dX11_init_199 : decode cX11_init 199 = .ok (.newarray .int, 2) := by decide +kernel
theorem dX11_init_201 : decode cX11_init 201 = .ok (.putfield 84, 3) := by decide +kernel
theorem dX11_init_204 : decode cX11_init 204 = .ok (.aload_n 0, 1) := by decide +kernel
theorem dX11_init_205 : decode cX11_init 205 = .ok (.bipush 20, 2) := by decide +kernel
theorem dX11_init_207 : decode cX11_init 207 = .ok (.newarray .int, 2) := by decide +kernel
theorem dX11_init_209 : decode cX11_init 209 = .ok (.putfield 87, 3) := by decide +kernel
theorem dX11_init_212 : decode cX11_init 212 = .ok (.aload_n 0, 1) := by decide +kernel
theorem dX11_init_213 : decode cX11_init 213 = .ok (.bipush 6, 2) := by decide +kernel
theorem dX11_init_215 : decode cX11_init 215 = .ok (.newarray .int, 2) := by decide +kernel
theorem dX11_init_217 : decode cX11_init 217 = .ok (.putfield 90, 3) := by decide +kernel
theorem dX11_init_220 : decode cX11_init 220 = .ok (.aload_n 0, 1) := by decide +kernel
theorem dX11_init_221 : decode cX11_init 221 = .ok (.sipush 240, 3) := by decide +kernel
theorem dX11_init_224 : decode cX11_init 224 = .ok (.newarray .int, 2) := by decide +kernel
theorem dX11_init_226 : decode cX11_init 226 = .ok (.putfield 93, 3) := by decide +kernel
theorem dX11_init_229 : decode cX11_init 229 = .ok (.aload_n 0, 1) := by decide +kernel
theorem dX11_init_230 : decode cX11_init 230 = .ok (.sipush 240, 3) := by decide +kernel
theorem dX11_init_233 : decode cX11_init 233 = .ok (.newarray .int, 2) := by decide +kernel
theorem dX11_init_235 : decode cX11_init 235 = .ok (.putfield 96, 3) := by decide +kernel
theorem dX11_init_238 : decode cX11_init 238 = .ok (.aload_n 0, 1) := by decide +kernel
theorem dX11_init_239 : decode cX11_init 239 = .ok (.sipush 240, 3) := by decide +kernel
theorem dX11_init_242 : decode cX11_init 242 = .ok (.newarray .int, 2) := by decide +kernel
theorem dX11_init_244 : decode cX11_init 244 = .ok (.putfield 99, 3) := by decide +kernel
theorem dX11_init_247 : decode cX11_init 247 = .ok (.aload_n 0, 1) := by decide +kernel
theorem dX11_init_248 : decode cX11_init 248 = .ok (.iconst 5, 1) := by decide +kernel
theorem dX11_init_249 : decode cX11_init 249 = .ok (.newarray .int, 2) := by decide +kernel
theorem dX11_init_251 : decode cX11_init 251 = .ok (.putfield 102, 3) := by decide +kernel
theorem dX11_init_254 : decode cX11_init 254 = .ok (.aload_n 0, 1) := by decide +kernel
theorem dX11_init_255 : decode cX11_init 255 = .ok (.bipush 40, 2) := by decide +kernel
theorem dX11_init_257 : decode cX11_init 257 = .ok (.newarray .int, 2) := by decide +kernel
theorem dX11_init_259 : decode cX11_init 259 = .ok (.putfield 105, 3) := by decide +kernel
theorem dX11_init_262 : decode cX11_init 262 = .ok (.aload_n 0, 1) := by decide +kernel
theorem dX11_init_263 : decode cX11_init 263 = .ok (.bipush 40, 2) := by decide +kernel
theorem dX11_init_265 : decode cX11_init 265 = .ok (.newarray .int, 2) := by decide +kernel
theorem dX11_init_267 : decode cX11_init 267 = .ok (.putfield 108, 3) := by decide +kernel
theorem dX11_init_270 : decode cX11_init 270 = .ok (.aload_n 0, 1) := by decide +kernel
theorem dX11_init_271 : decode cX11_init 271 = .ok (.bipush 40, 2) := by decide +kernel
theorem dX11_init_273 : decode cX11_init 273 = .ok (.newarray .boolean, 2) := by decide +kernel
theorem dX11_init_275 : decode cX11_init 275 = .ok (.putfield 111, 3) := by decide +kernel
theorem dX11_init_278 : decode cX11_init 278 = .ok (.aload_n 0, 1) := by decide +kernel
theorem dX11_init_279 : decode cX11_init 279 = .ok (.bipush 26, 2) := by decide +kernel
theorem dX11_init_281 : decode cX11_init 281 = .ok (.newarray .int, 2) := by decide +kernel
theorem dX11_init_283 : decode cX11_init 283 = .ok (.putfield 114, 3) := by decide +kernel
theorem dX11_init_286 : decode cX11_init 286 = .ok (.aload_n 0, 1) := by decide +kernel
theorem dX11_init_287 : decode cX11_init 287 = .ok (.bipush 26, 2) := by decide +kernel
theorem dX11_init_289 : decode cX11_init 289 = .ok (.newarray .int, 2) := by decide +kernel
theorem dX11_init_291 : decode cX11_init 291 = .ok (.putfield 117, 3) := by decide +kernel
theorem dX11_init_294 : decode cX11_init 294 = .ok (.aload_n 0, 1) := by decide +kernel
theorem dX11_init_295 : decode cX11_init 295 = .ok (.bipush 26, 2) := by decide +kernel
theorem dX11_init_297 : decode cX11_init 297 = .ok (.newarray .int, 2) := by decide +kernel
theorem dX11_init_299 : decode cX11_init 299 = .ok (.putfield 120, 3) := by decide +kernel
theorem dX11_init_302 : decode cX11_init 302 = .ok (.aload_n 0, 1) := by decide +kernel
theorem dX11_init_303 : decode cX11_init 303 = .ok (.bipush 26, 2) := by decide +kernel
theorem dX11_init_305 : decode cX11_init 305 = .ok (.newarray .int, 2) := by decide +kernel
theorem dX11_init_307 : decode cX11_init 307 = .ok (.putfield 123, 3) := by decide +kernel
theorem dX11_init_310 : decode cX11_init 310 = .ok (.aload_n 0, 1) := by decide +kernel
theorem dX11_init_311 : decode cX11_init 311 = .ok (.bipush 104, 2) := by decide +kernel
theorem dX11_init_313 : decode cX11_init 313 = .ok (.newarray .int, 2) := by decide +kernel
theorem dX11_init_315 : decode cX11_init 315 = .ok (.putfield 126, 3) := by decide +kernel
theorem dX11_init_318 : decode cX11_init 318 = .ok (.aload_n 0, 1) := by decide +kernel
theorem dX11_init_319 : decode cX11_init 319 = .ok (.sipush 416, 3) := by decide +kernel
theorem dX11_init_322 : decode cX11_init 322 = .ok (.newarray .int, 2) := by decide +kernel
theorem dX11_init_324 : decode cX11_init 324 = .ok (.putfield 129, 3) := by decide +kernel
theorem dX11_init_327 : decode cX11_init 327 = .ok (.aload_n 0, 1) := by decide +kernel
theorem dX11_init_328 : decode cX11_init 328 = .ok (.iconst 4, 1) := by decide +kernel
theorem dX11_init_329 : decode cX11_init 329 = .ok (.newarray .boolean, 2) := by decide +kernel
theorem dX11_init_331 : decode cX11_init 331 = .ok (.putfield 132, 3) := by decide +kernel
theorem dX11_init_334 : decode cX11_init 334 = .ok (.aload_n 0, 1) := by decide +kernel
theorem dX11_init_335 : decode cX11_init 335 = .ok (.bipush 6, 2) := by decide +kernel
theorem dX11_init_337 : decode cX11_init 337 = .ok (.newarray .int, 2) := by decide +kernel
theorem dX11_init_339 : decode cX11_init 339 = .ok (.putfield 135, 3) := by decide +kernel
theorem dX11_init_342 : decode cX11_init 342 = .ok (.aload_n 0, 1) := by decide +kernel
theorem dX11_init_343 : decode cX11_init 343 = .ok (.bipush 6, 2) := by decide +kernel
theorem dX11_init_345 : decode cX11_init 345 = .ok (.newarray .int, 2) := by decide +kernel
theorem dX11_init_347 : decode cX11_init 347 = .ok (.putfield 138, 3) := by decide +kernel
theorem dX11_init_350 : decode cX11_init 350 = .ok (.aload_n 0, 1) := by decide +kernel
theorem dX11_init_351 : decode cX11_init 351 = .ok (.iconst 5, 1) := by decide +kernel
theorem dX11_init_352 : decode cX11_init 352 = .ok (.newarray .int, 2) := by decide +kernel
theorem dX11_init_354 : decode cX11_init 354 = .ok (.putfield 141, 3) := by decide +kernel
theorem dX11_init_357 : decode cX11_init 357 = .ok (.aload_n 0, 1) := by decide +kernel
theorem dX11_init_358 : decode cX11_init 358 = .ok (.iconst 5, 1) := by decide +kernel
theorem dX11_init_359 : decode cX11_init 359 = .ok (.newarray .int, 2) := by decide +kernel
theorem dX11_init_361 : decode cX11_init 361 = .ok (.putfield 144, 3) := by decide +kernel
theorem dX11_init_364 : decode cX11_init 364 = .ok (.aload_n 0, 1) := by decide +kernel
theorem dX11_init_365 : decode cX11_init 365 = .ok (.bipush 120, 2) := by decide +kernel
theorem dX11_init_367 : decode cX11_init 367 = .ok (.newarray .int, 2) := by decide +kernel
theorem dX11_init_369 : decode cX11_init 369 = .ok (.putfield 147, 3) := by decide +kernel
theorem dX11_init_372 : decode cX11_init 372 = .ok (.aload_n 0, 1) := by decide +kernel
theorem dX11_init_373 : decode cX11_init 373 = .ok (.getfield 13, 3) := by decide +kernel
theorem dX11_init_376 : decode cX11_init 376 = .ok (.iconst 3, 1) := by decide +kernel
theorem dX11_init_377 : decode cX11_init 377 = .ok (.bipush 30, 2) := by decide +kernel
theorem dX11_init_379 : decode cX11_init 379 = .ok (.iastore, 1) := by decide +kernel
theorem dX11_init_380 : decode cX11_init 380 = .ok (.aload_n 0, 1) := by decide +kernel
theorem dX11_init_381 : decode cX11_init 381 = .ok (.invokevirtual 150, 3) := by decide +kernel
theorem dX11_init_384 : decode cX11_init 384 = .ok (.return_, 1) := by decide +kernel
theorem dX11_thrown_0 : decode cX11_thrown 0 = .ok (.aload_n 0, 1) := by decide +kernel
theorem dX11_thrown_1 : decode cX11_thrown 1 = .ok (.getfield 153, 3) := by decide +kernel
theorem dX11_thrown_4 : decode cX11_thrown 4 = .ok (.ireturn, 1) := by decide +kernel
theorem dX11_within_0 : decode cX11_within 0 = .ok (.iload_n 0, 1) := by decide +kernel
theorem dX11_within_1 : decode cX11_within 1 = .ok (.iload_n 1, 1) := by decide +kernel
theorem dX11_within_2 : decode cX11_within 2 = .ok (.if_icmp .lt 12, 3) := by decide +kernel
theorem dX11_within_5 : decode cX11_within 5 = .ok (.iload_n 0, 1) := by decide +kernel
theorem dX11_within_6 : decode cX11_within 6 = .ok (.iload_n 2, 1) := by decide +kernel
theorem dX11_within_7 : decode cX11_within 7 = .ok (.if_icmp .gt 7, 3) := by decide +kernel
theorem dX11_within_10 : decode cX11_within 10 = .ok (.iconst 1, 1) := by decide +kernel
theorem dX11_within_11 : decode cX11_within 11 = .ok (.goto 4, 3) := by decide +kernel
theorem dX11_within_14 : decode cX11_within 14 = .ok (.iconst 0, 1) := by decide +kernel
theorem dX11_within_15 : decode cX11_within 15 = .ok (.ireturn, 1) := by decide +kernel
theorem dX11_between_0 : decode cX11_between 0 = .ok (.iload_n 0, 1) := by decide +kernel
theorem dX11_between_1 : decode cX11_between 1 = .ok (.iload_n 1, 1) := by decide +kernel
theorem dX11_between_2 : decode cX11_between 2 = .ok (.if_icmp .ge 7, 3) := by decide +kernel
theorem dX11_between_5 : decode cX11_between 5 = .ok (.iload_n 1, 1) := by decide +kernel
theorem dX11_between_6 : decode cX11_between 6 = .ok (.goto 13, 3) := by decide +kernel
theorem dX11_between_9 : decode cX11_between 9 = .ok (.iload_n 0, 1) := by decide +kernel
theorem dX11_between_10 : decode cX11_between 10 = .ok (.iload_n 2, 1) := by decide +kernel
theorem dX11_between_11 : decode cX11_between 11 = .ok (.if_icmp .le 7, 3) := by decide +kernel
theorem dX11_between_14 : decode cX11_between 14 = .ok (.iload_n 2, 1) := by decide +kernel
theorem dX11_between_15 : decode cX11_between 15 = .ok (.goto 4, 3) := by decide +kernel
theorem dX11_between_18 : decode cX11_between 18 = .ok (.iload_n 0, 1) := by decide +kernel
theorem dX11_between_19 : decode cX11_between 19 = .ok (.ireturn, 1) := by decide +kernel
theorem dX11_bits_0 : decode cX11_bits 0 = .ok (.iconst 0, 1) := by decide +kernel
theorem dX11_bits_1 : decode cX11_bits 1 = .ok (.istore_n 1, 1) := by decide +kernel
theorem dX11_bits_2 : decode cX11_bits 2 = .ok (.iconst 0, 1) := by decide +kernel
theorem dX11_bits_3 : decode cX11_bits 3 = .ok (.istore_n 2, 1) := by decide +kernel
theorem dX11_bits_4 : decode cX11_bits 4 = .ok (.iload_n 2, 1) := by decide +kernel
theorem dX11_bits_5 : decode cX11_bits 5 = .ok (.bipush 6, 2) := by decide +kernel
theorem dX11_bits_7 : decode cX11_bits 7 = .ok (.if_icmp .ge 17, 3) := by decide +kernel
theorem dX11_bits_10 : decode cX11_bits 10 = .ok (.iload_n 1, 1) := by decide +kernel
theorem dX11_bits_11 : decode cX11_bits 11 = .ok (.iload_n 0, 1) := by decide +kernel
theorem dX11_bits_12 : decode cX11_bits 12 = .ok (.iload_n 2, 1) := by decide +kernel
theorem dX11_bits_13 : decode cX11_bits 13 = .ok (.ishr, 1) := by decide +kernel
theorem dX11_bits_14 : decode cX11_bits 14 = .ok (.iconst 1, 1) := by decide +kernel
theorem dX11_bits_15 : decode cX11_bits 15 = .ok (.iand, 1) := by decide +kernel
theorem dX11_bits_16 : decode cX11_bits 16 = .ok (.iadd, 1) := by decide +kernel
theorem dX11_bits_17 : decode cX11_bits 17 = .ok (.istore_n 1, 1) := by decide +kernel
theorem dX11_bits_18 : decode cX11_bits 18 = .ok (.iinc 2 1, 3) := by decide +kernel
theorem dX11_bits_21 : decode cX11_bits 21 = .ok (.goto (-17), 3) := by decide +kernel
theorem dX11_bits_24 : decode cX11_bits 24 = .ok (.iload_n 1, 1) := by decide +kernel
theorem dX11_bits_25 : decode cX11_bits 25 = .ok (.ireturn, 1) := by decide +kernel
theorem dX11_lowest_0 : decode cX11_lowest 0 = .ok (.iconst 0, 1) := by decide +kernel
theorem dX11_lowest_1 : decode cX11_lowest 1 = .ok (.istore_n 1, 1) := by decide +kernel
theorem dX11_lowest_2 : decode cX11_lowest 2 = .ok (.iload_n 1, 1) := by decide +kernel
theorem dX11_lowest_3 : decode cX11_lowest 3 = .ok (.bipush 6, 2) := by decide +kernel
theorem dX11_lowest_5 : decode cX11_lowest 5 = .ok (.if_icmp .ge 20, 3) := by decide +kernel
theorem dX11_lowest_8 : decode cX11_lowest 8 = .ok (.iload_n 0, 1) := by decide +kernel
theorem dX11_lowest_9 : decode cX11_lowest 9 = .ok (.iload_n 1, 1) := by decide +kernel
theorem dX11_lowest_10 : decode cX11_lowest 10 = .ok (.ishr, 1) := by decide +kernel
theorem dX11_lowest_11 : decode cX11_lowest 11 = .ok (.iconst 1, 1) := by decide +kernel
theorem dX11_lowest_12 : decode cX11_lowest 12 = .ok (.iand, 1) := by decide +kernel
theorem dX11_lowest_13 : decode cX11_lowest 13 = .ok (.iconst 1, 1) := by decide +kernel
theorem dX11_lowest_14 : decode cX11_lowest 14 = .ok (.if_icmp .ne 5, 3) := by decide +kernel
theorem dX11_lowest_17 : decode cX11_lowest 17 = .ok (.iload_n 1, 1) := by decide +kernel
theorem dX11_lowest_18 : decode cX11_lowest 18 = .ok (.ireturn, 1) := by decide +kernel
theorem dX11_lowest_19 : decode cX11_lowest 19 = .ok (.iinc 1 1, 3) := by decide +kernel
theorem dX11_lowest_22 : decode cX11_lowest 22 = .ok (.goto (-20), 3) := by decide +kernel
theorem dX11_lowest_25 : decode cX11_lowest 25 = .ok (.iconst (-1), 1) := by decide +kernel
theorem dX11_lowest_26 : decode cX11_lowest 26 = .ok (.ireturn, 1) := by decide +kernel
theorem dX11_feed_0 : decode cX11_feed 0 = .ok (.aload_n 0, 1) := by decide +kernel
theorem dX11_feed_1 : decode cX11_feed 1 = .ok (.iconst 0, 1) := by decide +kernel
theorem dX11_feed_2 : decode cX11_feed 2 = .ok (.putfield 153, 3) := by decide +kernel
theorem dX11_feed_5 : decode cX11_feed 5 = .ok (.iconst 0, 1) := by decide +kernel
theorem dX11_feed_6 : decode cX11_feed 6 = .ok (.istore 7, 2) := by decide +kernel
theorem dX11_feed_8 : decode cX11_feed 8 = .ok (.iload 7, 2) := by decide +kernel
theorem dX11_feed_10 : decode cX11_feed 10 = .ok (.bipush 24, 2) := by decide +kernel
theorem dX11_feed_12 : decode cX11_feed 12 = .ok (.if_icmp .ge 108, 3) := by decide +kernel
theorem dX11_feed_15 : decode cX11_feed 15 = .ok (.iload 7, 2) := by decide +kernel
theorem dX11_feed_17 : decode cX11_feed 17 = .ok (.bipush 8, 2) := by decide +kernel
theorem dX11_feed_19 : decode cX11_feed 19 = .ok (.if_icmp .ge 7, 3) := by decide +kernel
theorem dX11_feed_22 : decode cX11_feed 22 = .ok (.lload_n 1, 1) := by decide +kernel
theorem dX11_feed_23 : decode cX11_feed 23 = .ok (.goto 16, 3) := by decide +kernel
theorem dX11_feed_26 : decode cX11_feed 26 = .ok (.iload 7, 2) := by decide +kernel
theorem dX11_feed_28 : decode cX11_feed 28 = .ok (.bipush 16, 2) := by decide +kernel
theorem dX11_feed_30 : decode cX11_feed 30 = .ok (.if_icmp .ge 7, 3) := by decide +kernel
theorem dX11_feed_33 : decode cX11_feed 33 = .ok (.lload_n 3, 1) := by decide +kernel
theorem dX11_feed_34 : decode cX11_feed 34 = .ok (.goto 5, 3) := by decide +kernel
theorem dX11_feed_37 : decode cX11_feed 37 = .ok (.lload 5, 2) := by decide +kernel
theorem dX11_feed_39 : decode cX11_feed 39 = .ok (.lstore 8, 2) := by decide +kernel
theorem dX11_feed_41 : decode cX11_feed 41 = .ok (.lload 8, 2) := by decide +kernel
theorem dX11_feed_43 : decode cX11_feed 43 = .ok (.bipush 56, 2) := by decide +kernel
theorem dX11_feed_45 : decode cX11_feed 45 = .ok (.bipush 8, 2) := by decide +kernel
theorem dX11_feed_47 : decode cX11_feed 47 = .ok (.iload 7, 2) := by decide +kernel
theorem dX11_feed_49 : decode cX11_feed 49 = .ok (.bipush 7, 2) := by decide +kernel
theorem dX11_feed_51 : decode cX11_feed 51 = .ok (.iand, 1) := by decide +kernel
theorem dX11_feed_52 : decode cX11_feed 52 = .ok (.imul, 1) := by decide +kernel
theorem dX11_feed_53 : decode cX11_feed 53 = .ok (.isub, 1) := by decide +kernel
theorem dX11_feed_54 : decode cX11_feed 54 = .ok (.lushr, 1) := by decide +kernel
theorem dX11_feed_55 : decode cX11_feed 55 = .ok (.ldc2_w 157, 3) := by decide +kernel
theorem dX11_feed_58 : decode cX11_feed 58 = .ok (.land, 1) := by decide +kernel
theorem dX11_feed_59 : decode cX11_feed 59 = .ok (.l2i, 1) := by decide +kernel
theorem dX11_feed_60 : decode cX11_feed 60 = .ok (.istore 10, 2) := by decide +kernel
theorem dX11_feed_62 : decode cX11_feed 62 = .ok (.aload_n 0, 1) := by decide +kernel
theorem dX11_feed_63 : decode cX11_feed 63 = .ok (.getfield 159, 3) := by decide +kernel
theorem dX11_feed_66 : decode cX11_feed 66 = .ok (.sipush 1000, 3) := by decide +kernel
theorem dX11_feed_69 : decode cX11_feed 69 = .ok (.if_icmp .ge 45, 3) := by decide +kernel
theorem dX11_feed_72 : decode cX11_feed 72 = .ok (.iload 10, 2) := by decide +kernel
theorem dX11_feed_74 : decode cX11_feed 74 = .ok (.bipush 10, 2) := by decide +kernel
theorem dX11_feed_76 : decode cX11_feed 76 = .ok (.if_icmp .eq 17, 3) := by decide +kernel
theorem dX11_feed_79 : decode cX11_feed 79 = .ok (.iload 10, 2) := by decide +kernel
theorem dX11_feed_81 : decode cX11_feed 81 = .ok (.bipush 32, 2) := by decide +kernel
theorem dX11_feed_83 : decode cX11_feed 83 = .ok (.if_icmp .lt 31, 3) := by decide +kernel
theorem dX11_feed_86 : decode cX11_feed 86 = .ok (.iload 10, 2) := by decide +kernel
theorem dX11_feed_88 : decode cX11_feed 88 = .ok (.bipush 126, 2) := by decide +kernel
theorem dX11_feed_90 : decode cX11_feed 90 = .ok (.if_icmp .gt 24, 3) := by decide +kernel
theorem dX11_feed_93 : decode cX11_feed 93 = .ok (.aload_n 0, 1) := by decide +kernel
theorem dX11_feed_94 : decode cX11_feed 94 = .ok (.getfield 7, 3) := by decide +kernel
theorem dX11_feed_97 : decode cX11_feed 97 = .ok (.aload_n 0, 1) := by decide +kernel
theorem dX11_feed_98 : decode cX11_feed 98 = .ok (.getfield 159, 3) := by decide +kernel
theorem dX11_feed_101 : decode cX11_feed 101 = .ok (.iload 10, 2) := by decide +kernel
theorem dX11_feed_103 : decode cX11_feed 103 = .ok (.iastore, 1) := by decide +kernel
theorem dX11_feed_104 : decode cX11_feed 104 = .ok (.aload_n 0, 1) := by decide +kernel
theorem dX11_feed_105 : decode cX11_feed 105 = .ok (.dup, 1) := by decide +kernel
theorem dX11_feed_106 : decode cX11_feed 106 = .ok (.getfield 159, 3) := by decide +kernel
theorem dX11_feed_109 : decode cX11_feed 109 = .ok (.iconst 1, 1) := by decide +kernel
theorem dX11_feed_110 : decode cX11_feed 110 = .ok (.iadd, 1) := by decide +kernel
theorem dX11_feed_111 : decode cX11_feed 111 = .ok (.putfield 159, 3) := by decide +kernel
theorem dX11_feed_114 : decode cX11_feed 114 = .ok (.iinc 7 1, 3) := by decide +kernel
theorem dX11_feed_117 : decode cX11_feed 117 = .ok (.goto (-109), 3) := by decide +kernel
theorem dX11_feed_120 : decode cX11_feed 120 = .ok (.aload_n 0, 1) := by decide +kernel
theorem dX11_feed_121 : decode cX11_feed 121 = .ok (.getfield 159, 3) := by decide +kernel
theorem dX11_feed_124 : decode cX11_feed 124 = .ok (.ireturn, 1) := by decide +kernel
theorem dX11_signAt_0 : decode cX11_signAt 0 = .ok (.iload_n 1, 1) := by decide +kernel
theorem dX11_signAt_1 : decode cX11_signAt 1 = .ok (.aload_n 0, 1) := by decide +kernel
theorem dX11_signAt_2 : decode cX11_signAt 2 = .ok (.getfield 162, 3) := by decide +kernel
theorem dX11_signAt_5 : decode cX11_signAt 5 = .ok (.if_icmp .ge 12, 3) := by decide +kernel
theorem dX11_signAt_8 : decode cX11_signAt 8 = .ok (.aload_n 0, 1) := by decide +kernel
theorem dX11_signAt_9 : decode cX11_signAt 9 = .ok (.getfield 7, 3) := by decide +kernel
theorem dX11_signAt_12 : decode cX11_signAt 12 = .ok (.iload_n 1, 1) := by decide +kernel
theorem dX11_signAt_13 : decode cX11_signAt 13 = .ok (.iaload, 1) := by decide +kernel
theorem dX11_signAt_14 : decode cX11_signAt 14 = .ok (.goto 4, 3) := by decide +kernel
theorem dX11_signAt_17 : decode cX11_signAt 17 = .ok (.iconst 0, 1) := by decide +kernel
theorem dX11_signAt_18 : decode cX11_signAt 18 = .ok (.ireturn, 1) := by decide +kernel
theorem dX11_nextToken_0 : decode cX11_nextToken 0 = .ok (.aload_n 0, 1) := by decide +kernel
theorem dX11_nextToken_1 : decode cX11_nextToken 1 = .ok (.getfield 165, 3) := by decide +kernel
theorem dX11_nextToken_4 : decode cX11_nextToken 4 = .ok (.aload_n 0, 1) := by decide +kernel
theorem dX11_nextToken_5 : decode cX11_nextToken 5 = .ok (.getfield 162, 3) := by decide +kernel
theorem dX11_nextToken_8 : decode cX11_nextToken 8 = .ok (.if_icmp .ge 44, 3) := by decide +kernel
theorem dX11_nextToken_11 : decode cX11_nextToken 11 = .ok (.aload_n 0, 1) := by decide +kernel
theorem dX11_nextToken_12 : decode cX11_nextToken 12 = .ok (.getfield 7, 3) := by decide +kernel
theorem dX11_nextToken_15 : decode cX11_nextToken 15 = .ok (.aload_n 0, 1) := by decide +kernel
theorem dX11_nextToken_16 : decode cX11_nextToken 16 = .ok (.getfield 165, 3) := by decide +kernel
theorem dX11_nextToken_19 : decode cX11_nextToken 19 = .ok (.iaload, 1) := by decide +kernel
theorem dX11_nextToken_20 : decode cX11_nextToken 20 = .ok (.bipush 32, 2) := by decide +kernel
theorem dX11_nextToken_22 : decode cX11_nextToken 22 = .ok (.if_icmp .eq 17, 3) := by decide +kernel
theorem dX11_nextToken_25 : decode cX11_nextToken 25 = .ok (.aload_n 0, 1) := by decide +kernel
theorem dX11_nextToken_26 : decode cX11_nextToken 26 = .ok (.getfield 7, 3) := by decide +kernel
theorem dX11_nextToken_29 : decode cX11_nextToken 29 = .ok (.aload_n 0, 1) := by decide +kernel
theorem dX11_nextToken_30 : decode cX11_nextToken 30 = .ok (.getfield 165, 3) := by decide +kernel
theorem dX11_nextToken_33 : decode cX11_nextToken 33 = .ok (.iaload, 1) := by decide +kernel
theorem dX11_nextToken_34 : decode cX11_nextToken 34 = .ok (.bipush 10, 2) := by decide +kernel
theorem dX11_nextToken_36 : decode cX11_nextToken 36 = .ok (.if_icmp .ne 16, 3) := by decide +kernel
theorem dX11_nextToken_39 : decode cX11_nextToken 39 = .ok (.aload_n 0, 1) := by decide +kernel
theorem dX11_nextToken_40 : decode cX11_nextToken 40 = .ok (.dup, 1) := by decide +kernel
theorem dX11_nextToken_41 : decode cX11_nextToken 41 = .ok (.getfield 165, 3) := by decide +kernel
theorem dX11_nextToken_44 : decode cX11_nextToken 44 = .ok (.iconst 1, 1) := by decide +kernel
theorem dX11_nextToken_45 : decode cX11_nextToken 45 = .ok (.iadd, 1) := by decide +kernel
theorem dX11_nextToken_46 : decode cX11_nextToken 46 = .ok (.putfield 165, 3) := by decide +kernel
theorem dX11_nextToken_49 : decode cX11_nextToken 49 = .ok (.goto (-49), 3) := by decide +kernel
theorem dX11_nextToken_52 : decode cX11_nextToken 52 = .ok (.aload_n 0, 1) := by decide +kernel
theorem dX11_nextToken_53 : decode cX11_nextToken 53 = .ok (.aload_n 0, 1) := by decide +kernel
theorem dX11_nextToken_54 : decode cX11_nextToken 54 = .ok (.getfield 165, 3) := by decide +kernel
theorem dX11_nextToken_57 : decode cX11_nextToken 57 = .ok (.putfield 168, 3) := by decide +kernel
theorem dX11_nextToken_60 : decode cX11_nextToken 60 = .ok (.aload_n 0, 1) := by decide +kernel
theorem dX11_nextToken_61 : decode cX11_nextToken 61 = .ok (.lconst 0, 1) := by decide +kernel
theorem dX11_nextToken_62 : decode cX11_nextToken 62 = .ok (.putfield 171, 3) := by decide +kernel
theorem dX11_nextToken_65 : decode cX11_nextToken 65 = .ok (.aload_n 0, 1) := by decide +kernel
theorem dX11_nextToken_66 : decode cX11_nextToken 66 = .ok (.iconst 0, 1) := by decide +kernel
theorem dX11_nextToken_67 : decode cX11_nextToken 67 = .ok (.putfield 175, 3) := by decide +kernel
theorem dX11_nextToken_70 : decode cX11_nextToken 70 = .ok (.aload_n 0, 1) := by decide +kernel
theorem dX11_nextToken_71 : decode cX11_nextToken 71 = .ok (.getfield 165, 3) := by decide +kernel
theorem dX11_nextToken_74 : decode cX11_nextToken 74 = .ok (.aload_n 0, 1) := by decide +kernel
theorem dX11_nextToken_75 : decode cX11_nextToken 75 = .ok (.getfield 162, 3) := by decide +kernel
theorem dX11_nextToken_78 : decode cX11_nextToken 78 = .ok (.if_icmp .ne 9, 3) := by decide +kernel
theorem dX11_nextToken_81 : decode cX11_nextToken 81 = .ok (.aload_n 0, 1) := by decide +kernel
theorem dX11_nextToken_82 : decode cX11_nextToken 82 = .ok (.iconst 0, 1) := by decide +kernel
theorem dX11_nextToken_83 : decode cX11_nextToken 83 = .ok (.putfield 178, 3) := by decide +kernel
theorem dX11_nextToken_86 : decode cX11_nextToken 86 = .ok (.return_, 1) := by decide +kernel
theorem dX11_nextToken_87 : decode cX11_nextToken 87 = .ok (.aload_n 0, 1) := by decide +kernel
theorem dX11_nextToken_88 : decode cX11_nextToken 88 = .ok (.getfield 7, 3) := by decide +kernel
theorem dX11_nextToken_91 : decode cX11_nextToken 91 = .ok (.aload_n 0, 1) := by decide +kernel
theorem dX11_nextToken_92 : decode cX11_nextToken 92 = .ok (.getfield 165, 3) := by decide +kernel
theorem dX11_nextToken_95 : decode cX11_nextToken 95 = .ok (.iaload, 1) := by decide +kernel
theorem dX11_nextToken_96 : decode cX11_nextToken 96 = .ok (.istore_n 1, 1) := by decide +kernel
theorem dX11_nextToken_97 : decode cX11_nextToken 97 = .ok (.iload_n 1, 1) := by decide +kernel
theorem dX11_nextToken_98 : decode cX11_nextToken 98 = .ok (.bipush 97, 2) := by decide +kernel
theorem dX11_nextToken_100 : decode cX11_nextToken 100 = .ok (.if_icmp .lt 112, 3) := by decide +kernel
theorem dX11_nextToken_103 : decode cX11_nextToken 103 = .ok (.iload_n 1, 1) := by decide +kernel
theorem dX11_nextToken_104 : decode cX11_nextToken 104 = .ok (.bipush 122, 2) := by decide +kernel
theorem dX11_nextToken_106 : decode cX11_nextToken 106 = .ok (.if_icmp .gt 106, 3) := by decide +kernel
theorem dX11_nextToken_109 : decode cX11_nextToken 109 = .ok (.aload_n 0, 1) := by decide +kernel
theorem dX11_nextToken_110 : decode cX11_nextToken 110 = .ok (.aload_n 0, 1) := by decide +kernel
theorem dX11_nextToken_111 : decode cX11_nextToken 111 = .ok (.getfield 165, 3) := by decide +kernel
theorem dX11_nextToken_114 : decode cX11_nextToken 114 = .ok (.invokevirtual 181, 3) := by decide +kernel
theorem dX11_nextToken_117 : decode cX11_nextToken 117 = .ok (.bipush 97, 2) := by decide +kernel
theorem dX11_nextToken_119 : decode cX11_nextToken 119 = .ok (.if_icmp .lt 69, 3) := by decide +kernel
theorem dX11_nextToken_122 : decode cX11_nextToken 122 = .ok (.aload_n 0, 1) := by decide +kernel
theorem dX11_nextToken_123 : decode cX11_nextToken 123 = .ok (.aload_n 0, 1) := by decide +kernel
theorem dX11_nextToken_124 : decode cX11_nextToken 124 = .ok (.getfield 165, 3) := by decide +kernel
theorem dX11_nextToken_127 : decode cX11_nextToken 127 = .ok (.invokevirtual 181, 3) := by decide +kernel
theorem dX11_nextToken_130 : decode cX11_nextToken 130 = .ok (.bipush 122, 2) := by decide +kernel
theorem dX11_nextToken_132 : decode cX11_nextToken 132 = .ok (.if_icmp .gt 56, 3) := by decide +kernel
theorem dX11_nextToken_135 : decode cX11_nextToken 135 = .ok (.aload_n 0, 1) := by decide +kernel
theorem dX11_nextToken_136 : decode cX11_nextToken 136 = .ok (.getfield 165, 3) := by decide +kernel
theorem dX11_nextToken_139 : decode cX11_nextToken 139 = .ok (.aload_n 0, 1) := by decide +kernel
theorem dX11_nextToken_140 : decode cX11_nextToken 140 = .ok (.getfield 168, 3) := by decide +kernel
theorem dX11_nextToken_143 : decode cX11_nextToken 143 = .ok (.isub, 1) := by decide +kernel
theorem dX11_nextToken_144 : decode cX11_nextToken 144 = .ok (.bipush 8, 2) := by decide +kernel
theorem dX11_nextToken_146 : decode cX11_nextToken 146 = .ok (.if_icmp .ge 29, 3) := by decide +kernel
theorem dX11_nextToken_149 : decode cX11_nextToken 149 = .ok (.aload_n 0, 1) := by decide +kernel
theorem dX11_nextToken_150 : decode cX11_nextToken 150 = .ok (.aload_n 0, 1) := by decide +kernel
theorem dX11_nextToken_151 : decode cX11_nextToken 151 = .ok (.getfield 171, 3) := by decide +kernel
theorem dX11_nextToken_154 : decode cX11_nextToken 154 = .ok (.ldc2_w 185, 3) := by decide +kernel
theorem dX11_nextToken_157 : decode cX11_nextToken 157 = .ok (.lmul, 1) := by decide +kernel
theorem dX11_nextToken_158 : decode cX11_nextToken 158 = .ok (.aload_n 0, 1) := by decide +kernel
theorem dX11_nextToken_159 : decode cX11_nextToken 159 = .ok (.aload_n 0, 1) := by decide +kernel
theorem dX11_nextToken_160 : decode cX11_nextToken 160 = .ok (.getfield 165, 3) := by decide +kernel
theorem dX11_nextToken_163 : decode cX11_nextToken 163 = .ok (.invokevirtual 181, 3) := by decide +kernel
theorem dX11_nextToken_166 : decode cX11_nextToken 166 = .ok (.i2l, 1) := by decide +kernel
theorem dX11_nextToken_167 : decode cX11_nextToken 167 = .ok (.ladd, 1) := by decide +kernel
theorem dX11_nextToken_168 : decode cX11_nextToken 168 = .ok (.ldc2_w 187, 3) := by decide +kernel
theorem dX11_nextToken_171 : decode cX11_nextToken 171 = .ok (.lsub, 1) := by decide +kernel
theorem dX11_nextToken_172 : decode cX11_nextToken 172 = .ok (.putfield 171, 3) := by decide +kernel
theorem dX11_nextToken_175 : decode cX11_nextToken 175 = .ok (.aload_n 0, 1) := by decide +kernel
theorem dX11_nextToken_176 : decode cX11_nextToken 176 = .ok (.dup, 1) := by decide +kernel
theorem dX11_nextToken_177 : decode cX11_nextToken 177 = .ok (.getfield 165, 3) := by decide +kernel
theorem dX11_nextToken_180 : decode cX11_nextToken 180 = .ok (.iconst 1, 1) := by decide +kernel
theorem dX11_nextToken_181 : decode cX11_nextToken 181 = .ok (.iadd, 1) := by decide +kernel
theorem dX11_nextToken_182 : decode cX11_nextToken 182 = .ok (.putfield 165, 3) := by decide +kernel
theorem dX11_nextToken_185 : decode cX11_nextToken 185 = .ok (.goto (-76), 3) := by decide +kernel
theorem dX11_nextToken_188 : decode cX11_nextToken 188 = .ok (.aload_n 0, 1) := by decide +kernel
theorem dX11_nextToken_189 : decode cX11_nextToken 189 = .ok (.aload_n 0, 1) := by decide +kernel
theorem dX11_nextToken_190 : decode cX11_nextToken 190 = .ok (.getfield 165, 3) := by decide +kernel
theorem dX11_nextToken_193 : decode cX11_nextToken 193 = .ok (.aload_n 0, 1) := by decide +kernel
theorem dX11_nextToken_194 : decode cX11_nextToken 194 = .ok (.getfield 168, 3) := by decide +kernel
theorem dX11_nextToken_197 : decode cX11_nextToken 197 = .ok (.isub, 1) := by decide +kernel
theorem dX11_nextToken_198 : decode cX11_nextToken 198 = .ok (.bipush 8, 2) := by decide +kernel
theorem dX11_nextToken_200 : decode cX11_nextToken 200 = .ok (.if_icmp .le 7, 3) := by decide +kernel
theorem dX11_nextToken_203 : decode cX11_nextToken 203 = .ok (.iconst 4, 1) := by decide +kernel
theorem dX11_nextToken_204 : decode cX11_nextToken 204 = .ok (.goto 4, 3) := by decide +kernel
theorem dX11_nextToken_207 : decode cX11_nextToken 207 = .ok (.iconst 1, 1) := by decide +kernel
theorem dX11_nextToken_208 : decode cX11_nextToken 208 = .ok (.putfield 178, 3) := by decide +kernel
theorem dX11_nextToken_211 : decode cX11_nextToken 211 = .ok (.return_, 1) := by decide +kernel
theorem dX11_nextToken_212 : decode cX11_nextToken 212 = .ok (.iload_n 1, 1) := by decide +kernel
theorem dX11_nextToken_213 : decode cX11_nextToken 213 = .ok (.bipush 48, 2) := by decide +kernel
theorem dX11_nextToken_215 : decode cX11_nextToken 215 = .ok (.if_icmp .lt 107, 3) := by decide +kernel
theorem dX11_nextToken_218 : decode cX11_nextToken 218 = .ok (.iload_n 1, 1) := by decide +kernel
theorem dX11_nextToken_219 : decode cX11_nextToken 219 = .ok (.bipush 57, 2) := by decide +kernel
theorem dX11_nextToken_221 : decode cX11_nextToken 221 = .ok (.if_icmp .gt 101, 3) := by decide +kernel
theorem dX11_nextToken_224 : decode cX11_nextToken 224 = .ok (.aload_n 0, 1) := by decide +kernel
theorem dX11_nextToken_225 : decode cX11_nextToken 225 = .ok (.aload_n 0, 1) := by decide +kernel
theorem dX11_nextToken_226 : decode cX11_nextToken 226 = .ok (.getfield 165, 3) := by decide +kernel
theorem dX11_nextToken_229 : decode cX11_nextToken 229 = .ok (.invokevirtual 181, 3) := by decide +kernel
theorem dX11_nextToken_232 : decode cX11_nextToken 232 = .ok (.bipush 48, 2) := by decide +kernel
theorem dX11_nextToken_234 : decode cX11_nextToken 234 = .ok (.if_icmp .lt 65, 3) := by decide +kernel
theorem dX11_nextToken_237 : decode cX11_nextToken 237 = .ok (.aload_n 0, 1) := by decide +kernel
theorem dX11_nextToken_238 : decode cX11_nextToken 238 = .ok (.aload_n 0, 1) := by decide +kernel
theorem dX11_nextToken_239 : decode cX11_nextToken 239 = .ok (.getfield 165, 3) := by decide +kernel
theorem dX11_nextToken_242 : decode cX11_nextToken 242 = .ok (.invokevirtual 181, 3) := by decide +kernel
theorem dX11_nextToken_245 : decode cX11_nextToken 245 = .ok (.bipush 57, 2) := by decide +kernel
theorem dX11_nextToken_247 : decode cX11_nextToken 247 = .ok (.if_icmp .gt 52, 3) := by decide +kernel
theorem dX11_nextToken_250 : decode cX11_nextToken 250 = .ok (.aload_n 0, 1) := by decide +kernel
theorem dX11_nextToken_251 : decode cX11_nextToken 251 = .ok (.getfield 165, 3) := by decide +kernel
theorem dX11_nextToken_254 : decode cX11_nextToken 254 = .ok (.aload_n 0, 1) := by decide +kernel
theorem dX11_nextToken_255 : decode cX11_nextToken 255 = .ok (.getfield 168, 3) := by decide +kernel
theorem dX11_nextToken_258 : decode cX11_nextToken 258 = .ok (.isub, 1) := by decide +kernel
theorem dX11_nextToken_259 : decode cX11_nextToken 259 = .ok (.iconst 4, 1) := by decide +kernel
theorem dX11_nextToken_260 : decode cX11_nextToken 260 = .ok (.if_icmp .ge 26, 3) := by decide +kernel
theorem dX11_nextToken_263 : decode cX11_nextToken 263 = .ok (.aload_n 0, 1) := by decide +kernel
theorem dX11_nextToken_264 : decode cX11_nextToken 264 = .ok (.aload_n 0, 1) := by decide +kernel
theorem dX11_nextToken_265 : decode cX11_nextToken 265 = .ok (.getfield 175, 3) := by decide +kernel
theorem dX11_nextToken_268 : decode cX11_nextToken 268 = .ok (.bipush 10, 2) := by decide +kernel
theorem dX11_nextToken_270 : decode cX11_nextToken 270 = .ok (.imul, 1) := by decide +kernel
theorem dX11_nextToken_271 : decode cX11_nextToken 271 = .ok (.aload_n 0, 1) := by decide +kernel
theorem dX11_nextToken_272 : decode cX11_nextToken 272 = .ok (.aload_n 0, 1) := by decide +kernel
theorem dX11_nextToken_273 : decode cX11_nextToken 273 = .ok (.getfield 165, 3) := by decide +kernel
theorem dX11_nextToken_276 : decode cX11_nextToken 276 = .ok (.invokevirtual 181, 3) := by decide +kernel
theorem dX11_nextToken_279 : decode cX11_nextToken 279 = .ok (.iadd, 1) := by decide +kernel
theorem dX11_nextToken_280 : decode cX11_nextToken 280 = .ok (.bipush 48, 2) := by decide +kernel
theorem dX11_nextToken_282 : decode cX11_nextToken 282 = .ok (.isub, 1) := by decide +kernel
theorem dX11_nextToken_283 : decode cX11_nextToken 283 = .ok (.putfield 175, 3) := by decide +kernel
theorem dX11_nextToken_286 : decode cX11_nextToken 286 = .ok (.aload_n 0, 1) := by decide +kernel
theorem dX11_nextToken_287 : decode cX11_nextToken 287 = .ok (.dup, 1) := by decide +kernel
theorem dX11_nextToken_288 : decode cX11_nextToken 288 = .ok (.getfield 165, 3) := by decide +kernel
theorem dX11_nextToken_291 : decode cX11_nextToken 291 = .ok (.iconst 1, 1) := by decide +kernel
theorem dX11_nextToken_292 : decode cX11_nextToken 292 = .ok (.iadd, 1) := by decide +kernel
theorem dX11_nextToken_293 : decode cX11_nextToken 293 = .ok (.putfield 165, 3) := by decide +kernel
theorem dX11_nextToken_296 : decode cX11_nextToken 296 = .ok (.goto (-72), 3) := by decide +kernel
theorem dX11_nextToken_299 : decode cX11_nextToken 299 = .ok (.aload_n 0, 1) := by decide +kernel
theorem dX11_nextToken_300 : decode cX11_nextToken 300 = .ok (.aload_n 0, 1) := by decide +kernel
theorem dX11_nextToken_301 : decode cX11_nextToken 301 = .ok (.getfield 165, 3) := by decide +kernel
theorem dX11_nextToken_304 : decode cX11_nextToken 304 = .ok (.aload_n 0, 1) := by decide +kernel
theorem dX11_nextToken_305 : decode cX11_nextToken 305 = .ok (.getfield 168, 3) := by decide +kernel
theorem dX11_nextToken_308 : decode cX11_nextToken 308 = .ok (.isub, 1) := by decide +kernel
theorem dX11_nextToken_309 : decode cX11_nextToken 309 = .ok (.iconst 4, 1) := by decide +kernel
theorem dX11_nextToken_310 : decode cX11_nextToken 310 = .ok (.if_icmp .le 7, 3) := by decide +kernel
theorem dX11_nextToken_313 : decode cX11_nextToken 313 = .ok (.iconst 4, 1) := by decide +kernel
theorem dX11_nextToken_314 : decode cX11_nextToken 314 = .ok (.goto 4, 3) := by decide +kernel
theorem dX11_nextToken_317 : decode cX11_nextToken 317 = .ok (.iconst 2, 1) := by decide +kernel
theorem dX11_nextToken_318 : decode cX11_nextToken 318 = .ok (.putfield 178, 3) := by decide +kernel
theorem dX11_nextToken_321 : decode cX11_nextToken 321 = .ok (.return_, 1) := by decide +kernel
theorem dX11_nextToken_322 : decode cX11_nextToken 322 = .ok (.aload_n 0, 1) := by decide +kernel
theorem dX11_nextToken_323 : decode cX11_nextToken 323 = .ok (.dup, 1) := by decide +kernel
theorem dX11_nextToken_324 : decode cX11_nextToken 324 = .ok (.getfield 165, 3) := by decide +kernel
theorem dX11_nextToken_327 : decode cX11_nextToken 327 = .ok (.iconst 1, 1) := by decide +kernel
theorem dX11_nextToken_328 : decode cX11_nextToken 328 = .ok (.iadd, 1) := by decide +kernel
theorem dX11_nextToken_329 : decode cX11_nextToken 329 = .ok (.putfield 165, 3) := by decide +kernel
theorem dX11_nextToken_332 : decode cX11_nextToken 332 = .ok (.aload_n 0, 1) := by decide +kernel
theorem dX11_nextToken_333 : decode cX11_nextToken 333 = .ok (.iload_n 1, 1) := by decide +kernel
theorem dX11_nextToken_334 : decode cX11_nextToken 334 = .ok (.bipush 40, 2) := by decide +kernel
theorem dX11_nextToken_336 : decode cX11_nextToken 336 = .ok (.if_icmp .lt 9, 3) := by decide +kernel
theorem dX11_nextToken_339 : decode cX11_nextToken 339 = .ok (.iload_n 1, 1) := by decide +kernel
theorem dX11_nextToken_340 : decode cX11_nextToken 340 = .ok (.bipush 43, 2) := by decide +kernel
theorem dX11_nextToken_342 : decode cX11_nextToken 342 = .ok (.if_icmp .le 21, 3) := by decide +kernel
theorem dX11_nextToken_345 : decode cX11_nextToken 345 = .ok (.iload_n 1, 1) := by decide +kernel
theorem dX11_nextToken_346 : decode cX11_nextToken 346 = .ok (.bipush 45, 2) := by decide +kernel
theorem dX11_nextToken_348 : decode cX11_nextToken 348 = .ok (.if_icmp .eq 15, 3) := by decide +kernel
theorem dX11_nextToken_351 : decode cX11_nextToken 351 = .ok (.iload_n 1, 1) := by decide +kernel
theorem dX11_nextToken_352 : decode cX11_nextToken 352 = .ok (.bipush 59, 2) := by decide +kernel
theorem dX11_nextToken_354 : decode cX11_nextToken 354 = .ok (.if_icmp .lt 13, 3) := by decide +kernel
theorem dX11_nextToken_357 : decode cX11_nextToken 357 = .ok (.iload_n 1, 1) := by decide +kernel
theorem dX11_nextToken_358 : decode cX11_nextToken 358 = .ok (.bipush 61, 2) := by decide +kernel
theorem dX11_nextToken_360 : decode cX11_nextToken 360 = .ok (.if_icmp .gt 7, 3) := by decide +kernel
theorem dX11_nextToken_363 : decode cX11_nextToken 363 = .ok (.iconst 3, 1) := by decide +kernel
theorem dX11_nextToken_364 : decode cX11_nextToken 364 = .ok (.goto 4, 3) := by decide +kernel
theorem dX11_nextToken_367 : decode cX11_nextToken 367 = .ok (.iconst 4, 1) := by decide +kernel
theorem dX11_nextToken_368 : decode cX11_nextToken 368 = .ok (.putfield 178, 3) := by decide +kernel
theorem dX11_nextToken_371 : decode cX11_nextToken 371 = .ok (.return_, 1) := by decide +kernel
theorem dX11_isWord_0 : decode cX11_isWord 0 = .ok (.aload_n 0, 1) := by decide +kernel
theorem dX11_isWord_1 : decode cX11_isWord 1 = .ok (.getfield 178, 3) := by decide +kernel
theorem dX11_isWord_4 : decode cX11_isWord 4 = .ok (.iconst 1, 1) := by decide +kernel
theorem dX11_isWord_5 : decode cX11_isWord 5 = .ok (.if_icmp .ne 16, 3) := by decide +kernel
theorem dX11_isWord_8 : decode cX11_isWord 8 = .ok (.aload_n 0, 1) := by decide +kernel
theorem dX11_isWord_9 : decode cX11_isWord 9 = .ok (.getfield 171, 3) := by decide +kernel
theorem dX11_isWord_12 : decode cX11_isWord 12 = .ok (.lload_n 1, 1) := by decide +kernel
theorem dX11_isWord_13 : decode cX11_isWord 13 = .ok (.lcmp, 1) := by decide +kernel
theorem dX11_isWord_14 : decode cX11_isWord 14 = .ok (.ifCond .ne 7, 3) := by decide +kernel
theorem dX11_isWord_17 : decode cX11_isWord 17 = .ok (.iconst 1, 1) := by decide +kernel
theorem dX11_isWord_18 : decode cX11_isWord 18 = .ok (.goto 4, 3) := by decide +kernel
theorem dX11_isWord_21 : decode cX11_isWord 21 = .ok (.iconst 0, 1) := by decide +kernel
theorem dX11_isWord_22 : decode cX11_isWord 22 = .ok (.ireturn, 1) := by decide +kernel
theorem dX11_isSign_0 : decode cX11_isSign 0 = .ok (.aload_n 0, 1) := by decide +kernel
theorem dX11_isSign_1 : decode cX11_isSign 1 = .ok (.getfield 178, 3) := by decide +kernel
theorem dX11_isSign_4 : decode cX11_isSign 4 = .ok (.iconst 3, 1) := by decide +kernel
theorem dX11_isSign_5 : decode cX11_isSign 5 = .ok (.if_icmp .ne 20, 3) := by decide +kernel
theorem dX11_isSign_8 : decode cX11_isSign 8 = .ok (.aload_n 0, 1) := by decide +kernel
theorem dX11_isSign_9 : decode cX11_isSign 9 = .ok (.getfield 7, 3) := by decide +kernel
theorem dX11_isSign_12 : decode cX11_isSign 12 = .ok (.aload_n 0, 1) := by decide +kernel
theorem dX11_isSign_13 : decode cX11_isSign 13 = .ok (.getfield 168, 3) := by decide +kernel
theorem dX11_isSign_16 : decode cX11_isSign 16 = .ok (.iaload, 1) := by decide +kernel
theorem dX11_isSign_17 : decode cX11_isSign 17 = .ok (.iload_n 1, 1) := by decide +kernel
theorem dX11_isSign_18 : decode cX11_isSign 18 = .ok (.if_icmp .ne 7, 3) := by decide +kernel
theorem dX11_isSign_21 : decode cX11_isSign 21 = .ok (.iconst 1, 1) := by decide +kernel
theorem dX11_isSign_22 : decode cX11_isSign 22 = .ok (.goto 4, 3) := by decide +kernel
theorem dX11_isSign_25 : decode cX11_isSign 25 = .ok (.iconst 0, 1) := by decide +kernel
theorem dX11_isSign_26 : decode cX11_isSign 26 = .ok (.ireturn, 1) := by decide +kernel
theorem dX11_fails_0 : decode cX11_fails 0 = .ok (.aload_n 0, 1) := by decide +kernel
theorem dX11_fails_1 : decode cX11_fails 1 = .ok (.iload_n 1, 1) := by decide +kernel
theorem dX11_fails_2 : decode cX11_fails 2 = .ok (.bipush 16, 2) := by decide +kernel
theorem dX11_fails_4 : decode cX11_fails 4 = .ok (.aload_n 0, 1) := by decide +kernel
theorem dX11_fails_5 : decode cX11_fails 5 = .ok (.getfield 168, 3) := by decide +kernel
theorem dX11_fails_8 : decode cX11_fails 8 = .ok (.imul, 1) := by decide +kernel
theorem dX11_fails_9 : decode cX11_fails 9 = .ok (.iadd, 1) := by decide +kernel
theorem dX11_fails_10 : decode cX11_fails 10 = .ok (.putfield 189, 3) := by decide +kernel
theorem dX11_fails_13 : decode cX11_fails 13 = .ok (.iconst 0, 1) := by decide +kernel
theorem dX11_fails_14 : decode cX11_fails 14 = .ok (.ireturn, 1) := by decide +kernel
theorem dX11_puts_0 : decode cX11_puts 0 = .ok (.aload_n 0, 1) := by decide +kernel
theorem dX11_puts_1 : decode cX11_puts 1 = .ok (.getfield 50, 3) := by decide +kernel
theorem dX11_puts_4 : decode cX11_puts 4 = .ok (.aload_n 0, 1) := by decide +kernel
theorem dX11_puts_5 : decode cX11_puts 5 = .ok (.getfield 192, 3) := by decide +kernel
theorem dX11_puts_8 : decode cX11_puts 8 = .ok (.iload_n 1, 1) := by decide +kernel
theorem dX11_puts_9 : decode cX11_puts 9 = .ok (.iastore, 1) := by decide +kernel
theorem dX11_puts_10 : decode cX11_puts 10 = .ok (.aload_n 0, 1) := by decide +kernel
theorem dX11_puts_11 : decode cX11_puts 11 = .ok (.dup, 1) := by decide +kernel
theorem dX11_puts_12 : decode cX11_puts 12 = .ok (.getfield 192, 3) := by decide +kernel
theorem dX11_puts_15 : decode cX11_puts 15 = .ok (.iconst 1, 1) := by decide +kernel
theorem dX11_puts_16 : decode cX11_puts 16 = .ok (.iadd, 1) := by decide +kernel
theorem dX11_puts_17 : decode cX11_puts 17 = .ok (.putfield 192, 3) := by decide +kernel
theorem dX11_puts_20 : decode cX11_puts 20 = .ok (.return_, 1) := by decide +kernel
theorem dX11_fact_0 : decode cX11_fact 0 = .ok (.aload_n 0, 1) := by decide +kernel
theorem dX11_fact_1 : decode cX11_fact 1 = .ok (.getfield 178, 3) := by decide +kernel
theorem dX11_fact_4 : decode cX11_fact 4 = .ok (.iconst 1, 1) := by decide +kernel
theorem dX11_fact_5 : decode cX11_fact 5 = .ok (.if_icmp .eq 5, 3) := by decide +kernel
theorem dX11_fact_8 : decode cX11_fact 8 = .ok (.iconst 0, 1) := by decide +kernel
theorem dX11_fact_9 : decode cX11_fact 9 = .ok (.ireturn, 1) := by decide +kernel
theorem dX11_fact_10 : decode cX11_fact 10 = .ok (.aload_n 0, 1) := by decide +kernel
theorem dX11_fact_11 : decode cX11_fact 11 = .ok (.getfield 171, 3) := by decide +kernel
theorem dX11_fact_14 : decode cX11_fact 14 = .ok (.ldc2_w 195, 3) := by decide +kernel
theorem dX11_fact_17 : decode cX11_fact 17 = .ok (.lcmp, 1) := by decide +kernel
theorem dX11_fact_18 : decode cX11_fact 18 = .ok (.ifCond .ne 5, 3) := by decide +kernel
theorem dX11_fact_21 : decode cX11_fact 21 = .ok (.iconst 1, 1) := by decide +kernel
theorem dX11_fact_22 : decode cX11_fact 22 = .ok (.ireturn, 1) := by decide +kernel
theorem dX11_fact_23 : decode cX11_fact 23 = .ok (.aload_n 0, 1) := by decide +kernel
theorem dX11_fact_24 : decode cX11_fact 24 = .ok (.getfield 171, 3) := by decide +kernel
theorem dX11_fact_27 : decode cX11_fact 27 = .ok (.ldc2_w 197, 3) := by decide +kernel
theorem dX11_fact_30 : decode cX11_fact 30 = .ok (.lcmp, 1) := by decide +kernel
theorem dX11_fact_31 : decode cX11_fact 31 = .ok (.ifCond .ne 5, 3) := by decide +kernel
theorem dX11_fact_34 : decode cX11_fact 34 = .ok (.iconst 2, 1) := by decide +kernel
theorem dX11_fact_35 : decode cX11_fact 35 = .ok (.ireturn, 1) := by decide +kernel
theorem dX11_fact_36 : decode cX11_fact 36 = .ok (.aload_n 0, 1) := by decide +kernel
theorem dX11_fact_37 : decode cX11_fact 37 = .ok (.getfield 171, 3) := by decide +kernel
theorem dX11_fact_40 : decode cX11_fact 40 = .ok (.ldc2_w 199, 3) := by decide +kernel
theorem dX11_fact_43 : decode cX11_fact 43 = .ok (.lcmp, 1) := by decide +kernel
theorem dX11_fact_44 : decode cX11_fact 44 = .ok (.ifCond .ne 7, 3) := by decide +kernel
theorem dX11_fact_47 : decode cX11_fact 47 = .ok (.iconst 3, 1) := by decide +kernel
theorem dX11_fact_48 : decode cX11_fact 48 = .ok (.goto 19, 3) := by decide +kernel
theorem dX11_fact_51 : decode cX11_fact 51 = .ok (.aload_n 0, 1) := by decide +kernel
theorem dX11_fact_52 : decode cX11_fact 52 = .ok (.getfield 171, 3) := by decide +kernel
theorem dX11_fact_55 : decode cX11_fact 55 = .ok (.ldc2_w 201, 3) := by decide +kernel
theorem dX11_fact_58 : decode cX11_fact 58 = .ok (.lcmp, 1) := by decide +kernel
theorem dX11_fact_59 : decode cX11_fact 59 = .ok (.ifCond .ne 7, 3) := by decide +kernel
theorem dX11_fact_62 : decode cX11_fact 62 = .ok (.iconst 4, 1) := by decide +kernel
theorem dX11_fact_63 : decode cX11_fact 63 = .ok (.goto 4, 3) := by decide +kernel
theorem dX11_fact_66 : decode cX11_fact 66 = .ok (.iconst 0, 1) := by decide +kernel
theorem dX11_fact_67 : decode cX11_fact 67 = .ok (.ireturn, 1) := by decide +kernel
theorem dX11_reads_0 : decode cX11_reads 0 = .ok (.iconst 0, 1) := by decide +kernel
theorem dX11_reads_1 : decode cX11_reads 1 = .ok (.istore_n 1, 1) := by decide +kernel
theorem dX11_reads_2 : decode cX11_reads 2 = .ok (.iconst 1, 1) := by decide +kernel
theorem dX11_reads_3 : decode cX11_reads 3 = .ok (.istore_n 2, 1) := by decide +kernel
theorem dX11_reads_4 : decode cX11_reads 4 = .ok (.aload_n 0, 1) := by decide +kernel
theorem dX11_reads_5 : decode cX11_reads 5 = .ok (.getfield 56, 3) := by decide +kernel
theorem dX11_reads_8 : decode cX11_reads 8 = .ok (.iconst 0, 1) := by decide +kernel
theorem dX11_reads_9 : decode cX11_reads 9 = .ok (.iconst 0, 1) := by decide +kernel
theorem dX11_reads_10 : decode cX11_reads 10 = .ok (.bastore, 1) := by decide +kernel
theorem dX11_reads_11 : decode cX11_reads 11 = .ok (.iload_n 2, 1) := by decide +kernel
theorem dX11_reads_12 : decode cX11_reads 12 = .ok (.ifCond .eq 167, 3) := by decide +kernel
theorem dX11_reads_15 : decode cX11_reads 15 = .ok (.aload_n 0, 1) := by decide +kernel
theorem dX11_reads_16 : decode cX11_reads 16 = .ok (.invokevirtual 203, 3) := by decide +kernel
theorem dX11_reads_19 : decode cX11_reads 19 = .ok (.istore_n 3, 1) := by decide +kernel
theorem dX11_reads_20 : decode cX11_reads 20 = .ok (.aload_n 0, 1) := by decide +kernel
theorem dX11_reads_21 : decode cX11_reads 21 = .ok (.ldc2_w 207, 3) := by decide +kernel
theorem dX11_reads_24 : decode cX11_reads 24 = .ok (.invokevirtual 209, 3) := by decide +kernel
theorem dX11_reads_27 : decode cX11_reads 27 = .ok (.istore 4, 2) := by decide +kernel
theorem dX11_reads_29 : decode cX11_reads 29 = .ok (.aload_n 0, 1) := by decide +kernel
theorem dX11_reads_30 : decode cX11_reads 30 = .ok (.bipush 40, 2) := by decide +kernel
theorem dX11_reads_32 : decode cX11_reads 32 = .ok (.invokevirtual 213, 3) := by decide +kernel
theorem dX11_reads_35 : decode cX11_reads 35 = .ok (.istore 5, 2) := by decide +kernel
theorem dX11_reads_37 : decode cX11_reads 37 = .ok (.iload_n 3, 1) := by decide +kernel
theorem dX11_reads_38 : decode cX11_reads 38 = .ok (.ifCond .ne 27, 3) := by decide +kernel
theorem dX11_reads_41 : decode cX11_reads 41 = .ok (.iload 4, 2) := by decide +kernel
theorem dX11_reads_43 : decode cX11_reads 43 = .ok (.ifCond .ne 22, 3) := by decide +kernel
theorem dX11_reads_46 : decode cX11_reads 46 = .ok (.iload 5, 2) := by decide +kernel
theorem dX11_reads_48 : decode cX11_reads 48 = .ok (.ifCond .ne 17, 3) := by decide +kernel
theorem dX11_reads_51 : decode cX11_reads 51 = .ok (.aload_n 0, 1) := by decide +kernel
theorem dX11_reads_52 : decode cX11_reads 52 = .ok (.getfield 178, 3) := by decide +kernel
theorem dX11_reads_55 : decode cX11_reads 55 = .ok (.iconst 2, 1) := by decide +kernel
theorem dX11_reads_56 : decode cX11_reads 56 = .ok (.if_icmp .eq 9, 3) := by decide +kernel
theorem dX11_reads_59 : decode cX11_reads 59 = .ok (.aload_n 0, 1) := by decide +kernel
theorem dX11_reads_60 : decode cX11_reads 60 = .ok (.iconst 1, 1) := by decide +kernel
theorem dX11_reads_61 : decode cX11_reads 61 = .ok (.invokevirtual 217, 3) := by decide +kernel
theorem dX11_reads_64 : decode cX11_reads 64 = .ok (.ireturn, 1) := by decide +kernel
theorem dX11_reads_65 : decode cX11_reads 65 = .ok (.iload_n 1, 1) := by decide +kernel
theorem dX11_reads_66 : decode cX11_reads 66 = .ok (.iconst 5, 1) := by decide +kernel
theorem dX11_reads_67 : decode cX11_reads 67 = .ok (.if_icmp .ne 9, 3) := by decide +kernel
theorem dX11_reads_70 : decode cX11_reads 70 = .ok (.aload_n 0, 1) := by decide +kernel
theorem dX11_reads_71 : decode cX11_reads 71 = .ok (.iconst 5, 1) := by decide +kernel
theorem dX11_reads_72 : decode cX11_reads 72 = .ok (.invokevirtual 217, 3) := by decide +kernel
theorem dX11_reads_75 : decode cX11_reads 75 = .ok (.ireturn, 1) := by decide +kernel
theorem dX11_reads_76 : decode cX11_reads 76 = .ok (.iload 4, 2) := by decide +kernel
theorem dX11_reads_78 : decode cX11_reads 78 = .ok (.ifCond .ne 8, 3) := by decide +kernel
theorem dX11_reads_81 : decode cX11_reads 81 = .ok (.iload 5, 2) := by decide +kernel
theorem dX11_reads_83 : decode cX11_reads 83 = .ok (.ifCond .eq 48, 3) := by decide +kernel
theorem dX11_reads_86 : decode cX11_reads 86 = .ok (.aload_n 0, 1) := by decide +kernel
theorem dX11_reads_87 : decode cX11_reads 87 = .ok (.iload 4, 2) := by decide +kernel
theorem dX11_reads_89 : decode cX11_reads 89 = .ok (.ifCond .eq 8, 3) := by decide +kernel
theorem dX11_reads_92 : decode cX11_reads 92 = .ok (.bipush 30, 2) := by decide +kernel
theorem dX11_reads_94 : decode cX11_reads 94 = .ok (.goto 5, 3) := by decide +kernel
theorem dX11_reads_97 : decode cX11_reads 97 = .ok (.bipush 28, 2) := by decide +kernel
theorem dX11_reads_99 : decode cX11_reads 99 = .ok (.invokevirtual 220, 3) := by decide +kernel
theorem dX11_reads_102 : decode cX11_reads 102 = .ok (.iinc 1 1, 3) := by decide +kernel
theorem dX11_reads_105 : decode cX11_reads 105 = .ok (.aload_n 0, 1) := by decide +kernel
theorem dX11_reads_106 : decode cX11_reads 106 = .ok (.getfield 53, 3) := by decide +kernel
theorem dX11_reads_109 : decode cX11_reads 109 = .ok (.iload_n 1, 1) := by decide +kernel
theorem dX11_reads_110 : decode cX11_reads 110 = .ok (.iload 4, 2) := by decide +kernel
theorem dX11_reads_112 : decode cX11_reads 112 = .ok (.ifCond .eq 7, 3) := by decide +kernel
theorem dX11_reads_115 : decode cX11_reads 115 = .ok (.iconst 1, 1) := by decide +kernel
theorem dX11_reads_116 : decode cX11_reads 116 = .ok (.goto 4, 3) := by decide +kernel
theorem dX11_reads_119 : decode cX11_reads 119 = .ok (.iconst 2, 1) := by decide +kernel
theorem dX11_reads_120 : decode cX11_reads 120 = .ok (.iastore, 1) := by decide +kernel
theorem dX11_reads_121 : decode cX11_reads 121 = .ok (.aload_n 0, 1) := by decide +kernel
theorem dX11_reads_122 : decode cX11_reads 122 = .ok (.getfield 56, 3) := by decide +kernel
theorem dX11_reads_125 : decode cX11_reads 125 = .ok (.iload_n 1, 1) := by decide +kernel
theorem dX11_reads_126 : decode cX11_reads 126 = .ok (.iconst 0, 1) := by decide +kernel
theorem dX11_reads_127 : decode cX11_reads 127 = .ok (.bastore, 1) := by decide +kernel
theorem dX11_reads_128 : decode cX11_reads 128 = .ok (.goto 44, 3) := by decide +kernel
theorem dX11_reads_131 : decode cX11_reads 131 = .ok (.aload_n 0, 1) := by decide +kernel
theorem dX11_reads_132 : decode cX11_reads 132 = .ok (.iload_n 3, 1) := by decide +kernel
theorem dX11_reads_133 : decode cX11_reads 133 = .ok (.ifCond .le 7, 3) := by decide +kernel
theorem dX11_reads_136 : decode cX11_reads 136 = .ok (.iload_n 3, 1) := by decide +kernel
theorem dX11_reads_137 : decode cX11_reads 137 = .ok (.goto 10, 3) := by decide +kernel
theorem dX11_reads_140 : decode cX11_reads 140 = .ok (.bipush 100, 2) := by decide +kernel
theorem dX11_reads_142 : decode cX11_reads 142 = .ok (.aload_n 0, 1) := by decide +kernel
theorem dX11_reads_143 : decode cX11_reads 143 = .ok (.getfield 175, 3) := by decide +kernel
theorem dX11_reads_146 : decode cX11_reads 146 = .ok (.iadd, 1) := by decide +kernel
theorem dX11_reads_147 : decode cX11_reads 147 = .ok (.invokevirtual 220, 3) := by decide +kernel
theorem dX11_reads_150 : decode cX11_reads 150 = .ok (.iconst 0, 1) := by decide +kernel
theorem dX11_reads_151 : decode cX11_reads 151 = .ok (.istore_n 2, 1) := by decide +kernel
theorem dX11_reads_152 : decode cX11_reads 152 = .ok (.iload_n 1, 1) := by decide +kernel
theorem dX11_reads_153 : decode cX11_reads 153 = .ok (.ifCond .le 19, 3) := by decide +kernel
theorem dX11_reads_156 : decode cX11_reads 156 = .ok (.aload_n 0, 1) := by decide +kernel
theorem dX11_reads_157 : decode cX11_reads 157 = .ok (.getfield 53, 3) := by decide +kernel
theorem dX11_reads_160 : decode cX11_reads 160 = .ok (.iload_n 1, 1) := by decide +kernel
theorem dX11_reads_161 : decode cX11_reads 161 = .ok (.iaload, 1) := by decide +kernel
theorem dX11_reads_162 : decode cX11_reads 162 = .ok (.iconst 1, 1) := by decide +kernel
theorem dX11_reads_163 : decode cX11_reads 163 = .ok (.if_icmp .ne 9, 3) := by decide +kernel
theorem dX11_reads_166 : decode cX11_reads 166 = .ok (.iinc 1 (-1), 3) := by decide +kernel
theorem dX11_reads_169 : decode cX11_reads 169 = .ok (.goto (-17), 3) := by decide +kernel
theorem dX11_reads_172 : decode cX11_reads 172 = .ok (.aload_n 0, 1) := by decide +kernel
theorem dX11_reads_173 : decode cX11_reads 173 = .ok (.invokevirtual 224, 3) := by decide +kernel
theorem dX11_reads_176 : decode cX11_reads 176 = .ok (.goto (-165), 3) := by decide +kernel
theorem dX11_reads_179 : decode cX11_reads 179 = .ok (.aload_n 0, 1) := by decide +kernel
theorem dX11_reads_180 : decode cX11_reads 180 = .ok (.bipush 43, 2) := by decide +kernel
theorem dX11_reads_182 : decode cX11_reads 182 = .ok (.invokevirtual 213, 3) := by decide +kernel
theorem dX11_reads_185 : decode cX11_reads 185 = .ok (.ifCond .ne 21, 3) := by decide +kernel
theorem dX11_reads_188 : decode cX11_reads 188 = .ok (.aload_n 0, 1) := by decide +kernel
theorem dX11_reads_189 : decode cX11_reads 189 = .ok (.bipush 45, 2) := by decide +kernel
theorem dX11_reads_191 : decode cX11_reads 191 = .ok (.invokevirtual 213, 3) := by decide +kernel
theorem dX11_reads_194 : decode cX11_reads 194 = .ok (.ifCond .ne 12, 3) := by decide +kernel
theorem dX11_reads_197 : decode cX11_reads 197 = .ok (.aload_n 0, 1) := by decide +kernel
theorem dX11_reads_198 : decode cX11_reads 198 = .ok (.bipush 42, 2) := by decide +kernel
theorem dX11_reads_200 : decode cX11_reads 200 = .ok (.invokevirtual 213, 3) := by decide +kernel
theorem dX11_reads_203 : decode cX11_reads 203 = .ok (.ifCond .eq 42, 3) := by decide +kernel
theorem dX11_reads_206 : decode cX11_reads 206 = .ok (.aload_n 0, 1) := by decide +kernel
theorem dX11_reads_207 : decode cX11_reads 207 = .ok (.aload_n 0, 1) := by decide +kernel
theorem dX11_reads_208 : decode cX11_reads 208 = .ok (.bipush 43, 2) := by decide +kernel
theorem dX11_reads_210 : decode cX11_reads 210 = .ok (.invokevirtual 213, 3) := by decide +kernel
theorem dX11_reads_213 : decode cX11_reads 213 = .ok (.ifCond .eq 8, 3) := by decide +kernel
theorem dX11_reads_216 : decode cX11_reads 216 = .ok (.bipush 20, 2) := by decide +kernel
theorem dX11_reads_218 : decode cX11_reads 218 = .ok (.goto 19, 3) := by decide +kernel
theorem dX11_reads_221 : decode cX11_reads 221 = .ok (.aload_n 0, 1) := by decide +kernel
theorem dX11_reads_222 : decode cX11_reads 222 = .ok (.bipush 45, 2) := by decide +kernel
theorem dX11_reads_224 : decode cX11_reads 224 = .ok (.invokevirtual 213, 3) := by decide +kernel
theorem dX11_reads_227 : decode cX11_reads 227 = .ok (.ifCond .eq 8, 3) := by decide +kernel
theorem dX11_reads_230 : decode cX11_reads 230 = .ok (.bipush 21, 2) := by decide +kernel
theorem dX11_reads_232 : decode cX11_reads 232 = .ok (.goto 5, 3) := by decide +kernel
theorem dX11_reads_235 : decode cX11_reads 235 = .ok (.bipush 22, 2) := by decide +kernel
theorem dX11_reads_237 : decode cX11_reads 237 = .ok (.invokevirtual 220, 3) := by decide +kernel
theorem dX11_reads_240 : decode cX11_reads 240 = .ok (.iconst 1, 1) := by decide +kernel
theorem dX11_reads_241 : decode cX11_reads 241 = .ok (.istore_n 2, 1) := by decide +kernel
theorem dX11_reads_242 : decode cX11_reads 242 = .ok (.goto 182, 3) := by decide +kernel
theorem dX11_reads_245 : decode cX11_reads 245 = .ok (.aload_n 0, 1) := by decide +kernel
theorem dX11_reads_246 : decode cX11_reads 246 = .ok (.bipush 60, 2) := by decide +kernel
theorem dX11_reads_248 : decode cX11_reads 248 = .ok (.invokevirtual 213, 3) := by decide +kernel
theorem dX11_reads_251 : decode cX11_reads 251 = .ok (.ifCond .ne 12, 3) := by decide +kernel
theorem dX11_reads_254 : decode cX11_reads 254 = .ok (.aload_n 0, 1) := by decide +kernel
theorem dX11_reads_255 : decode cX11_reads 255 = .ok (.bipush 61, 2) := by decide +kernel
theorem dX11_reads_257 : decode cX11_reads 257 = .ok (.invokevirtual 213, 3) := by decide +kernel
theorem dX11_reads_260 : decode cX11_reads 260 = .ok (.ifCond .eq 44, 3) := by decide +kernel
theorem dX11_reads_263 : decode cX11_reads 263 = .ok (.aload_n 0, 1) := by decide +kernel
theorem dX11_reads_264 : decode cX11_reads 264 = .ok (.getfield 56, 3) := by decide +kernel
theorem dX11_reads_267 : decode cX11_reads 267 = .ok (.iload_n 1, 1) := by decide +kernel
theorem dX11_reads_268 : decode cX11_reads 268 = .ok (.baload, 1) := by decide +kernel
theorem dX11_reads_269 : decode cX11_reads 269 = .ok (.ifCond .ne 35, 3) := by decide +kernel
theorem dX11_reads_272 : decode cX11_reads 272 = .ok (.aload_n 0, 1) := by decide +kernel
theorem dX11_reads_273 : decode cX11_reads 273 = .ok (.aload_n 0, 1) := by decide +kernel
theorem dX11_reads_274 : decode cX11_reads 274 = .ok (.bipush 60, 2) := by decide +kernel
theorem dX11_reads_276 : decode cX11_reads 276 = .ok (.invokevirtual 213, 3) := by decide +kernel
theorem dX11_reads_279 : decode cX11_reads 279 = .ok (.ifCond .eq 8, 3) := by decide +kernel
theorem dX11_reads_282 : decode cX11_reads 282 = .ok (.bipush 24, 2) := by decide +kernel
theorem dX11_reads_284 : decode cX11_reads 284 = .ok (.goto 5, 3) := by decide +kernel
theorem dX11_reads_287 : decode cX11_reads 287 = .ok (.bipush 25, 2) := by decide +kernel
theorem dX11_reads_289 : decode cX11_reads 289 = .ok (.invokevirtual 220, 3) := by decide +kernel
theorem dX11_reads_292 : decode cX11_reads 292 = .ok (.aload_n 0, 1) := by decide +kernel
theorem dX11_reads_293 : decode cX11_reads 293 = .ok (.getfield 56, 3) := by decide +kernel
theorem dX11_reads_296 : decode cX11_reads 296 = .ok (.iload_n 1, 1) := by decide +kernel
theorem dX11_reads_297 : decode cX11_reads 297 = .ok (.iconst 1, 1) := by decide +kernel
theorem dX11_reads_298 : decode cX11_reads 298 = .ok (.bastore, 1) := by decide +kernel
theorem dX11_reads_299 : decode cX11_reads 299 = .ok (.iconst 1, 1) := by decide +kernel
theorem dX11_reads_300 : decode cX11_reads 300 = .ok (.istore_n 2, 1) := by decide +kernel
theorem dX11_reads_301 : decode cX11_reads 301 = .ok (.goto 123, 3) := by decide +kernel
theorem dX11_reads_304 : decode cX11_reads 304 = .ok (.aload_n 0, 1) := by decide +kernel
theorem dX11_reads_305 : decode cX11_reads 305 = .ok (.ldc2_w 227, 3) := by decide +kernel
theorem dX11_reads_308 : decode cX11_reads 308 = .ok (.invokevirtual 209, 3) := by decide +kernel
theorem dX11_reads_311 : decode cX11_reads 311 = .ok (.ifCond .ne 13, 3) := by decide +kernel
theorem dX11_reads_314 : decode cX11_reads 314 = .ok (.aload_n 0, 1) := by decide +kernel
theorem dX11_reads_315 : decode cX11_reads 315 = .ok (.ldc2_w 229, 3) := by decide +kernel
theorem dX11_reads_318 : decode cX11_reads 318 = .ok (.invokevirtual 209, 3) := by decide +kernel
theorem dX11_reads_321 : decode cX11_reads 321 = .ok (.ifCond .eq 36, 3) := by decide +kernel
theorem dX11_reads_324 : decode cX11_reads 324 = .ok (.aload_n 0, 1) := by decide +kernel
theorem dX11_reads_325 : decode cX11_reads 325 = .ok (.aload_n 0, 1) := by decide +kernel
theorem dX11_reads_326 : decode cX11_reads 326 = .ok (.ldc2_w 227, 3) := by decide +kernel
theorem dX11_reads_329 : decode cX11_reads 329 = .ok (.invokevirtual 209, 3) := by decide +kernel
theorem dX11_reads_332 : decode cX11_reads 332 = .ok (.ifCond .eq 8, 3) := by decide +kernel
theorem dX11_reads_335 : decode cX11_reads 335 = .ok (.bipush 26, 2) := by decide +kernel
theorem dX11_reads_337 : decode cX11_reads 337 = .ok (.goto 5, 3) := by decide +kernel
theorem dX11_reads_340 : decode cX11_reads 340 = .ok (.bipush 27, 2) := by decide +kernel
theorem dX11_reads_342 : decode cX11_reads 342 = .ok (.invokevirtual 220, 3) := by decide +kernel
theorem dX11_reads_345 : decode cX11_reads 345 = .ok (.aload_n 0, 1) := by decide +kernel
theorem dX11_reads_346 : decode cX11_reads 346 = .ok (.getfield 56, 3) := by decide +kernel
theorem dX11_reads_349 : decode cX11_reads 349 = .ok (.iload_n 1, 1) := by decide +kernel
theorem dX11_reads_350 : decode cX11_reads 350 = .ok (.iconst 0, 1) := by decide +kernel
theorem dX11_reads_351 : decode cX11_reads 351 = .ok (.bastore, 1) := by decide +kernel
theorem dX11_reads_352 : decode cX11_reads 352 = .ok (.iconst 1, 1) := by decide +kernel
theorem dX11_reads_353 : decode cX11_reads 353 = .ok (.istore_n 2, 1) := by decide +kernel
theorem dX11_reads_354 : decode cX11_reads 354 = .ok (.goto 70, 3) := by decide +kernel
theorem dX11_reads_357 : decode cX11_reads 357 = .ok (.aload_n 0, 1) := by decide +kernel
theorem dX11_reads_358 : decode cX11_reads 358 = .ok (.bipush 41, 2) := by decide +kernel
theorem dX11_reads_360 : decode cX11_reads 360 = .ok (.invokevirtual 213, 3) := by decide +kernel
theorem dX11_reads_363 : decode cX11_reads 363 = .ok (.ifCond .eq 36, 3) := by decide +kernel
theorem dX11_reads_366 : decode cX11_reads 366 = .ok (.iload_n 1, 1) := by decide +kernel
theorem dX11_reads_367 : decode cX11_reads 367 = .ok (.ifCond .le 32, 3) := by decide +kernel
theorem dX11_reads_370 : decode cX11_reads 370 = .ok (.aload_n 0, 1) := by decide +kernel
theorem dX11_reads_371 : decode cX11_reads 371 = .ok (.bipush 29, 2) := by decide +kernel
theorem dX11_reads_373 : decode cX11_reads 373 = .ok (.invokevirtual 220, 3) := by decide +kernel
theorem dX11_reads_376 : decode cX11_reads 376 = .ok (.iinc 1 (-1), 3) := by decide +kernel
theorem dX11_reads_379 : decode cX11_reads 379 = .ok (.iload_n 1, 1) := by decide +kernel
theorem dX11_reads_380 : decode cX11_reads 380 = .ok (.ifCond .le 44, 3) := by decide +kernel
theorem dX11_reads_383 : decode cX11_reads 383 = .ok (.aload_n 0, 1) := by decide +kernel
theorem dX11_reads_384 : decode cX11_reads 384 = .ok (.getfield 53, 3) := by decide +kernel
theorem dX11_reads_387 : decode cX11_reads 387 = .ok (.iload_n 1, 1) := by decide +kernel
theorem dX11_reads_388 : decode cX11_reads 388 = .ok (.iaload, 1) := by decide +kernel
theorem dX11_reads_389 : decode cX11_reads 389 = .ok (.iconst 1, 1) := by decide +kernel
theorem dX11_reads_390 : decode cX11_reads 390 = .ok (.if_icmp .ne 34, 3) := by decide +kernel
theorem dX11_reads_393 : decode cX11_reads 393 = .ok (.iinc 1 (-1), 3) := by decide +kernel
theorem dX11_reads_396 : decode cX11_reads 396 = .ok (.goto (-17), 3) := by decide +kernel
theorem dX11_reads_399 : decode cX11_reads 399 = .ok (.iload_n 1, 1) := by decide +kernel
theorem dX11_reads_400 : decode cX11_reads 400 = .ok (.ifCond .ne 18, 3) := by decide +kernel
theorem dX11_reads_403 : decode cX11_reads 403 = .ok (.aload_n 0, 1) := by decide +kernel
theorem dX11_reads_404 : decode cX11_reads 404 = .ok (.bipush 59, 2) := by decide +kernel
theorem dX11_reads_406 : decode cX11_reads 406 = .ok (.invokevirtual 213, 3) := by decide +kernel
theorem dX11_reads_409 : decode cX11_reads 409 = .ok (.ifCond .eq 9, 3) := by decide +kernel
theorem dX11_reads_412 : decode cX11_reads 412 = .ok (.aload_n 0, 1) := by decide +kernel
theorem dX11_reads_413 : decode cX11_reads 413 = .ok (.invokevirtual 224, 3) := by decide +kernel
theorem dX11_reads_416 : decode cX11_reads 416 = .ok (.iconst 1, 1) := by decide +kernel
theorem dX11_reads_417 : decode cX11_reads 417 = .ok (.ireturn, 1) := by decide +kernel
theorem dX11_reads_418 : decode cX11_reads 418 = .ok (.aload_n 0, 1) := by decide +kernel
theorem dX11_reads_419 : decode cX11_reads 419 = .ok (.iconst 1, 1) := by decide +kernel
theorem dX11_reads_420 : decode cX11_reads 420 = .ok (.invokevirtual 217, 3) := by decide +kernel
theorem dX11_reads_423 : decode cX11_reads 423 = .ok (.ireturn, 1) := by decide +kernel
theorem dX11_reads_424 : decode cX11_reads 424 = .ok (.aload_n 0, 1) := by decide +kernel
theorem dX11_reads_425 : decode cX11_reads 425 = .ok (.invokevirtual 224, 3) := by decide +kernel
theorem dX11_reads_428 : decode cX11_reads 428 = .ok (.goto (-417), 3) := by decide +kernel
theorem dX11_opens_0 : decode cX11_opens 0 = .ok (.aload_n 0, 1) := by decide +kernel
theorem dX11_opens_1 : decode cX11_opens 1 = .ok (.getfield 63, 3) := by decide +kernel
theorem dX11_opens_4 : decode cX11_opens 4 = .ok (.iload_n 1, 1) := by decide +kernel
theorem dX11_opens_5 : decode cX11_opens 5 = .ok (.iconst 0, 1) := by decide +kernel
theorem dX11_opens_6 : decode cX11_opens 6 = .ok (.iastore, 1) := by decide +kernel
theorem dX11_opens_7 : decode cX11_opens 7 = .ok (.aload_n 0, 1) := by decide +kernel
theorem dX11_opens_8 : decode cX11_opens 8 = .ok (.getfield 69, 3) := by decide +kernel
theorem dX11_opens_11 : decode cX11_opens 11 = .ok (.iload_n 1, 1) := by decide +kernel
theorem dX11_opens_12 : decode cX11_opens 12 = .ok (.iconst 0, 1) := by decide +kernel
theorem dX11_opens_13 : decode cX11_opens 13 = .ok (.iastore, 1) := by decide +kernel
theorem dX11_opens_14 : decode cX11_opens 14 = .ok (.aload_n 0, 1) := by decide +kernel
theorem dX11_opens_15 : decode cX11_opens 15 = .ok (.getfield 72, 3) := by decide +kernel
theorem dX11_opens_18 : decode cX11_opens 18 = .ok (.iload_n 1, 1) := by decide +kernel
theorem dX11_opens_19 : decode cX11_opens 19 = .ok (.iconst 0, 1) := by decide +kernel
theorem dX11_opens_20 : decode cX11_opens 20 = .ok (.iastore, 1) := by decide +kernel
theorem dX11_opens_21 : decode cX11_opens 21 = .ok (.aload_n 0, 1) := by decide +kernel
theorem dX11_opens_22 : decode cX11_opens 22 = .ok (.getfield 75, 3) := by decide +kernel
theorem dX11_opens_25 : decode cX11_opens 25 = .ok (.iload_n 1, 1) := by decide +kernel
theorem dX11_opens_26 : decode cX11_opens 26 = .ok (.bipush 20, 2) := by decide +kernel
theorem dX11_opens_28 : decode cX11_opens 28 = .ok (.iastore, 1) := by decide +kernel
theorem dX11_opens_29 : decode cX11_opens 29 = .ok (.aload_n 0, 1) := by decide +kernel
theorem dX11_opens_30 : decode cX11_opens 30 = .ok (.getfield 81, 3) := by decide +kernel
theorem dX11_opens_33 : decode cX11_opens 33 = .ok (.iload_n 1, 1) := by decide +kernel
theorem dX11_opens_34 : decode cX11_opens 34 = .ok (.iconst 0, 1) := by decide +kernel
theorem dX11_opens_35 : decode cX11_opens 35 = .ok (.iastore, 1) := by decide +kernel
theorem dX11_opens_36 : decode cX11_opens 36 = .ok (.return_, 1) := by decide +kernel
theorem dX11_sums_0 : decode cX11_sums 0 = .ok (.aload_n 0, 1) := by decide +kernel
theorem dX11_sums_1 : decode cX11_sums 1 = .ok (.getfield 72, 3) := by decide +kernel
theorem dX11_sums_4 : decode cX11_sums 4 = .ok (.iload_n 1, 1) := by decide +kernel
theorem dX11_sums_5 : decode cX11_sums 5 = .ok (.aload_n 0, 1) := by decide +kernel
theorem dX11_sums_6 : decode cX11_sums 6 = .ok (.getfield 75, 3) := by decide +kernel
theorem dX11_sums_9 : decode cX11_sums 9 = .ok (.iload_n 1, 1) := by decide +kernel
theorem dX11_sums_10 : decode cX11_sums 10 = .ok (.iaload, 1) := by decide +kernel
theorem dX11_sums_11 : decode cX11_sums 11 = .ok (.bipush 21, 2) := by decide +kernel
theorem dX11_sums_13 : decode cX11_sums 13 = .ok (.if_icmp .ne 19, 3) := by decide +kernel
theorem dX11_sums_16 : decode cX11_sums 16 = .ok (.aload_n 0, 1) := by decide +kernel
theorem dX11_sums_17 : decode cX11_sums 17 = .ok (.getfield 72, 3) := by decide +kernel
theorem dX11_sums_20 : decode cX11_sums 20 = .ok (.iload_n 1, 1) := by decide +kernel
theorem dX11_sums_21 : decode cX11_sums 21 = .ok (.iaload, 1) := by decide +kernel
theorem dX11_sums_22 : decode cX11_sums 22 = .ok (.aload_n 0, 1) := by decide +kernel
theorem dX11_sums_23 : decode cX11_sums 23 = .ok (.getfield 78, 3) := by decide +kernel
theorem dX11_sums_26 : decode cX11_sums 26 = .ok (.iload_n 1, 1) := by decide +kernel
theorem dX11_sums_27 : decode cX11_sums 27 = .ok (.iaload, 1) := by decide +kernel
theorem dX11_sums_28 : decode cX11_sums 28 = .ok (.isub, 1) := by decide +kernel
theorem dX11_sums_29 : decode cX11_sums 29 = .ok (.goto 16, 3) := by decide +kernel
theorem dX11_sums_32 : decode cX11_sums 32 = .ok (.aload_n 0, 1) := by decide +kernel
theorem dX11_sums_33 : decode cX11_sums 33 = .ok (.getfield 72, 3) := by decide +kernel
theorem dX11_sums_36 : decode cX11_sums 36 = .ok (.iload_n 1, 1) := by decide +kernel
theorem dX11_sums_37 : decode cX11_sums 37 = .ok (.iaload, 1) := by decide +kernel
theorem dX11_sums_38 : decode cX11_sums 38 = .ok (.aload_n 0, 1) := by decide +kernel
theorem dX11_sums_39 : decode cX11_sums 39 = .ok (.getfield 78, 3) := by decide +kernel
theorem dX11_sums_42 : decode cX11_sums 42 = .ok (.iload_n 1, 1) := by decide +kernel
theorem dX11_sums_43 : decode cX11_sums 43 = .ok (.iaload, 1) := by decide +kernel
theorem dX11_sums_44 : decode cX11_sums 44 = .ok (.iadd, 1) := by decide +kernel
theorem dX11_sums_45 : decode cX11_sums 45 = .ok (.iastore, 1) := by decide +kernel
theorem dX11_sums_46 : decode cX11_sums 46 = .ok (.aload_n 0, 1) := by decide +kernel
theorem dX11_sums_47 : decode cX11_sums 47 = .ok (.getfield 81, 3) := by decide +kernel
theorem dX11_sums_50 : decode cX11_sums 50 = .ok (.iload_n 1, 1) := by decide +kernel
theorem dX11_sums_51 : decode cX11_sums 51 = .ok (.iconst 0, 1) := by decide +kernel
theorem dX11_sums_52 : decode cX11_sums 52 = .ok (.iastore, 1) := by decide +kernel
theorem dX11_sums_53 : decode cX11_sums 53 = .ok (.return_, 1) := by decide +kernel
theorem dX11_tests_0 : decode cX11_tests 0 = .ok (.aload_n 0, 1) := by decide +kernel
theorem dX11_tests_1 : decode cX11_tests 1 = .ok (.iload_n 1, 1) := by decide +kernel
theorem dX11_tests_2 : decode cX11_tests 2 = .ok (.invokevirtual 231, 3) := by decide +kernel
theorem dX11_tests_5 : decode cX11_tests 5 = .ok (.aload_n 0, 1) := by decide +kernel
theorem dX11_tests_6 : decode cX11_tests 6 = .ok (.getfield 72, 3) := by decide +kernel
theorem dX11_tests_9 : decode cX11_tests 9 = .ok (.iload_n 1, 1) := by decide +kernel
theorem dX11_tests_10 : decode cX11_tests 10 = .ok (.iaload, 1) := by decide +kernel
theorem dX11_tests_11 : decode cX11_tests 11 = .ok (.istore_n 2, 1) := by decide +kernel
theorem dX11_tests_12 : decode cX11_tests 12 = .ok (.aload_n 0, 1) := by decide +kernel
theorem dX11_tests_13 : decode cX11_tests 13 = .ok (.getfield 69, 3) := by decide +kernel
theorem dX11_tests_16 : decode cX11_tests 16 = .ok (.iload_n 1, 1) := by decide +kernel
theorem dX11_tests_17 : decode cX11_tests 17 = .ok (.iaload, 1) := by decide +kernel
theorem dX11_tests_18 : decode cX11_tests 18 = .ok (.bipush 24, 2) := by decide +kernel
theorem dX11_tests_20 : decode cX11_tests 20 = .ok (.if_icmp .ne 24, 3) := by decide +kernel
theorem dX11_tests_23 : decode cX11_tests 23 = .ok (.aload_n 0, 1) := by decide +kernel
theorem dX11_tests_24 : decode cX11_tests 24 = .ok (.getfield 66, 3) := by decide +kernel
theorem dX11_tests_27 : decode cX11_tests 27 = .ok (.iload_n 1, 1) := by decide +kernel
theorem dX11_tests_28 : decode cX11_tests 28 = .ok (.iaload, 1) := by decide +kernel
theorem dX11_tests_29 : decode cX11_tests 29 = .ok (.aload_n 0, 1) := by decide +kernel
theorem dX11_tests_30 : decode cX11_tests 30 = .ok (.getfield 72, 3) := by decide +kernel
theorem dX11_tests_33 : decode cX11_tests 33 = .ok (.iload_n 1, 1) := by decide +kernel
theorem dX11_tests_34 : decode cX11_tests 34 = .ok (.iaload, 1) := by decide +kernel
theorem dX11_tests_35 : decode cX11_tests 35 = .ok (.if_icmp .ge 7, 3) := by decide +kernel
theorem dX11_tests_38 : decode cX11_tests 38 = .ok (.iconst 1, 1) := by decide +kernel
theorem dX11_tests_39 : decode cX11_tests 39 = .ok (.goto 4, 3) := by decide +kernel
theorem dX11_tests_42 : decode cX11_tests 42 = .ok (.iconst 0, 1) := by decide +kernel
theorem dX11_tests_43 : decode cX11_tests 43 = .ok (.istore_n 2, 1) := by decide +kernel
theorem dX11_tests_44 : decode cX11_tests 44 = .ok (.aload_n 0, 1) := by decide +kernel
theorem dX11_tests_45 : decode cX11_tests 45 = .ok (.getfield 69, 3) := by decide +kernel
theorem dX11_tests_48 : decode cX11_tests 48 = .ok (.iload_n 1, 1) := by decide +kernel
theorem dX11_tests_49 : decode cX11_tests 49 = .ok (.iaload, 1) := by decide +kernel
theorem dX11_tests_50 : decode cX11_tests 50 = .ok (.bipush 25, 2) := by decide +kernel
theorem dX11_tests_52 : decode cX11_tests 52 = .ok (.if_icmp .ne 24, 3) := by decide +kernel
theorem dX11_tests_55 : decode cX11_tests 55 = .ok (.aload_n 0, 1) := by decide +kernel
theorem dX11_tests_56 : decode cX11_tests 56 = .ok (.getfield 66, 3) := by decide +kernel
theorem dX11_tests_59 : decode cX11_tests 59 = .ok (.iload_n 1, 1) := by decide +kernel
theorem dX11_tests_60 : decode cX11_tests 60 = .ok (.iaload, 1) := by decide +kernel
theorem dX11_tests_61 : decode cX11_tests 61 = .ok (.aload_n 0, 1) := by decide +kernel
theorem dX11_tests_62 : decode cX11_tests 62 = .ok (.getfield 72, 3) := by decide +kernel
theorem dX11_tests_65 : decode cX11_tests 65 = .ok (.iload_n 1, 1) := by decide +kernel
theorem dX11_tests_66 : decode cX11_tests 66 = .ok (.iaload, 1) := by decide +kernel
theorem dX11_tests_67 : decode cX11_tests 67 = .ok (.if_icmp .ne 7, 3) := by decide +kernel
theorem dX11_tests_70 : decode cX11_tests 70 = .ok (.iconst 1, 1) := by decide +kernel
theorem dX11_tests_71 : decode cX11_tests 71 = .ok (.goto 4, 3) := by decide +kernel
theorem dX11_tests_74 : decode cX11_tests 74 = .ok (.iconst 0, 1) := by decide +kernel
theorem dX11_tests_75 : decode cX11_tests 75 = .ok (.istore_n 2, 1) := by decide +kernel
theorem dX11_tests_76 : decode cX11_tests 76 = .ok (.aload_n 0, 1) := by decide +kernel
theorem dX11_tests_77 : decode cX11_tests 77 = .ok (.getfield 63, 3) := by decide +kernel
theorem dX11_tests_80 : decode cX11_tests 80 = .ok (.iload_n 1, 1) := by decide +kernel
theorem dX11_tests_81 : decode cX11_tests 81 = .ok (.iaload, 1) := by decide +kernel
theorem dX11_tests_82 : decode cX11_tests 82 = .ok (.bipush 26, 2) := by decide +kernel
theorem dX11_tests_84 : decode cX11_tests 84 = .ok (.if_icmp .ne 22, 3) := by decide +kernel
theorem dX11_tests_87 : decode cX11_tests 87 = .ok (.aload_n 0, 1) := by decide +kernel
theorem dX11_tests_88 : decode cX11_tests 88 = .ok (.getfield 60, 3) := by decide +kernel
theorem dX11_tests_91 : decode cX11_tests 91 = .ok (.iload_n 1, 1) := by decide +kernel
theorem dX11_tests_92 : decode cX11_tests 92 = .ok (.iaload, 1) := by decide +kernel
theorem dX11_tests_93 : decode cX11_tests 93 = .ok (.ifCond .eq 11, 3) := by decide +kernel
theorem dX11_tests_96 : decode cX11_tests 96 = .ok (.iload_n 2, 1) := by decide +kernel
theorem dX11_tests_97 : decode cX11_tests 97 = .ok (.ifCond .eq 7, 3) := by decide +kernel
theorem dX11_tests_100 : decode cX11_tests 100 = .ok (.iconst 1, 1) := by decide +kernel
theorem dX11_tests_101 : decode cX11_tests 101 = .ok (.goto 4, 3) := by decide +kernel
theorem dX11_tests_104 : decode cX11_tests 104 = .ok (.iconst 0, 1) := by decide +kernel
theorem dX11_tests_105 : decode cX11_tests 105 = .ok (.istore_n 2, 1) := by decide +kernel
theorem dX11_tests_106 : decode cX11_tests 106 = .ok (.aload_n 0, 1) := by decide +kernel
theorem dX11_tests_107 : decode cX11_tests 107 = .ok (.getfield 63, 3) := by decide +kernel
theorem dX11_tests_110 : decode cX11_tests 110 = .ok (.iload_n 1, 1) := by decide +kernel
theorem dX11_tests_111 : decode cX11_tests 111 = .ok (.iaload, 1) := by decide +kernel
theorem dX11_tests_112 : decode cX11_tests 112 = .ok (.bipush 27, 2) := by decide +kernel
theorem dX11_tests_114 : decode cX11_tests 114 = .ok (.if_icmp .ne 22, 3) := by decide +kernel
theorem dX11_tests_117 : decode cX11_tests 117 = .ok (.aload_n 0, 1) := by decide +kernel
theorem dX11_tests_118 : decode cX11_tests 118 = .ok (.getfield 60, 3) := by decide +kernel
theorem dX11_tests_121 : decode cX11_tests 121 = .ok (.iload_n 1, 1) := by decide +kernel
theorem dX11_tests_122 : decode cX11_tests 122 = .ok (.iaload, 1) := by decide +kernel
theorem dX11_tests_123 : decode cX11_tests 123 = .ok (.ifCond .ne 7, 3) := by decide +kernel
theorem dX11_tests_126 : decode cX11_tests 126 = .ok (.iload_n 2, 1) := by decide +kernel
theorem dX11_tests_127 : decode cX11_tests 127 = .ok (.ifCond .eq 7, 3) := by decide +kernel
theorem dX11_tests_130 : decode cX11_tests 130 = .ok (.iconst 1, 1) := by decide +kernel
theorem dX11_tests_131 : decode cX11_tests 131 = .ok (.goto 4, 3) := by decide +kernel
theorem dX11_tests_134 : decode cX11_tests 134 = .ok (.iconst 0, 1) := by decide +kernel
theorem dX11_tests_135 : decode cX11_tests 135 = .ok (.istore_n 2, 1) := by decide +kernel
theorem dX11_tests_136 : decode cX11_tests 136 = .ok (.aload_n 0, 1) := by decide +kernel
theorem dX11_tests_137 : decode cX11_tests 137 = .ok (.getfield 60, 3) := by decide +kernel
theorem dX11_tests_140 : decode cX11_tests 140 = .ok (.iload_n 1, 1) := by decide +kernel
theorem dX11_tests_141 : decode cX11_tests 141 = .ok (.iload_n 2, 1) := by decide +kernel
theorem dX11_tests_142 : decode cX11_tests 142 = .ok (.iastore, 1) := by decide +kernel
theorem dX11_tests_143 : decode cX11_tests 143 = .ok (.aload_n 0, 1) := by decide +kernel
theorem dX11_tests_144 : decode cX11_tests 144 = .ok (.getfield 69, 3) := by decide +kernel
theorem dX11_tests_147 : decode cX11_tests 147 = .ok (.iload_n 1, 1) := by decide +kernel
theorem dX11_tests_148 : decode cX11_tests 148 = .ok (.iconst 0, 1) := by decide +kernel
theorem dX11_tests_149 : decode cX11_tests 149 = .ok (.iastore, 1) := by decide +kernel
theorem dX11_tests_150 : decode cX11_tests 150 = .ok (.aload_n 0, 1) := by decide +kernel
theorem dX11_tests_151 : decode cX11_tests 151 = .ok (.getfield 72, 3) := by decide +kernel
theorem dX11_tests_154 : decode cX11_tests 154 = .ok (.iload_n 1, 1) := by decide +kernel
theorem dX11_tests_155 : decode cX11_tests 155 = .ok (.iconst 0, 1) := by decide +kernel
theorem dX11_tests_156 : decode cX11_tests 156 = .ok (.iastore, 1) := by decide +kernel
theorem dX11_tests_157 : decode cX11_tests 157 = .ok (.aload_n 0, 1) := by decide +kernel
theorem dX11_tests_158 : decode cX11_tests 158 = .ok (.getfield 75, 3) := by decide +kernel
theorem dX11_tests_161 : decode cX11_tests 161 = .ok (.iload_n 1, 1) := by decide +kernel
theorem dX11_tests_162 : decode cX11_tests 162 = .ok (.bipush 20, 2) := by decide +kernel
theorem dX11_tests_164 : decode cX11_tests 164 = .ok (.iastore, 1) := by decide +kernel
theorem dX11_tests_165 : decode cX11_tests 165 = .ok (.return_, 1) := by decide +kernel
theorem dX11_worked_0 : decode cX11_worked 0 = .ok (.iconst 0, 1) := by decide +kernel
theorem dX11_worked_1 : decode cX11_worked 1 = .ok (.istore_n 2, 1) := by decide +kernel
theorem dX11_worked_2 : decode cX11_worked 2 = .ok (.aload_n 0, 1) := by decide +kernel
theorem dX11_worked_3 : decode cX11_worked 3 = .ok (.iconst 0, 1) := by decide +kernel
theorem dX11_worked_4 : decode cX11_worked 4 = .ok (.invokevirtual 234, 3) := by decide +kernel
theorem dX11_worked_7 : decode cX11_worked 7 = .ok (.aload_n 0, 1) := by decide +kernel
theorem dX11_worked_8 : decode cX11_worked 8 = .ok (.getfield 44, 3) := by decide +kernel
theorem dX11_worked_11 : decode cX11_worked 11 = .ok (.iload_n 1, 1) := by decide +kernel
theorem dX11_worked_12 : decode cX11_worked 12 = .ok (.iaload, 1) := by decide +kernel
theorem dX11_worked_13 : decode cX11_worked 13 = .ok (.istore_n 3, 1) := by decide +kernel
theorem dX11_worked_14 : decode cX11_worked 14 = .ok (.iload_n 3, 1) := by decide +kernel
theorem dX11_worked_15 : decode cX11_worked 15 = .ok (.aload_n 0, 1) := by decide +kernel
theorem dX11_worked_16 : decode cX11_worked 16 = .ok (.getfield 47, 3) := by decide +kernel
theorem dX11_worked_19 : decode cX11_worked 19 = .ok (.iload_n 1, 1) := by decide +kernel
theorem dX11_worked_20 : decode cX11_worked 20 = .ok (.iaload, 1) := by decide +kernel
theorem dX11_worked_21 : decode cX11_worked 21 = .ok (.if_icmp .ge 314, 3) := by decide +kernel
theorem dX11_worked_24 : decode cX11_worked 24 = .ok (.aload_n 0, 1) := by decide +kernel
theorem dX11_worked_25 : decode cX11_worked 25 = .ok (.getfield 50, 3) := by decide +kernel
theorem dX11_worked_28 : decode cX11_worked 28 = .ok (.iload_n 3, 1) := by decide +kernel
theorem dX11_worked_29 : decode cX11_worked 29 = .ok (.iaload, 1) := by decide +kernel
theorem dX11_worked_30 : decode cX11_worked 30 = .ok (.istore 4, 2) := by decide +kernel
theorem dX11_worked_32 : decode cX11_worked 32 = .ok (.iload 4, 2) := by decide +kernel
theorem dX11_worked_34 : decode cX11_worked 34 = .ok (.bipush 28, 2) := by decide +kernel
theorem dX11_worked_36 : decode cX11_worked 36 = .ok (.if_icmp .eq 10, 3) := by decide +kernel
theorem dX11_worked_39 : decode cX11_worked 39 = .ok (.iload 4, 2) := by decide +kernel
theorem dX11_worked_41 : decode cX11_worked 41 = .ok (.bipush 30, 2) := by decide +kernel
theorem dX11_worked_43 : decode cX11_worked 43 = .ok (.if_icmp .ne 32, 3) := by decide +kernel
theorem dX11_worked_46 : decode cX11_worked 46 = .ok (.iinc 2 1, 3) := by decide +kernel
theorem dX11_worked_49 : decode cX11_worked 49 = .ok (.aload_n 0, 1) := by decide +kernel
theorem dX11_worked_50 : decode cX11_worked 50 = .ok (.getfield 84, 3) := by decide +kernel
theorem dX11_worked_53 : decode cX11_worked 53 = .ok (.iload_n 2, 1) := by decide +kernel
theorem dX11_worked_54 : decode cX11_worked 54 = .ok (.iload 4, 2) := by decide +kernel
theorem dX11_worked_56 : decode cX11_worked 56 = .ok (.bipush 30, 2) := by decide +kernel
theorem dX11_worked_58 : decode cX11_worked 58 = .ok (.if_icmp .ne 7, 3) := by decide +kernel
theorem dX11_worked_61 : decode cX11_worked 61 = .ok (.iconst 1, 1) := by decide +kernel
theorem dX11_worked_62 : decode cX11_worked 62 = .ok (.goto 4, 3) := by decide +kernel
theorem dX11_worked_65 : decode cX11_worked 65 = .ok (.iconst 0, 1) := by decide +kernel
theorem dX11_worked_66 : decode cX11_worked 66 = .ok (.iastore, 1) := by decide +kernel
theorem dX11_worked_67 : decode cX11_worked 67 = .ok (.aload_n 0, 1) := by decide +kernel
theorem dX11_worked_68 : decode cX11_worked 68 = .ok (.iload_n 2, 1) := by decide +kernel
theorem dX11_worked_69 : decode cX11_worked 69 = .ok (.invokevirtual 234, 3) := by decide +kernel
theorem dX11_worked_72 : decode cX11_worked 72 = .ok (.goto 257, 3) := by decide +kernel
theorem dX11_worked_75 : decode cX11_worked 75 = .ok (.iload 4, 2) := by decide +kernel
theorem dX11_worked_77 : decode cX11_worked 77 = .ok (.bipush 20, 2) := by decide +kernel
theorem dX11_worked_79 : decode cX11_worked 79 = .ok (.if_icmp .eq 10, 3) := by decide +kernel
theorem dX11_worked_82 : decode cX11_worked 82 = .ok (.iload 4, 2) := by decide +kernel
theorem dX11_worked_84 : decode cX11_worked 84 = .ok (.bipush 21, 2) := by decide +kernel
theorem dX11_worked_86 : decode cX11_worked 86 = .ok (.if_icmp .ne 19, 3) := by decide +kernel
theorem dX11_worked_89 : decode cX11_worked 89 = .ok (.aload_n 0, 1) := by decide +kernel
theorem dX11_worked_90 : decode cX11_worked 90 = .ok (.iload_n 2, 1) := by decide +kernel
theorem dX11_worked_91 : decode cX11_worked 91 = .ok (.invokevirtual 231, 3) := by decide +kernel
theorem dX11_worked_94 : decode cX11_worked 94 = .ok (.aload_n 0, 1) := by decide +kernel
theorem dX11_worked_95 : decode cX11_worked 95 = .ok (.getfield 75, 3) := by decide +kernel
theorem dX11_worked_98 : decode cX11_worked 98 = .ok (.iload_n 2, 1) := by decide +kernel
theorem dX11_worked_99 : decode cX11_worked 99 = .ok (.iload 4, 2) := by decide +kernel
theorem dX11_worked_101 : decode cX11_worked 101 = .ok (.iastore, 1) := by decide +kernel
theorem dX11_worked_102 : decode cX11_worked 102 = .ok (.goto 227, 3) := by decide +kernel
theorem dX11_worked_105 : decode cX11_worked 105 = .ok (.iload 4, 2) := by decide +kernel
theorem dX11_worked_107 : decode cX11_worked 107 = .ok (.bipush 22, 2) := by decide +kernel
theorem dX11_worked_109 : decode cX11_worked 109 = .ok (.if_icmp .ne 14, 3) := by decide +kernel
theorem dX11_worked_112 : decode cX11_worked 112 = .ok (.aload_n 0, 1) := by decide +kernel
theorem dX11_worked_113 : decode cX11_worked 113 = .ok (.getfield 81, 3) := by decide +kernel
theorem dX11_worked_116 : decode cX11_worked 116 = .ok (.iload_n 2, 1) := by decide +kernel
theorem dX11_worked_117 : decode cX11_worked 117 = .ok (.iload 4, 2) := by decide +kernel
theorem dX11_worked_119 : decode cX11_worked 119 = .ok (.iastore, 1) := by decide +kernel
theorem dX11_worked_120 : decode cX11_worked 120 = .ok (.goto 209, 3) := by decide +kernel
theorem dX11_worked_123 : decode cX11_worked 123 = .ok (.iload 4, 2) := by decide +kernel
theorem dX11_worked_125 : decode cX11_worked 125 = .ok (.bipush 24, 2) := by decide +kernel
theorem dX11_worked_127 : decode cX11_worked 127 = .ok (.if_icmp .eq 10, 3) := by decide +kernel
theorem dX11_worked_130 : decode cX11_worked 130 = .ok (.iload 4, 2) := by decide +kernel
theorem dX11_worked_132 : decode cX11_worked 132 = .ok (.bipush 25, 2) := by decide +kernel
theorem dX11_worked_134 : decode cX11_worked 134 = .ok (.if_icmp .ne 46, 3) := by decide +kernel
theorem dX11_worked_137 : decode cX11_worked 137 = .ok (.aload_n 0, 1) := by decide +kernel
theorem dX11_worked_138 : decode cX11_worked 138 = .ok (.iload_n 2, 1) := by decide +kernel
theorem dX11_worked_139 : decode cX11_worked 139 = .ok (.invokevirtual 231, 3) := by decide +kernel
theorem dX11_worked_142 : decode cX11_worked 142 = .ok (.aload_n 0, 1) := by decide +kernel
theorem dX11_worked_143 : decode cX11_worked 143 = .ok (.getfield 66, 3) := by decide +kernel
theorem dX11_worked_146 : decode cX11_worked 146 = .ok (.iload_n 2, 1) := by decide +kernel
theorem dX11_worked_147 : decode cX11_worked 147 = .ok (.aload_n 0, 1) := by decide +kernel
theorem dX11_worked_148 : decode cX11_worked 148 = .ok (.getfield 72, 3) := by decide +kernel
theorem dX11_worked_151 : decode cX11_worked 151 = .ok (.iload_n 2, 1) := by decide +kernel
theorem dX11_worked_152 : decode cX11_worked 152 = .ok (.iaload, 1) := by decide +kernel
theorem dX11_worked_153 : decode cX11_worked 153 = .ok (.iastore, 1) := by decide +kernel
theorem dX11_worked_154 : decode cX11_worked 154 = .ok (.aload_n 0, 1) := by decide +kernel
theorem dX11_worked_155 : decode cX11_worked 155 = .ok (.getfield 69, 3) := by decide +kernel
theorem dX11_worked_158 : decode cX11_worked 158 = .ok (.iload_n 2, 1) := by decide +kernel
theorem dX11_worked_159 : decode cX11_worked 159 = .ok (.iload 4, 2) := by decide +kernel
theorem dX11_worked_161 : decode cX11_worked 161 = .ok (.iastore, 1) := by decide +kernel
theorem dX11_worked_162 : decode cX11_worked 162 = .ok (.aload_n 0, 1) := by decide +kernel
theorem dX11_worked_163 : decode cX11_worked 163 = .ok (.getfield 72, 3) := by decide +kernel
theorem dX11_worked_166 : decode cX11_worked 166 = .ok (.iload_n 2, 1) := by decide +kernel
theorem dX11_worked_167 : decode cX11_worked 167 = .ok (.iconst 0, 1) := by decide +kernel
theorem dX11_worked_168 : decode cX11_worked 168 = .ok (.iastore, 1) := by decide +kernel
theorem dX11_worked_169 : decode cX11_worked 169 = .ok (.aload_n 0, 1) := by decide +kernel
theorem dX11_worked_170 : decode cX11_worked 170 = .ok (.getfield 75, 3) := by decide +kernel
theorem dX11_worked_173 : decode cX11_worked 173 = .ok (.iload_n 2, 1) := by decide +kernel
theorem dX11_worked_174 : decode cX11_worked 174 = .ok (.bipush 20, 2) := by decide +kernel
theorem dX11_worked_176 : decode cX11_worked 176 = .ok (.iastore, 1) := by decide +kernel
theorem dX11_worked_177 : decode cX11_worked 177 = .ok (.goto 152, 3) := by decide +kernel
theorem dX11_worked_180 : decode cX11_worked 180 = .ok (.iload 4, 2) := by decide +kernel
theorem dX11_worked_182 : decode cX11_worked 182 = .ok (.bipush 26, 2) := by decide +kernel
theorem dX11_worked_184 : decode cX11_worked 184 = .ok (.if_icmp .eq 10, 3) := by decide +kernel
theorem dX11_worked_187 : decode cX11_worked 187 = .ok (.iload 4, 2) := by decide +kernel
theorem dX11_worked_189 : decode cX11_worked 189 = .ok (.bipush 27, 2) := by decide +kernel
theorem dX11_worked_191 : decode cX11_worked 191 = .ok (.if_icmp .ne 19, 3) := by decide +kernel
theorem dX11_worked_194 : decode cX11_worked 194 = .ok (.aload_n 0, 1) := by decide +kernel
theorem dX11_worked_195 : decode cX11_worked 195 = .ok (.iload_n 2, 1) := by decide +kernel
theorem dX11_worked_196 : decode cX11_worked 196 = .ok (.invokevirtual 237, 3) := by decide +kernel
theorem dX11_worked_199 : decode cX11_worked 199 = .ok (.aload_n 0, 1) := by decide +kernel
theorem dX11_worked_200 : decode cX11_worked 200 = .ok (.getfield 63, 3) := by decide +kernel
theorem dX11_worked_203 : decode cX11_worked 203 = .ok (.iload_n 2, 1) := by decide +kernel
theorem dX11_worked_204 : decode cX11_worked 204 = .ok (.iload 4, 2) := by decide +kernel
theorem dX11_worked_206 : decode cX11_worked 206 = .ok (.iastore, 1) := by decide +kernel
theorem dX11_worked_207 : decode cX11_worked 207 = .ok (.goto 122, 3) := by decide +kernel
theorem dX11_worked_210 : decode cX11_worked 210 = .ok (.iload 4, 2) := by decide +kernel
theorem dX11_worked_212 : decode cX11_worked 212 = .ok (.bipush 100, 2) := by decide +kernel
theorem dX11_worked_214 : decode cX11_worked 214 = .ok (.if_icmp .lt 11, 3) := by decide +kernel
theorem dX11_worked_217 : decode cX11_worked 217 = .ok (.iload 4, 2) := by decide +kernel
theorem dX11_worked_219 : decode cX11_worked 219 = .ok (.bipush 100, 2) := by decide +kernel
theorem dX11_worked_221 : decode cX11_worked 221 = .ok (.isub, 1) := by decide +kernel
theorem dX11_worked_222 : decode cX11_worked 222 = .ok (.goto 21, 3) := by decide +kernel
theorem dX11_worked_225 : decode cX11_worked 225 = .ok (.iload 4, 2) := by decide +kernel
theorem dX11_worked_227 : decode cX11_worked 227 = .ok (.bipush 20, 2) := by decide +kernel
theorem dX11_worked_229 : decode cX11_worked 229 = .ok (.if_icmp .ge 13, 3) := by decide +kernel
theorem dX11_worked_232 : decode cX11_worked 232 = .ok (.aload_n 0, 1) := by decide +kernel
theorem dX11_worked_233 : decode cX11_worked 233 = .ok (.getfield 87, 3) := by decide +kernel
theorem dX11_worked_236 : decode cX11_worked 236 = .ok (.iload 4, 2) := by decide +kernel
theorem dX11_worked_238 : decode cX11_worked 238 = .ok (.iaload, 1) := by decide +kernel
theorem dX11_worked_239 : decode cX11_worked 239 = .ok (.goto 4, 3) := by decide +kernel
theorem dX11_worked_242 : decode cX11_worked 242 = .ok (.iconst 0, 1) := by decide +kernel
theorem dX11_worked_243 : decode cX11_worked 243 = .ok (.istore 5, 2) := by decide +kernel
theorem dX11_worked_245 : decode cX11_worked 245 = .ok (.iload 4, 2) := by decide +kernel
theorem dX11_worked_247 : decode cX11_worked 247 = .ok (.bipush 29, 2) := by decide +kernel
theorem dX11_worked_249 : decode cX11_worked 249 = .ok (.if_icmp .ne 19, 3) := by decide +kernel
theorem dX11_worked_252 : decode cX11_worked 252 = .ok (.aload_n 0, 1) := by decide +kernel
theorem dX11_worked_253 : decode cX11_worked 253 = .ok (.iload_n 2, 1) := by decide +kernel
theorem dX11_worked_254 : decode cX11_worked 254 = .ok (.invokevirtual 237, 3) := by decide +kernel
theorem dX11_worked_257 : decode cX11_worked 257 = .ok (.aload_n 0, 1) := by decide +kernel
theorem dX11_worked_258 : decode cX11_worked 258 = .ok (.getfield 60, 3) := by decide +kernel
theorem dX11_worked_261 : decode cX11_worked 261 = .ok (.iload_n 2, 1) := by decide +kernel
theorem dX11_worked_262 : decode cX11_worked 262 = .ok (.iaload, 1) := by decide +kernel
theorem dX11_worked_263 : decode cX11_worked 263 = .ok (.istore 5, 2) := by decide +kernel
theorem dX11_worked_265 : decode cX11_worked 265 = .ok (.iinc 2 (-1), 3) := by decide +kernel
theorem dX11_worked_268 : decode cX11_worked 268 = .ok (.iload_n 2, 1) := by decide +kernel
theorem dX11_worked_269 : decode cX11_worked 269 = .ok (.ifCond .le 31, 3) := by decide +kernel
theorem dX11_worked_272 : decode cX11_worked 272 = .ok (.aload_n 0, 1) := by decide +kernel
theorem dX11_worked_273 : decode cX11_worked 273 = .ok (.getfield 84, 3) := by decide +kernel
theorem dX11_worked_276 : decode cX11_worked 276 = .ok (.iload_n 2, 1) := by decide +kernel
theorem dX11_worked_277 : decode cX11_worked 277 = .ok (.iaload, 1) := by decide +kernel
theorem dX11_worked_278 : decode cX11_worked 278 = .ok (.iconst 1, 1) := by decide +kernel
theorem dX11_worked_279 : decode cX11_worked 279 = .ok (.if_icmp .ne 21, 3) := by decide +kernel
theorem dX11_worked_282 : decode cX11_worked 282 = .ok (.iload 5, 2) := by decide +kernel
theorem dX11_worked_284 : decode cX11_worked 284 = .ok (.ifCond .ne 7, 3) := by decide +kernel
theorem dX11_worked_287 : decode cX11_worked 287 = .ok (.iconst 1, 1) := by decide +kernel
theorem dX11_worked_288 : decode cX11_worked 288 = .ok (.goto 4, 3) := by decide +kernel
theorem dX11_worked_291 : decode cX11_worked 291 = .ok (.iconst 0, 1) := by decide +kernel
theorem dX11_worked_292 : decode cX11_worked 292 = .ok (.istore 5, 2) := by decide +kernel
theorem dX11_worked_294 : decode cX11_worked 294 = .ok (.iinc 2 (-1), 3) := by decide +kernel
theorem dX11_worked_297 : decode cX11_worked 297 = .ok (.goto (-29), 3) := by decide +kernel
theorem dX11_worked_300 : decode cX11_worked 300 = .ok (.aload_n 0, 1) := by decide +kernel
theorem dX11_worked_301 : decode cX11_worked 301 = .ok (.getfield 78, 3) := by decide +kernel
theorem dX11_worked_304 : decode cX11_worked 304 = .ok (.iload_n 2, 1) := by decide +kernel
theorem dX11_worked_305 : decode cX11_worked 305 = .ok (.aload_n 0, 1) := by decide +kernel
theorem dX11_worked_306 : decode cX11_worked 306 = .ok (.getfield 81, 3) := by decide +kernel
theorem dX11_worked_309 : decode cX11_worked 309 = .ok (.iload_n 2, 1) := by decide +kernel
theorem dX11_worked_310 : decode cX11_worked 310 = .ok (.iaload, 1) := by decide +kernel
theorem dX11_worked_311 : decode cX11_worked 311 = .ok (.ifCond .ne 8, 3) := by decide +kernel
theorem dX11_worked_314 : decode cX11_worked 314 = .ok (.iload 5, 2) := by decide +kernel
theorem dX11_worked_316 : decode cX11_worked 316 = .ok (.goto 12, 3) := by decide +kernel
theorem dX11_worked_319 : decode cX11_worked 319 = .ok (.aload_n 0, 1) := by decide +kernel
theorem dX11_worked_320 : decode cX11_worked 320 = .ok (.getfield 78, 3) := by decide +kernel
theorem dX11_worked_323 : decode cX11_worked 323 = .ok (.iload_n 2, 1) := by decide +kernel
theorem dX11_worked_324 : decode cX11_worked 324 = .ok (.iaload, 1) := by decide +kernel
theorem dX11_worked_325 : decode cX11_worked 325 = .ok (.iload 5, 2) := by decide +kernel
theorem dX11_worked_327 : decode cX11_worked 327 = .ok (.imul, 1) := by decide +kernel
theorem dX11_worked_328 : decode cX11_worked 328 = .ok (.iastore, 1) := by decide +kernel
theorem dX11_worked_329 : decode cX11_worked 329 = .ok (.iinc 3 1, 3) := by decide +kernel
theorem dX11_worked_332 : decode cX11_worked 332 = .ok (.goto (-318), 3) := by decide +kernel
theorem dX11_worked_335 : decode cX11_worked 335 = .ok (.aload_n 0, 1) := by decide +kernel
theorem dX11_worked_336 : decode cX11_worked 336 = .ok (.iconst 0, 1) := by decide +kernel
theorem dX11_worked_337 : decode cX11_worked 337 = .ok (.invokevirtual 237, 3) := by decide +kernel
theorem dX11_worked_340 : decode cX11_worked 340 = .ok (.aload_n 0, 1) := by decide +kernel
theorem dX11_worked_341 : decode cX11_worked 341 = .ok (.getfield 60, 3) := by decide +kernel
theorem dX11_worked_344 : decode cX11_worked 344 = .ok (.iconst 0, 1) := by decide +kernel
theorem dX11_worked_345 : decode cX11_worked 345 = .ok (.iaload, 1) := by decide +kernel
theorem dX11_worked_346 : decode cX11_worked 346 = .ok (.ireturn, 1) := by decide +kernel
theorem dX11_isKept_0 : decode cX11_isKept 0 = .ok (.aload_n 0, 1) := by decide +kernel
theorem dX11_isKept_1 : decode cX11_isKept 1 = .ok (.getfield 178, 3) := by decide +kernel
theorem dX11_isKept_4 : decode cX11_isKept 4 = .ok (.iconst 1, 1) := by decide +kernel
theorem dX11_isKept_5 : decode cX11_isKept 5 = .ok (.if_icmp .eq 5, 3) := by decide +kernel
theorem dX11_isKept_8 : decode cX11_isKept 8 = .ok (.iconst 1, 1) := by decide +kernel
theorem dX11_isKept_9 : decode cX11_isKept 9 = .ok (.ireturn, 1) := by decide +kernel
theorem dX11_isKept_10 : decode cX11_isKept 10 = .ok (.aload_n 0, 1) := by decide +kernel
theorem dX11_isKept_11 : decode cX11_isKept 11 = .ok (.getfield 171, 3) := by decide +kernel
theorem dX11_isKept_14 : decode cX11_isKept 14 = .ok (.ldc2_w 240, 3) := by decide +kernel
theorem dX11_isKept_17 : decode cX11_isKept 17 = .ok (.lcmp, 1) := by decide +kernel
theorem dX11_isKept_18 : decode cX11_isKept 18 = .ok (.ifCond .eq 212, 3) := by decide +kernel
theorem dX11_isKept_21 : decode cX11_isKept 21 = .ok (.aload_n 0, 1) := by decide +kernel
theorem dX11_isKept_22 : decode cX11_isKept 22 = .ok (.getfield 171, 3) := by decide +kernel
theorem dX11_isKept_25 : decode cX11_isKept 25 = .ok (.ldc2_w 242, 3) := by decide +kernel
theorem dX11_isKept_28 : decode cX11_isKept 28 = .ok (.lcmp, 1) := by decide +kernel
theorem dX11_isKept_29 : decode cX11_isKept 29 = .ok (.ifCond .eq 201, 3) := by decide +kernel
theorem dX11_isKept_32 : decode cX11_isKept 32 = .ok (.aload_n 0, 1) := by decide +kernel
theorem dX11_isKept_33 : decode cX11_isKept 33 = .ok (.getfield 171, 3) := by decide +kernel
theorem dX11_isKept_36 : decode cX11_isKept 36 = .ok (.ldc2_w 244, 3) := by decide +kernel
theorem dX11_isKept_39 : decode cX11_isKept 39 = .ok (.lcmp, 1) := by decide +kernel
theorem dX11_isKept_40 : decode cX11_isKept 40 = .ok (.ifCond .eq 190, 3) := by decide +kernel
theorem dX11_isKept_43 : decode cX11_isKept 43 = .ok (.aload_n 0, 1) := by decide +kernel
theorem dX11_isKept_44 : decode cX11_isKept 44 = .ok (.getfield 171, 3) := by decide +kernel
theorem dX11_isKept_47 : decode cX11_isKept 47 = .ok (.ldc2_w 246, 3) := by decide +kernel
theorem dX11_isKept_50 : decode cX11_isKept 50 = .ok (.lcmp, 1) := by decide +kernel
theorem dX11_isKept_51 : decode cX11_isKept 51 = .ok (.ifCond .eq 179, 3) := by decide +kernel
theorem dX11_isKept_54 : decode cX11_isKept 54 = .ok (.aload_n 0, 1) := by decide +kernel
theorem dX11_isKept_55 : decode cX11_isKept 55 = .ok (.getfield 171, 3) := by decide +kernel
theorem dX11_isKept_58 : decode cX11_isKept 58 = .ok (.ldc2_w 248, 3) := by decide +kernel
theorem dX11_isKept_61 : decode cX11_isKept 61 = .ok (.lcmp, 1) := by decide +kernel
theorem dX11_isKept_62 : decode cX11_isKept 62 = .ok (.ifCond .eq 168, 3) := by decide +kernel
theorem dX11_isKept_65 : decode cX11_isKept 65 = .ok (.aload_n 0, 1) := by decide +kernel
theorem dX11_isKept_66 : decode cX11_isKept 66 = .ok (.getfield 171, 3) := by decide +kernel
theorem dX11_isKept_69 : decode cX11_isKept 69 = .ok (.ldc2_w 250, 3) := by decide +kernel
theorem dX11_isKept_72 : decode cX11_isKept 72 = .ok (.lcmp, 1) := by decide +kernel
theorem dX11_isKept_73 : decode cX11_isKept 73 = .ok (.ifCond .eq 157, 3) := by decide +kernel
theorem dX11_isKept_76 : decode cX11_isKept 76 = .ok (.aload_n 0, 1) := by decide +kernel
theorem dX11_isKept_77 : decode cX11_isKept 77 = .ok (.getfield 171, 3) := by decide +kernel
theorem dX11_isKept_80 : decode cX11_isKept 80 = .ok (.ldc2_w 252, 3) := by decide +kernel
theorem dX11_isKept_83 : decode cX11_isKept 83 = .ok (.lcmp, 1) := by decide +kernel
theorem dX11_isKept_84 : decode cX11_isKept 84 = .ok (.ifCond .eq 146, 3) := by decide +kernel
theorem dX11_isKept_87 : decode cX11_isKept 87 = .ok (.aload_n 0, 1) := by decide +kernel
theorem dX11_isKept_88 : decode cX11_isKept 88 = .ok (.getfield 171, 3) := by decide +kernel
theorem dX11_isKept_91 : decode cX11_isKept 91 = .ok (.ldc2_w 254, 3) := by decide +kernel
theorem dX11_isKept_94 : decode cX11_isKept 94 = .ok (.lcmp, 1) := by decide +kernel
theorem dX11_isKept_95 : decode cX11_isKept 95 = .ok (.ifCond .eq 135, 3) := by decide +kernel
theorem dX11_isKept_98 : decode cX11_isKept 98 = .ok (.aload_n 0, 1) := by decide +kernel
theorem dX11_isKept_99 : decode cX11_isKept 99 = .ok (.getfield 171, 3) := by decide +kernel
theorem dX11_isKept_102 : decode cX11_isKept 102 = .ok (.ldc2_w 256, 3) := by decide +kernel
theorem dX11_isKept_105 : decode cX11_isKept 105 = .ok (.lcmp, 1) := by decide +kernel
theorem dX11_isKept_106 : decode cX11_isKept 106 = .ok (.ifCond .eq 124, 3) := by decide +kernel
theorem dX11_isKept_109 : decode cX11_isKept 109 = .ok (.aload_n 0, 1) := by decide +kernel
theorem dX11_isKept_110 : decode cX11_isKept 110 = .ok (.getfield 171, 3) := by decide +kernel
theorem dX11_isKept_113 : decode cX11_isKept 113 = .ok (.ldc2_w 258, 3) := by decide +kernel
theorem dX11_isKept_116 : decode cX11_isKept 116 = .ok (.lcmp, 1) := by decide +kernel
theorem dX11_isKept_117 : decode cX11_isKept 117 = .ok (.ifCond .eq 113, 3) := by decide +kernel
theorem dX11_isKept_120 : decode cX11_isKept 120 = .ok (.aload_n 0, 1) := by decide +kernel
theorem dX11_isKept_121 : decode cX11_isKept 121 = .ok (.getfield 171, 3) := by decide +kernel
theorem dX11_isKept_124 : decode cX11_isKept 124 = .ok (.ldc2_w 260, 3) := by decide +kernel
theorem dX11_isKept_127 : decode cX11_isKept 127 = .ok (.lcmp, 1) := by decide +kernel
theorem dX11_isKept_128 : decode cX11_isKept 128 = .ok (.ifCond .eq 102, 3) := by decide +kernel
theorem dX11_isKept_131 : decode cX11_isKept 131 = .ok (.aload_n 0, 1) := by decide +kernel
theorem dX11_isKept_132 : decode cX11_isKept 132 = .ok (.getfield 171, 3) := by decide +kernel
theorem dX11_isKept_135 : decode cX11_isKept 135 = .ok (.ldc2_w 262, 3) := by decide +kernel
theorem dX11_isKept_138 : decode cX11_isKept 138 = .ok (.lcmp, 1) := by decide +kernel
theorem dX11_isKept_139 : decode cX11_isKept 139 = .ok (.ifCond .eq 91, 3) := by decide +kernel
theorem dX11_isKept_142 : decode cX11_isKept 142 = .ok (.aload_n 0, 1) := by decide +kernel
theorem dX11_isKept_143 : decode cX11_isKept 143 = .ok (.getfield 171, 3) := by decide +kernel
theorem dX11_isKept_146 : decode cX11_isKept 146 = .ok (.ldc2_w 264, 3) := by decide +kernel
theorem dX11_isKept_149 : decode cX11_isKept 149 = .ok (.lcmp, 1) := by decide +kernel
theorem dX11_isKept_150 : decode cX11_isKept 150 = .ok (.ifCond .eq 80, 3) := by decide +kernel
theorem dX11_isKept_153 : decode cX11_isKept 153 = .ok (.aload_n 0, 1) := by decide +kernel
theorem dX11_isKept_154 : decode cX11_isKept 154 = .ok (.getfield 171, 3) := by decide +kernel
theorem dX11_isKept_157 : decode cX11_isKept 157 = .ok (.ldc2_w 266, 3) := by decide +kernel
theorem dX11_isKept_160 : decode cX11_isKept 160 = .ok (.lcmp, 1) := by decide +kernel
theorem dX11_isKept_161 : decode cX11_isKept 161 = .ok (.ifCond .eq 69, 3) := by decide +kernel
theorem dX11_isKept_164 : decode cX11_isKept 164 = .ok (.aload_n 0, 1) := by decide +kernel
theorem dX11_isKept_165 : decode cX11_isKept 165 = .ok (.getfield 171, 3) := by decide +kernel
theorem dX11_isKept_168 : decode cX11_isKept 168 = .ok (.ldc2_w 268, 3) := by decide +kernel
theorem dX11_isKept_171 : decode cX11_isKept 171 = .ok (.lcmp, 1) := by decide +kernel
theorem dX11_isKept_172 : decode cX11_isKept 172 = .ok (.ifCond .eq 58, 3) := by decide +kernel
theorem dX11_isKept_175 : decode cX11_isKept 175 = .ok (.aload_n 0, 1) := by decide +kernel
theorem dX11_isKept_176 : decode cX11_isKept 176 = .ok (.getfield 171, 3) := by decide +kernel
theorem dX11_isKept_179 : decode cX11_isKept 179 = .ok (.ldc2_w 270, 3) := by decide +kernel
theorem dX11_isKept_182 : decode cX11_isKept 182 = .ok (.lcmp, 1) := by decide +kernel
theorem dX11_isKept_183 : decode cX11_isKept 183 = .ok (.ifCond .eq 47, 3) := by decide +kernel
theorem dX11_isKept_186 : decode cX11_isKept 186 = .ok (.aload_n 0, 1) := by decide +kernel
theorem dX11_isKept_187 : decode cX11_isKept 187 = .ok (.getfield 171, 3) := by decide +kernel
theorem dX11_isKept_190 : decode cX11_isKept 190 = .ok (.ldc2_w 272, 3) := by decide +kernel
theorem dX11_isKept_193 : decode cX11_isKept 193 = .ok (.lcmp, 1) := by decide +kernel
theorem dX11_isKept_194 : decode cX11_isKept 194 = .ok (.ifCond .eq 36, 3) := by decide +kernel
theorem dX11_isKept_197 : decode cX11_isKept 197 = .ok (.aload_n 0, 1) := by decide +kernel
theorem dX11_isKept_198 : decode cX11_isKept 198 = .ok (.getfield 171, 3) := by decide +kernel
theorem dX11_isKept_201 : decode cX11_isKept 201 = .ok (.ldc2_w 207, 3) := by decide +kernel
theorem dX11_isKept_204 : decode cX11_isKept 204 = .ok (.lcmp, 1) := by decide +kernel
theorem dX11_isKept_205 : decode cX11_isKept 205 = .ok (.ifCond .eq 25, 3) := by decide +kernel
theorem dX11_isKept_208 : decode cX11_isKept 208 = .ok (.aload_n 0, 1) := by decide +kernel
theorem dX11_isKept_209 : decode cX11_isKept 209 = .ok (.getfield 171, 3) := by decide +kernel
theorem dX11_isKept_212 : decode cX11_isKept 212 = .ok (.ldc2_w 227, 3) := by decide +kernel
theorem dX11_isKept_215 : decode cX11_isKept 215 = .ok (.lcmp, 1) := by decide +kernel
theorem dX11_isKept_216 : decode cX11_isKept 216 = .ok (.ifCond .eq 14, 3) := by decide +kernel
theorem dX11_isKept_219 : decode cX11_isKept 219 = .ok (.aload_n 0, 1) := by decide +kernel
theorem dX11_isKept_220 : decode cX11_isKept 220 = .ok (.getfield 171, 3) := by decide +kernel
theorem dX11_isKept_223 : decode cX11_isKept 223 = .ok (.ldc2_w 229, 3) := by decide +kernel
theorem dX11_isKept_226 : decode cX11_isKept 226 = .ok (.lcmp, 1) := by decide +kernel
theorem dX11_isKept_227 : decode cX11_isKept 227 = .ok (.ifCond .ne 7, 3) := by decide +kernel
theorem dX11_isKept_230 : decode cX11_isKept 230 = .ok (.iconst 1, 1) := by decide +kernel
theorem dX11_isKept_231 : decode cX11_isKept 231 = .ok (.goto 4, 3) := by decide +kernel
theorem dX11_isKept_234 : decode cX11_isKept 234 = .ok (.iconst 0, 1) := by decide +kernel
theorem dX11_isKept_235 : decode cX11_isKept 235 = .ok (.ireturn, 1) := by decide +kernel
theorem dX11_shedNamed_0 : decode cX11_shedNamed 0 = .ok (.bipush 6, 2) := by decide +kernel
theorem dX11_shedNamed_2 : decode cX11_shedNamed 2 = .ok (.iload_n 1, 1) := by decide +kernel
theorem dX11_shedNamed_3 : decode cX11_shedNamed 3 = .ok (.imul, 1) := by decide +kernel
theorem dX11_shedNamed_4 : decode cX11_shedNamed 4 = .ok (.istore_n 2, 1) := by decide +kernel
theorem dX11_shedNamed_5 : decode cX11_shedNamed 5 = .ok (.iload_n 2, 1) := by decide +kernel
theorem dX11_shedNamed_6 : decode cX11_shedNamed 6 = .ok (.bipush 6, 2) := by decide +kernel
theorem dX11_shedNamed_8 : decode cX11_shedNamed 8 = .ok (.iload_n 1, 1) := by decide +kernel
theorem dX11_shedNamed_9 : decode cX11_shedNamed 9 = .ok (.imul, 1) := by decide +kernel
theorem dX11_shedNamed_10 : decode cX11_shedNamed 10 = .ok (.aload_n 0, 1) := by decide +kernel
theorem dX11_shedNamed_11 : decode cX11_shedNamed 11 = .ok (.getfield 13, 3) := by decide +kernel
theorem dX11_shedNamed_14 : decode cX11_shedNamed 14 = .ok (.iconst 4, 1) := by decide +kernel
theorem dX11_shedNamed_15 : decode cX11_shedNamed 15 = .ok (.iload_n 1, 1) := by decide +kernel
theorem dX11_shedNamed_16 : decode cX11_shedNamed 16 = .ok (.imul, 1) := by decide +kernel
theorem dX11_shedNamed_17 : decode cX11_shedNamed 17 = .ok (.iconst 0, 1) := by decide +kernel
theorem dX11_shedNamed_18 : decode cX11_shedNamed 18 = .ok (.iadd, 1) := by decide +kernel
theorem dX11_shedNamed_19 : decode cX11_shedNamed 19 = .ok (.iaload, 1) := by decide +kernel
theorem dX11_shedNamed_20 : decode cX11_shedNamed 20 = .ok (.iadd, 1) := by decide +kernel
theorem dX11_shedNamed_21 : decode cX11_shedNamed 21 = .ok (.if_icmp .ge 30, 3) := by decide +kernel
theorem dX11_shedNamed_24 : decode cX11_shedNamed 24 = .ok (.aload_n 0, 1) := by decide +kernel
theorem dX11_shedNamed_25 : decode cX11_shedNamed 25 = .ok (.getfield 16, 3) := by decide +kernel
theorem dX11_shedNamed_28 : decode cX11_shedNamed 28 = .ok (.iload_n 2, 1) := by decide +kernel
theorem dX11_shedNamed_29 : decode cX11_shedNamed 29 = .ok (.laload, 1) := by decide +kernel
theorem dX11_shedNamed_30 : decode cX11_shedNamed 30 = .ok (.aload_n 0, 1) := by decide +kernel
theorem dX11_shedNamed_31 : decode cX11_shedNamed 31 = .ok (.getfield 171, 3) := by decide +kernel
theorem dX11_shedNamed_34 : decode cX11_shedNamed 34 = .ok (.lcmp, 1) := by decide +kernel
theorem dX11_shedNamed_35 : decode cX11_shedNamed 35 = .ok (.ifCond .ne 10, 3) := by decide +kernel
theorem dX11_shedNamed_38 : decode cX11_shedNamed 38 = .ok (.iload_n 2, 1) := by decide +kernel
theorem dX11_shedNamed_39 : decode cX11_shedNamed 39 = .ok (.bipush 6, 2) := by decide +kernel
theorem dX11_shedNamed_41 : decode cX11_shedNamed 41 = .ok (.iload_n 1, 1) := by decide +kernel
theorem dX11_shedNamed_42 : decode cX11_shedNamed 42 = .ok (.imul, 1) := by decide +kernel
theorem dX11_shedNamed_43 : decode cX11_shedNamed 43 = .ok (.isub, 1) := by decide +kernel
theorem dX11_shedNamed_44 : decode cX11_shedNamed 44 = .ok (.ireturn, 1) := by decide +kernel
theorem dX11_shedNamed_45 : decode cX11_shedNamed 45 = .ok (.iinc 2 1, 3) := by decide +kernel
theorem dX11_shedNamed_48 : decode cX11_shedNamed 48 = .ok (.goto (-43), 3) := by decide +kernel
theorem dX11_shedNamed_51 : decode cX11_shedNamed 51 = .ok (.iconst (-1), 1) := by decide +kernel
theorem dX11_shedNamed_52 : decode cX11_shedNamed 52 = .ok (.ireturn, 1) := by decide +kernel
theorem dX11_stageNamed_0 : decode cX11_stageNamed 0 = .ok (.iconst 5, 1) := by decide +kernel
theorem dX11_stageNamed_1 : decode cX11_stageNamed 1 = .ok (.iload_n 1, 1) := by decide +kernel
theorem dX11_stageNamed_2 : decode cX11_stageNamed 2 = .ok (.imul, 1) := by decide +kernel
theorem dX11_stageNamed_3 : decode cX11_stageNamed 3 = .ok (.istore_n 2, 1) := by decide +kernel
theorem dX11_stageNamed_4 : decode cX11_stageNamed 4 = .ok (.iload_n 2, 1) := by decide +kernel
theorem dX11_stageNamed_5 : decode cX11_stageNamed 5 = .ok (.iconst 5, 1) := by decide +kernel
theorem dX11_stageNamed_6 : decode cX11_stageNamed 6 = .ok (.iload_n 1, 1) := by decide +kernel
theorem dX11_stageNamed_7 : decode cX11_stageNamed 7 = .ok (.imul, 1) := by decide +kernel
theorem dX11_stageNamed_8 : decode cX11_stageNamed 8 = .ok (.aload_n 0, 1) := by decide +kernel
theorem dX11_stageNamed_9 : decode cX11_stageNamed 9 = .ok (.getfield 13, 3) := by decide +kernel
theorem dX11_stageNamed_12 : decode cX11_stageNamed 12 = .ok (.iconst 4, 1) := by decide +kernel
theorem dX11_stageNamed_13 : decode cX11_stageNamed 13 = .ok (.iload_n 1, 1) := by decide +kernel
theorem dX11_stageNamed_14 : decode cX11_stageNamed 14 = .ok (.imul, 1) := by decide +kernel
theorem dX11_stageNamed_15 : decode cX11_stageNamed 15 = .ok (.iconst 1, 1) := by decide +kernel
theorem dX11_stageNamed_16 : decode cX11_stageNamed 16 = .ok (.iadd, 1) := by decide +kernel
theorem dX11_stageNamed_17 : decode cX11_stageNamed 17 = .ok (.iaload, 1) := by decide +kernel
theorem dX11_stageNamed_18 : decode cX11_stageNamed 18 = .ok (.iadd, 1) := by decide +kernel
theorem dX11_stageNamed_19 : decode cX11_stageNamed 19 = .ok (.if_icmp .ge 29, 3) := by decide +kernel
theorem dX11_stageNamed_22 : decode cX11_stageNamed 22 = .ok (.aload_n 0, 1) := by decide +kernel
theorem dX11_stageNamed_23 : decode cX11_stageNamed 23 = .ok (.getfield 20, 3) := by decide +kernel
theorem dX11_stageNamed_26 : decode cX11_stageNamed 26 = .ok (.iload_n 2, 1) := by decide +kernel
theorem dX11_stageNamed_27 : decode cX11_stageNamed 27 = .ok (.laload, 1) := by decide +kernel
theorem dX11_stageNamed_28 : decode cX11_stageNamed 28 = .ok (.aload_n 0, 1) := by decide +kernel
theorem dX11_stageNamed_29 : decode cX11_stageNamed 29 = .ok (.getfield 171, 3) := by decide +kernel
theorem dX11_stageNamed_32 : decode cX11_stageNamed 32 = .ok (.lcmp, 1) := by decide +kernel
theorem dX11_stageNamed_33 : decode cX11_stageNamed 33 = .ok (.ifCond .ne 9, 3) := by decide +kernel
theorem dX11_stageNamed_36 : decode cX11_stageNamed 36 = .ok (.iload_n 2, 1) := by decide +kernel
theorem dX11_stageNamed_37 : decode cX11_stageNamed 37 = .ok (.iconst 5, 1) := by decide +kernel
theorem dX11_stageNamed_38 : decode cX11_stageNamed 38 = .ok (.iload_n 1, 1) := by decide +kernel
theorem dX11_stageNamed_39 : decode cX11_stageNamed 39 = .ok (.imul, 1) := by decide +kernel
theorem dX11_stageNamed_40 : decode cX11_stageNamed 40 = .ok (.isub, 1) := by decide +kernel
theorem dX11_stageNamed_41 : decode cX11_stageNamed 41 = .ok (.ireturn, 1) := by decide +kernel
theorem dX11_stageNamed_42 : decode cX11_stageNamed 42 = .ok (.iinc 2 1, 3) := by decide +kernel
theorem dX11_stageNamed_45 : decode cX11_stageNamed 45 = .ok (.goto (-41), 3) := by decide +kernel
theorem dX11_stageNamed_48 : decode cX11_stageNamed 48 = .ok (.iconst (-1), 1) := by decide +kernel
theorem dX11_stageNamed_49 : decode cX11_stageNamed 49 = .ok (.ireturn, 1) := by decide +kernel
theorem dX11_needsNumber_0 : decode cX11_needsNumber 0 = .ok (.aload_n 0, 1) := by decide +kernel
theorem dX11_needsNumber_1 : decode cX11_needsNumber 1 = .ok (.getfield 178, 3) := by decide +kernel
theorem dX11_needsNumber_4 : decode cX11_needsNumber 4 = .ok (.iconst 2, 1) := by decide +kernel
theorem dX11_needsNumber_5 : decode cX11_needsNumber 5 = .ok (.if_icmp .eq 9, 3) := by decide +kernel
theorem dX11_needsNumber_8 : decode cX11_needsNumber 8 = .ok (.aload_n 0, 1) := by decide +kernel
theorem dX11_needsNumber_9 : decode cX11_needsNumber 9 = .ok (.iconst 1, 1) := by decide +kernel
theorem dX11_needsNumber_10 : decode cX11_needsNumber 10 = .ok (.invokevirtual 217, 3) := by decide +kernel
theorem dX11_needsNumber_13 : decode cX11_needsNumber 13 = .ok (.ireturn, 1) := by decide +kernel
theorem dX11_needsNumber_14 : decode cX11_needsNumber 14 = .ok (.aload_n 0, 1) := by decide +kernel
theorem dX11_needsNumber_15 : decode cX11_needsNumber 15 = .ok (.getfield 175, 3) := by decide +kernel
theorem dX11_needsNumber_18 : decode cX11_needsNumber 18 = .ok (.iload_n 1, 1) := by decide +kernel
theorem dX11_needsNumber_19 : decode cX11_needsNumber 19 = .ok (.iload_n 2, 1) := by decide +kernel
theorem dX11_needsNumber_20 : decode cX11_needsNumber 20 = .ok (.invokestatic 274, 3) := by decide +kernel
theorem dX11_needsNumber_23 : decode cX11_needsNumber 23 = .ok (.ifCond .ne 9, 3) := by decide +kernel
theorem dX11_needsNumber_26 : decode cX11_needsNumber 26 = .ok (.aload_n 0, 1) := by decide +kernel
theorem dX11_needsNumber_27 : decode cX11_needsNumber 27 = .ok (.iconst 4, 1) := by decide +kernel
theorem dX11_needsNumber_28 : decode cX11_needsNumber 28 = .ok (.invokevirtual 217, 3) := by decide +kernel
theorem dX11_needsNumber_31 : decode cX11_needsNumber 31 = .ok (.ireturn, 1) := by decide +kernel
theorem dX11_needsNumber_32 : decode cX11_needsNumber 32 = .ok (.aload_n 0, 1) := by decide +kernel
theorem dX11_needsNumber_33 : decode cX11_needsNumber 33 = .ok (.aload_n 0, 1) := by decide +kernel
theorem dX11_needsNumber_34 : decode cX11_needsNumber 34 = .ok (.getfield 175, 3) := by decide +kernel
theorem dX11_needsNumber_37 : decode cX11_needsNumber 37 = .ok (.putfield 278, 3) := by decide +kernel
theorem dX11_needsNumber_40 : decode cX11_needsNumber 40 = .ok (.aload_n 0, 1) := by decide +kernel
theorem dX11_needsNumber_41 : decode cX11_needsNumber 41 = .ok (.invokevirtual 224, 3) := by decide +kernel
theorem dX11_needsNumber_44 : decode cX11_needsNumber 44 = .ok (.iconst 1, 1) := by decide +kernel
theorem dX11_needsNumber_45 : decode cX11_needsNumber 45 = .ok (.ireturn, 1) := by decide +kernel
theorem dX11_needsBoth_0 : decode cX11_needsBoth 0 = .ok (.aload_n 0, 1) := by decide +kernel
theorem dX11_needsBoth_1 : decode cX11_needsBoth 1 = .ok (.lload_n 1, 1) := by decide +kernel
theorem dX11_needsBoth_2 : decode cX11_needsBoth 2 = .ok (.invokevirtual 209, 3) := by decide +kernel
theorem dX11_needsBoth_5 : decode cX11_needsBoth 5 = .ok (.ifCond .ne 9, 3) := by decide +kernel
theorem dX11_needsBoth_8 : decode cX11_needsBoth 8 = .ok (.aload_n 0, 1) := by decide +kernel
theorem dX11_needsBoth_9 : decode cX11_needsBoth 9 = .ok (.iconst 1, 1) := by decide +kernel
theorem dX11_needsBoth_10 : decode cX11_needsBoth 10 = .ok (.invokevirtual 217, 3) := by decide +kernel
theorem dX11_needsBoth_13 : decode cX11_needsBoth 13 = .ok (.ireturn, 1) := by decide +kernel
theorem dX11_needsBoth_14 : decode cX11_needsBoth 14 = .ok (.aload_n 0, 1) := by decide +kernel
theorem dX11_needsBoth_15 : decode cX11_needsBoth 15 = .ok (.invokevirtual 224, 3) := by decide +kernel
theorem dX11_needsBoth_18 : decode cX11_needsBoth 18 = .ok (.aload_n 0, 1) := by decide +kernel
theorem dX11_needsBoth_19 : decode cX11_needsBoth 19 = .ok (.iload_n 3, 1) := by decide +kernel
theorem dX11_needsBoth_20 : decode cX11_needsBoth 20 = .ok (.iload 4, 2) := by decide +kernel
theorem dX11_needsBoth_22 : decode cX11_needsBoth 22 = .ok (.invokevirtual 281, 3) := by decide +kernel
theorem dX11_needsBoth_25 : decode cX11_needsBoth 25 = .ok (.ireturn, 1) := by decide +kernel
theorem dX11_closes_0 : decode cX11_closes 0 = .ok (.aload_n 0, 1) := by decide +kernel
theorem dX11_closes_1 : decode cX11_closes 1 = .ok (.bipush 59, 2) := by decide +kernel
theorem dX11_closes_3 : decode cX11_closes 3 = .ok (.invokevirtual 213, 3) := by decide +kernel
theorem dX11_closes_6 : decode cX11_closes 6 = .ok (.ifCond .ne 9, 3) := by decide +kernel
theorem dX11_closes_9 : decode cX11_closes 9 = .ok (.aload_n 0, 1) := by decide +kernel
theorem dX11_closes_10 : decode cX11_closes 10 = .ok (.iconst 1, 1) := by decide +kernel
theorem dX11_closes_11 : decode cX11_closes 11 = .ok (.invokevirtual 217, 3) := by decide +kernel
theorem dX11_closes_14 : decode cX11_closes 14 = .ok (.ireturn, 1) := by decide +kernel
theorem dX11_closes_15 : decode cX11_closes 15 = .ok (.aload_n 0, 1) := by decide +kernel
theorem dX11_closes_16 : decode cX11_closes 16 = .ok (.invokevirtual 224, 3) := by decide +kernel
theorem dX11_closes_19 : decode cX11_closes 19 = .ok (.iconst 1, 1) := by decide +kernel
theorem dX11_closes_20 : decode cX11_closes 20 = .ok (.ireturn, 1) := by decide +kernel
theorem dX11_needsNew_0 : decode cX11_needsNew 0 = .ok (.aload_n 0, 1) := by decide +kernel
theorem dX11_needsNew_1 : decode cX11_needsNew 1 = .ok (.invokevirtual 285, 3) := by decide +kernel
theorem dX11_needsNew_4 : decode cX11_needsNew 4 = .ok (.ifCond .eq 9, 3) := by decide +kernel
theorem dX11_needsNew_7 : decode cX11_needsNew 7 = .ok (.aload_n 0, 1) := by decide +kernel
theorem dX11_needsNew_8 : decode cX11_needsNew 8 = .ok (.iconst 1, 1) := by decide +kernel
theorem dX11_needsNew_9 : decode cX11_needsNew 9 = .ok (.invokevirtual 217, 3) := by decide +kernel
theorem dX11_needsNew_12 : decode cX11_needsNew 12 = .ok (.ireturn, 1) := by decide +kernel
theorem dX11_needsNew_13 : decode cX11_needsNew 13 = .ok (.aload_n 0, 1) := by decide +kernel
theorem dX11_needsNew_14 : decode cX11_needsNew 14 = .ok (.iconst 1, 1) := by decide +kernel
theorem dX11_needsNew_15 : decode cX11_needsNew 15 = .ok (.invokevirtual 289, 3) := by decide +kernel
theorem dX11_needsNew_18 : decode cX11_needsNew 18 = .ok (.ifCond .ge 11, 3) := by decide +kernel
theorem dX11_needsNew_21 : decode cX11_needsNew 21 = .ok (.aload_n 0, 1) := by decide +kernel
theorem dX11_needsNew_22 : decode cX11_needsNew 22 = .ok (.iconst 1, 1) := by decide +kernel
theorem dX11_needsNew_23 : decode cX11_needsNew 23 = .ok (.invokevirtual 292, 3) := by decide +kernel
theorem dX11_needsNew_26 : decode cX11_needsNew 26 = .ok (.ifCond .lt 9, 3) := by decide +kernel
theorem dX11_needsNew_29 : decode cX11_needsNew 29 = .ok (.aload_n 0, 1) := by decide +kernel
theorem dX11_needsNew_30 : decode cX11_needsNew 30 = .ok (.iconst 3, 1) := by decide +kernel
theorem dX11_needsNew_31 : decode cX11_needsNew 31 = .ok (.invokevirtual 217, 3) := by decide +kernel
theorem dX11_needsNew_34 : decode cX11_needsNew 34 = .ok (.ireturn, 1) := by decide +kernel
theorem dX11_needsNew_35 : decode cX11_needsNew 35 = .ok (.aload_n 0, 1) := by decide +kernel
theorem dX11_needsNew_36 : decode cX11_needsNew 36 = .ok (.aload_n 0, 1) := by decide +kernel
theorem dX11_needsNew_37 : decode cX11_needsNew 37 = .ok (.getfield 171, 3) := by decide +kernel
theorem dX11_needsNew_40 : decode cX11_needsNew 40 = .ok (.putfield 295, 3) := by decide +kernel
theorem dX11_needsNew_43 : decode cX11_needsNew 43 = .ok (.aload_n 0, 1) := by decide +kernel
theorem dX11_needsNew_44 : decode cX11_needsNew 44 = .ok (.invokevirtual 224, 3) := by decide +kernel
theorem dX11_needsNew_47 : decode cX11_needsNew 47 = .ok (.iconst 1, 1) := by decide +kernel
theorem dX11_needsNew_48 : decode cX11_needsNew 48 = .ok (.ireturn, 1) := by decide +kernel
theorem dX11_needsShed_0 : decode cX11_needsShed 0 = .ok (.aload_n 0, 1) := by decide +kernel
theorem dX11_needsShed_1 : decode cX11_needsShed 1 = .ok (.invokevirtual 285, 3) := by decide +kernel
theorem dX11_needsShed_4 : decode cX11_needsShed 4 = .ok (.ifCond .eq 9, 3) := by decide +kernel
theorem dX11_needsShed_7 : decode cX11_needsShed 7 = .ok (.aload_n 0, 1) := by decide +kernel
theorem dX11_needsShed_8 : decode cX11_needsShed 8 = .ok (.iconst 1, 1) := by decide +kernel
theorem dX11_needsShed_9 : decode cX11_needsShed 9 = .ok (.invokevirtual 217, 3) := by decide +kernel
theorem dX11_needsShed_12 : decode cX11_needsShed 12 = .ok (.ireturn, 1) := by decide +kernel
theorem dX11_needsShed_13 : decode cX11_needsShed 13 = .ok (.aload_n 0, 1) := by decide +kernel
theorem dX11_needsShed_14 : decode cX11_needsShed 14 = .ok (.aload_n 0, 1) := by decide +kernel
theorem dX11_needsShed_15 : decode cX11_needsShed 15 = .ok (.iload_n 1, 1) := by decide +kernel
theorem dX11_needsShed_16 : decode cX11_needsShed 16 = .ok (.invokevirtual 289, 3) := by decide +kernel
theorem dX11_needsShed_19 : decode cX11_needsShed 19 = .ok (.putfield 278, 3) := by decide +kernel
theorem dX11_needsShed_22 : decode cX11_needsShed 22 = .ok (.aload_n 0, 1) := by decide +kernel
theorem dX11_needsShed_23 : decode cX11_needsShed 23 = .ok (.getfield 278, 3) := by decide +kernel
theorem dX11_needsShed_26 : decode cX11_needsShed 26 = .ok (.ifCond .ge 11, 3) := by decide +kernel
theorem dX11_needsShed_29 : decode cX11_needsShed 29 = .ok (.aload_n 0, 1) := by decide +kernel
theorem dX11_needsShed_30 : decode cX11_needsShed 30 = .ok (.iconst 2, 1) := by decide +kernel
theorem dX11_needsShed_31 : decode cX11_needsShed 31 = .ok (.invokevirtual 217, 3) := by decide +kernel
theorem dX11_needsShed_34 : decode cX11_needsShed 34 = .ok (.ifCond .eq 7, 3) := by decide +kernel
theorem dX11_needsShed_37 : decode cX11_needsShed 37 = .ok (.iconst 1, 1) := by decide +kernel
theorem dX11_needsShed_38 : decode cX11_needsShed 38 = .ok (.goto 4, 3) := by decide +kernel
theorem dX11_needsShed_41 : decode cX11_needsShed 41 = .ok (.iconst 0, 1) := by decide +kernel
theorem dX11_needsShed_42 : decode cX11_needsShed 42 = .ok (.ireturn, 1) := by decide +kernel
theorem dX11_readsShed_0 : decode cX11_readsShed 0 = .ok (.bipush 6, 2) := by decide +kernel
theorem dX11_readsShed_2 : decode cX11_readsShed 2 = .ok (.aload_n 0, 1) := by decide +kernel
theorem dX11_readsShed_3 : decode cX11_readsShed 3 = .ok (.getfield 13, 3) := by decide +kernel
theorem dX11_readsShed_6 : decode cX11_readsShed 6 = .ok (.iconst 4, 1) := by decide +kernel
theorem dX11_readsShed_7 : decode cX11_readsShed 7 = .ok (.iaload, 1) := by decide +kernel
theorem dX11_readsShed_8 : decode cX11_readsShed 8 = .ok (.iadd, 1) := by decide +kernel
theorem dX11_readsShed_9 : decode cX11_readsShed 9 = .ok (.istore_n 1, 1) := by decide +kernel
theorem dX11_readsShed_10 : decode cX11_readsShed 10 = .ok (.iload_n 1, 1) := by decide +kernel
theorem dX11_readsShed_11 : decode cX11_readsShed 11 = .ok (.bipush 12, 2) := by decide +kernel
theorem dX11_readsShed_13 : decode cX11_readsShed 13 = .ok (.if_icmp .ne 9, 3) := by decide +kernel
theorem dX11_readsShed_16 : decode cX11_readsShed 16 = .ok (.aload_n 0, 1) := by decide +kernel
theorem dX11_readsShed_17 : decode cX11_readsShed 17 = .ok (.iconst 5, 1) := by decide +kernel
theorem dX11_readsShed_18 : decode cX11_readsShed 18 = .ok (.invokevirtual 217, 3) := by decide +kernel
theorem dX11_readsShed_21 : decode cX11_readsShed 21 = .ok (.ireturn, 1) := by decide +kernel
theorem dX11_readsShed_22 : decode cX11_readsShed 22 = .ok (.aload_n 0, 1) := by decide +kernel
theorem dX11_readsShed_23 : decode cX11_readsShed 23 = .ok (.invokevirtual 224, 3) := by decide +kernel
theorem dX11_readsShed_26 : decode cX11_readsShed 26 = .ok (.aload_n 0, 1) := by decide +kernel
theorem dX11_readsShed_27 : decode cX11_readsShed 27 = .ok (.invokevirtual 298, 3) := by decide +kernel
theorem dX11_readsShed_30 : decode cX11_readsShed 30 = .ok (.ifCond .ne 5, 3) := by decide +kernel
theorem dX11_readsShed_33 : decode cX11_readsShed 33 = .ok (.iconst 0, 1) := by decide +kernel
theorem dX11_readsShed_34 : decode cX11_readsShed 34 = .ok (.ireturn, 1) := by decide +kernel
theorem dX11_readsShed_35 : decode cX11_readsShed 35 = .ok (.aload_n 0, 1) := by decide +kernel
theorem dX11_readsShed_36 : decode cX11_readsShed 36 = .ok (.getfield 23, 3) := by decide +kernel
theorem dX11_readsShed_39 : decode cX11_readsShed 39 = .ok (.iload_n 1, 1) := by decide +kernel
theorem dX11_readsShed_40 : decode cX11_readsShed 40 = .ok (.aload_n 0, 1) := by decide +kernel
theorem dX11_readsShed_41 : decode cX11_readsShed 41 = .ok (.ldc2_w 266, 3) := by decide +kernel
theorem dX11_readsShed_44 : decode cX11_readsShed 44 = .ok (.invokevirtual 209, 3) := by decide +kernel
theorem dX11_readsShed_47 : decode cX11_readsShed 47 = .ok (.ifCond .eq 7, 3) := by decide +kernel
theorem dX11_readsShed_50 : decode cX11_readsShed 50 = .ok (.iconst 0, 1) := by decide +kernel
theorem dX11_readsShed_51 : decode cX11_readsShed 51 = .ok (.goto 46, 3) := by decide +kernel
theorem dX11_readsShed_54 : decode cX11_readsShed 54 = .ok (.aload_n 0, 1) := by decide +kernel
theorem dX11_readsShed_55 : decode cX11_readsShed 55 = .ok (.ldc2_w 268, 3) := by decide +kernel
theorem dX11_readsShed_58 : decode cX11_readsShed 58 = .ok (.invokevirtual 209, 3) := by decide +kernel
theorem dX11_readsShed_61 : decode cX11_readsShed 61 = .ok (.ifCond .eq 7, 3) := by decide +kernel
theorem dX11_readsShed_64 : decode cX11_readsShed 64 = .ok (.iconst 1, 1) := by decide +kernel
theorem dX11_readsShed_65 : decode cX11_readsShed 65 = .ok (.goto 32, 3) := by decide +kernel
theorem dX11_readsShed_68 : decode cX11_readsShed 68 = .ok (.aload_n 0, 1) := by decide +kernel
theorem dX11_readsShed_69 : decode cX11_readsShed 69 = .ok (.ldc2_w 270, 3) := by decide +kernel
theorem dX11_readsShed_72 : decode cX11_readsShed 72 = .ok (.invokevirtual 209, 3) := by decide +kernel
theorem dX11_readsShed_75 : decode cX11_readsShed 75 = .ok (.ifCond .eq 7, 3) := by decide +kernel
theorem dX11_readsShed_78 : decode cX11_readsShed 78 = .ok (.iconst 2, 1) := by decide +kernel
theorem dX11_readsShed_79 : decode cX11_readsShed 79 = .ok (.goto 18, 3) := by decide +kernel
theorem dX11_readsShed_82 : decode cX11_readsShed 82 = .ok (.aload_n 0, 1) := by decide +kernel
theorem dX11_readsShed_83 : decode cX11_readsShed 83 = .ok (.ldc2_w 272, 3) := by decide +kernel
theorem dX11_readsShed_86 : decode cX11_readsShed 86 = .ok (.invokevirtual 209, 3) := by decide +kernel
theorem dX11_readsShed_89 : decode cX11_readsShed 89 = .ok (.ifCond .eq 7, 3) := by decide +kernel
theorem dX11_readsShed_92 : decode cX11_readsShed 92 = .ok (.iconst 3, 1) := by decide +kernel
theorem dX11_readsShed_93 : decode cX11_readsShed 93 = .ok (.goto 4, 3) := by decide +kernel
theorem dX11_readsShed_96 : decode cX11_readsShed 96 = .ok (.iconst (-1), 1) := by decide +kernel
theorem dX11_readsShed_97 : decode cX11_readsShed 97 = .ok (.iastore, 1) := by decide +kernel
theorem dX11_readsShed_98 : decode cX11_readsShed 98 = .ok (.aload_n 0, 1) := by decide +kernel
theorem dX11_readsShed_99 : decode cX11_readsShed 99 = .ok (.getfield 23, 3) := by decide +kernel
theorem dX11_readsShed_102 : decode cX11_readsShed 102 = .ok (.iload_n 1, 1) := by decide +kernel
theorem dX11_readsShed_103 : decode cX11_readsShed 103 = .ok (.iaload, 1) := by decide +kernel
theorem dX11_readsShed_104 : decode cX11_readsShed 104 = .ok (.ifCond .ge 9, 3) := by decide +kernel
theorem dX11_readsShed_107 : decode cX11_readsShed 107 = .ok (.aload_n 0, 1) := by decide +kernel
theorem dX11_readsShed_108 : decode cX11_readsShed 108 = .ok (.iconst 1, 1) := by decide +kernel
theorem dX11_readsShed_109 : decode cX11_readsShed 109 = .ok (.invokevirtual 217, 3) := by decide +kernel
theorem dX11_readsShed_112 : decode cX11_readsShed 112 = .ok (.ireturn, 1) := by decide +kernel
theorem dX11_readsShed_113 : decode cX11_readsShed 113 = .ok (.aload_n 0, 1) := by decide +kernel
theorem dX11_readsShed_114 : decode cX11_readsShed 114 = .ok (.invokevirtual 224, 3) := by decide +kernel
theorem dX11_readsShed_117 : decode cX11_readsShed 117 = .ok (.aload_n 0, 1) := by decide +kernel
theorem dX11_readsShed_118 : decode cX11_readsShed 118 = .ok (.ldc2_w 242, 3) := by decide +kernel
theorem dX11_readsShed_121 : decode cX11_readsShed 121 = .ok (.iconst 0, 1) := by decide +kernel
theorem dX11_readsShed_122 : decode cX11_readsShed 122 = .ok (.bipush 9, 2) := by decide +kernel
theorem dX11_readsShed_124 : decode cX11_readsShed 124 = .ok (.invokevirtual 301, 3) := by decide +kernel
theorem dX11_readsShed_127 : decode cX11_readsShed 127 = .ok (.ifCond .ne 5, 3) := by decide +kernel
theorem dX11_readsShed_130 : decode cX11_readsShed 130 = .ok (.iconst 0, 1) := by decide +kernel
theorem dX11_readsShed_131 : decode cX11_readsShed 131 = .ok (.ireturn, 1) := by decide +kernel
theorem dX11_readsShed_132 : decode cX11_readsShed 132 = .ok (.aload_n 0, 1) := by decide +kernel
theorem dX11_readsShed_133 : decode cX11_readsShed 133 = .ok (.getfield 26, 3) := by decide +kernel
theorem dX11_readsShed_136 : decode cX11_readsShed 136 = .ok (.iload_n 1, 1) := by decide +kernel
theorem dX11_readsShed_137 : decode cX11_readsShed 137 = .ok (.aload_n 0, 1) := by decide +kernel
theorem dX11_readsShed_138 : decode cX11_readsShed 138 = .ok (.getfield 278, 3) := by decide +kernel
theorem dX11_readsShed_141 : decode cX11_readsShed 141 = .ok (.iastore, 1) := by decide +kernel
theorem dX11_readsShed_142 : decode cX11_readsShed 142 = .ok (.aload_n 0, 1) := by decide +kernel
theorem dX11_readsShed_143 : decode cX11_readsShed 143 = .ok (.ldc2_w 244, 3) := by decide +kernel
theorem dX11_readsShed_146 : decode cX11_readsShed 146 = .ok (.iconst 1, 1) := by decide +kernel
theorem dX11_readsShed_147 : decode cX11_readsShed 147 = .ok (.bipush 20, 2) := by decide +kernel
theorem dX11_readsShed_149 : decode cX11_readsShed 149 = .ok (.invokevirtual 301, 3) := by decide +kernel
theorem dX11_readsShed_152 : decode cX11_readsShed 152 = .ok (.ifCond .ne 5, 3) := by decide +kernel
theorem dX11_readsShed_155 : decode cX11_readsShed 155 = .ok (.iconst 0, 1) := by decide +kernel
theorem dX11_readsShed_156 : decode cX11_readsShed 156 = .ok (.ireturn, 1) := by decide +kernel
theorem dX11_readsShed_157 : decode cX11_readsShed 157 = .ok (.aload_n 0, 1) := by decide +kernel
theorem dX11_readsShed_158 : decode cX11_readsShed 158 = .ok (.getfield 29, 3) := by decide +kernel
theorem dX11_readsShed_161 : decode cX11_readsShed 161 = .ok (.iload_n 1, 1) := by decide +kernel
theorem dX11_readsShed_162 : decode cX11_readsShed 162 = .ok (.aload_n 0, 1) := by decide +kernel
theorem dX11_readsShed_163 : decode cX11_readsShed 163 = .ok (.getfield 278, 3) := by decide +kernel
theorem dX11_readsShed_166 : decode cX11_readsShed 166 = .ok (.iastore, 1) := by decide +kernel
theorem dX11_readsShed_167 : decode cX11_readsShed 167 = .ok (.aload_n 0, 1) := by decide +kernel
theorem dX11_readsShed_168 : decode cX11_readsShed 168 = .ok (.getfield 32, 3) := by decide +kernel
theorem dX11_readsShed_171 : decode cX11_readsShed 171 = .ok (.iload_n 1, 1) := by decide +kernel
theorem dX11_readsShed_172 : decode cX11_readsShed 172 = .ok (.iconst 0, 1) := by decide +kernel
theorem dX11_readsShed_173 : decode cX11_readsShed 173 = .ok (.iastore, 1) := by decide +kernel
theorem dX11_readsShed_174 : decode cX11_readsShed 174 = .ok (.aload_n 0, 1) := by decide +kernel
theorem dX11_readsShed_175 : decode cX11_readsShed 175 = .ok (.getfield 16, 3) := by decide +kernel
theorem dX11_readsShed_178 : decode cX11_readsShed 178 = .ok (.iload_n 1, 1) := by decide +kernel
theorem dX11_readsShed_179 : decode cX11_readsShed 179 = .ok (.aload_n 0, 1) := by decide +kernel
theorem dX11_readsShed_180 : decode cX11_readsShed 180 = .ok (.getfield 295, 3) := by decide +kernel
theorem dX11_readsShed_183 : decode cX11_readsShed 183 = .ok (.lastore, 1) := by decide +kernel
theorem dX11_readsShed_184 : decode cX11_readsShed 184 = .ok (.aload_n 0, 1) := by decide +kernel
theorem dX11_readsShed_185 : decode cX11_readsShed 185 = .ok (.getfield 13, 3) := by decide +kernel
theorem dX11_readsShed_188 : decode cX11_readsShed 188 = .ok (.iconst 4, 1) := by decide +kernel
theorem dX11_readsShed_189 : decode cX11_readsShed 189 = .ok (.dup2, 1) := by decide +kernel
theorem dX11_readsShed_190 : decode cX11_readsShed 190 = .ok (.iaload, 1) := by decide +kernel
theorem dX11_readsShed_191 : decode cX11_readsShed 191 = .ok (.iconst 1, 1) := by decide +kernel
theorem dX11_readsShed_192 : decode cX11_readsShed 192 = .ok (.iadd, 1) := by decide +kernel
theorem dX11_readsShed_193 : decode cX11_readsShed 193 = .ok (.iastore, 1) := by decide +kernel
theorem dX11_readsShed_194 : decode cX11_readsShed 194 = .ok (.aload_n 0, 1) := by decide +kernel
theorem dX11_readsShed_195 : decode cX11_readsShed 195 = .ok (.invokevirtual 305, 3) := by decide +kernel
theorem dX11_readsShed_198 : decode cX11_readsShed 198 = .ok (.ireturn, 1) := by decide +kernel
theorem dX11_readsNear_0 : decode cX11_readsNear 0 = .ok (.aload_n 0, 1) := by decide +kernel
theorem dX11_readsNear_1 : decode cX11_readsNear 1 = .ok (.invokevirtual 224, 3) := by decide +kernel
theorem dX11_readsNear_4 : decode cX11_readsNear 4 = .ok (.aload_n 0, 1) := by decide +kernel
theorem dX11_readsNear_5 : decode cX11_readsNear 5 = .ok (.iconst 1, 1) := by decide +kernel
theorem dX11_readsNear_6 : decode cX11_readsNear 6 = .ok (.invokevirtual 308, 3) := by decide +kernel
theorem dX11_readsNear_9 : decode cX11_readsNear 9 = .ok (.ifCond .ne 5, 3) := by decide +kernel
theorem dX11_readsNear_12 : decode cX11_readsNear 12 = .ok (.iconst 0, 1) := by decide +kernel
theorem dX11_readsNear_13 : decode cX11_readsNear 13 = .ok (.ireturn, 1) := by decide +kernel
theorem dX11_readsNear_14 : decode cX11_readsNear 14 = .ok (.aload_n 0, 1) := by decide +kernel
theorem dX11_readsNear_15 : decode cX11_readsNear 15 = .ok (.getfield 278, 3) := by decide +kernel
theorem dX11_readsNear_18 : decode cX11_readsNear 18 = .ok (.istore_n 1, 1) := by decide +kernel
theorem dX11_readsNear_19 : decode cX11_readsNear 19 = .ok (.aload_n 0, 1) := by decide +kernel
theorem dX11_readsNear_20 : decode cX11_readsNear 20 = .ok (.invokevirtual 224, 3) := by decide +kernel
theorem dX11_readsNear_23 : decode cX11_readsNear 23 = .ok (.aload_n 0, 1) := by decide +kernel
theorem dX11_readsNear_24 : decode cX11_readsNear 24 = .ok (.iconst 1, 1) := by decide +kernel
theorem dX11_readsNear_25 : decode cX11_readsNear 25 = .ok (.invokevirtual 308, 3) := by decide +kernel
theorem dX11_readsNear_28 : decode cX11_readsNear 28 = .ok (.ifCond .ne 5, 3) := by decide +kernel
theorem dX11_readsNear_31 : decode cX11_readsNear 31 = .ok (.iconst 0, 1) := by decide +kernel
theorem dX11_readsNear_32 : decode cX11_readsNear 32 = .ok (.ireturn, 1) := by decide +kernel
theorem dX11_readsNear_33 : decode cX11_readsNear 33 = .ok (.iload_n 1, 1) := by decide +kernel
theorem dX11_readsNear_34 : decode cX11_readsNear 34 = .ok (.aload_n 0, 1) := by decide +kernel
theorem dX11_readsNear_35 : decode cX11_readsNear 35 = .ok (.getfield 278, 3) := by decide +kernel
theorem dX11_readsNear_38 : decode cX11_readsNear 38 = .ok (.if_icmp .eq 23, 3) := by decide +kernel
theorem dX11_readsNear_41 : decode cX11_readsNear 41 = .ok (.aload_n 0, 1) := by decide +kernel
theorem dX11_readsNear_42 : decode cX11_readsNear 42 = .ok (.getfield 32, 3) := by decide +kernel
theorem dX11_readsNear_45 : decode cX11_readsNear 45 = .ok (.bipush 6, 2) := by decide +kernel
theorem dX11_readsNear_47 : decode cX11_readsNear 47 = .ok (.iload_n 1, 1) := by decide +kernel
theorem dX11_readsNear_48 : decode cX11_readsNear 48 = .ok (.iadd, 1) := by decide +kernel
theorem dX11_readsNear_49 : decode cX11_readsNear 49 = .ok (.iaload, 1) := by decide +kernel
theorem dX11_readsNear_50 : decode cX11_readsNear 50 = .ok (.aload_n 0, 1) := by decide +kernel
theorem dX11_readsNear_51 : decode cX11_readsNear 51 = .ok (.getfield 278, 3) := by decide +kernel
theorem dX11_readsNear_54 : decode cX11_readsNear 54 = .ok (.ishr, 1) := by decide +kernel
theorem dX11_readsNear_55 : decode cX11_readsNear 55 = .ok (.iconst 1, 1) := by decide +kernel
theorem dX11_readsNear_56 : decode cX11_readsNear 56 = .ok (.iand, 1) := by decide +kernel
theorem dX11_readsNear_57 : decode cX11_readsNear 57 = .ok (.iconst 1, 1) := by decide +kernel
theorem dX11_readsNear_58 : decode cX11_readsNear 58 = .ok (.if_icmp .ne 9, 3) := by decide +kernel
theorem dX11_readsNear_61 : decode cX11_readsNear 61 = .ok (.aload_n 0, 1) := by decide +kernel
theorem dX11_readsNear_62 : decode cX11_readsNear 62 = .ok (.iconst 3, 1) := by decide +kernel
theorem dX11_readsNear_63 : decode cX11_readsNear 63 = .ok (.invokevirtual 217, 3) := by decide +kernel
theorem dX11_readsNear_66 : decode cX11_readsNear 66 = .ok (.ireturn, 1) := by decide +kernel
theorem dX11_readsNear_67 : decode cX11_readsNear 67 = .ok (.aload_n 0, 1) := by decide +kernel
theorem dX11_readsNear_68 : decode cX11_readsNear 68 = .ok (.getfield 32, 3) := by decide +kernel
theorem dX11_readsNear_71 : decode cX11_readsNear 71 = .ok (.bipush 6, 2) := by decide +kernel
theorem dX11_readsNear_73 : decode cX11_readsNear 73 = .ok (.iload_n 1, 1) := by decide +kernel
theorem dX11_readsNear_74 : decode cX11_readsNear 74 = .ok (.iadd, 1) := by decide +kernel
theorem dX11_readsNear_75 : decode cX11_readsNear 75 = .ok (.dup2, 1) := by decide +kernel
theorem dX11_readsNear_76 : decode cX11_readsNear 76 = .ok (.iaload, 1) := by decide +kernel
theorem dX11_readsNear_77 : decode cX11_readsNear 77 = .ok (.iconst 1, 1) := by decide +kernel
theorem dX11_readsNear_78 : decode cX11_readsNear 78 = .ok (.aload_n 0, 1) := by decide +kernel
theorem dX11_readsNear_79 : decode cX11_readsNear 79 = .ok (.getfield 278, 3) := by decide +kernel
theorem dX11_readsNear_82 : decode cX11_readsNear 82 = .ok (.ishl, 1) := by decide +kernel
theorem dX11_readsNear_83 : decode cX11_readsNear 83 = .ok (.ior, 1) := by decide +kernel
theorem dX11_readsNear_84 : decode cX11_readsNear 84 = .ok (.iastore, 1) := by decide +kernel
theorem dX11_readsNear_85 : decode cX11_readsNear 85 = .ok (.aload_n 0, 1) := by decide +kernel
theorem dX11_readsNear_86 : decode cX11_readsNear 86 = .ok (.getfield 32, 3) := by decide +kernel
theorem dX11_readsNear_89 : decode cX11_readsNear 89 = .ok (.bipush 6, 2) := by decide +kernel
theorem dX11_readsNear_91 : decode cX11_readsNear 91 = .ok (.aload_n 0, 1) := by decide +kernel
theorem dX11_readsNear_92 : decode cX11_readsNear 92 = .ok (.getfield 278, 3) := by decide +kernel
theorem dX11_readsNear_95 : decode cX11_readsNear 95 = .ok (.iadd, 1) := by decide +kernel
theorem dX11_readsNear_96 : decode cX11_readsNear 96 = .ok (.dup2, 1) := by decide +kernel
theorem dX11_readsNear_97 : decode cX11_readsNear 97 = .ok (.iaload, 1) := by decide +kernel
theorem dX11_readsNear_98 : decode cX11_readsNear 98 = .ok (.iconst 1, 1) := by decide +kernel
theorem dX11_readsNear_99 : decode cX11_readsNear 99 = .ok (.iload_n 1, 1) := by decide +kernel
theorem dX11_readsNear_100 : decode cX11_readsNear 100 = .ok (.ishl, 1) := by decide +kernel
theorem dX11_readsNear_101 : decode cX11_readsNear 101 = .ok (.ior, 1) := by decide +kernel
theorem dX11_readsNear_102 : decode cX11_readsNear 102 = .ok (.iastore, 1) := by decide +kernel
theorem dX11_readsNear_103 : decode cX11_readsNear 103 = .ok (.aload_n 0, 1) := by decide +kernel
theorem dX11_readsNear_104 : decode cX11_readsNear 104 = .ok (.invokevirtual 224, 3) := by decide +kernel
theorem dX11_readsNear_107 : decode cX11_readsNear 107 = .ok (.aload_n 0, 1) := by decide +kernel
theorem dX11_readsNear_108 : decode cX11_readsNear 108 = .ok (.invokevirtual 305, 3) := by decide +kernel
theorem dX11_readsNear_111 : decode cX11_readsNear 111 = .ok (.ireturn, 1) := by decide +kernel
theorem dX11_readsStage_0 : decode cX11_readsStage 0 = .ok (.iconst 5, 1) := by decide +kernel
theorem dX11_readsStage_1 : decode cX11_readsStage 1 = .ok (.aload_n 0, 1) := by decide +kernel
theorem dX11_readsStage_2 : decode cX11_readsStage 2 = .ok (.getfield 13, 3) := by decide +kernel
theorem dX11_readsStage_5 : decode cX11_readsStage 5 = .ok (.iconst 5, 1) := by decide +kernel
theorem dX11_readsStage_6 : decode cX11_readsStage 6 = .ok (.iaload, 1) := by decide +kernel
theorem dX11_readsStage_7 : decode cX11_readsStage 7 = .ok (.iadd, 1) := by decide +kernel
theorem dX11_readsStage_8 : decode cX11_readsStage 8 = .ok (.istore_n 1, 1) := by decide +kernel
theorem dX11_readsStage_9 : decode cX11_readsStage 9 = .ok (.iload_n 1, 1) := by decide +kernel
theorem dX11_readsStage_10 : decode cX11_readsStage 10 = .ok (.bipush 10, 2) := by decide +kernel
theorem dX11_readsStage_12 : decode cX11_readsStage 12 = .ok (.if_icmp .ne 9, 3) := by decide +kernel
theorem dX11_readsStage_15 : decode cX11_readsStage 15 = .ok (.aload_n 0, 1) := by decide +kernel
theorem dX11_readsStage_16 : decode cX11_readsStage 16 = .ok (.iconst 5, 1) := by decide +kernel
theorem dX11_readsStage_17 : decode cX11_readsStage 17 = .ok (.invokevirtual 217, 3) := by decide +kernel
theorem dX11_readsStage_20 : decode cX11_readsStage 20 = .ok (.ireturn, 1) := by decide +kernel
theorem dX11_readsStage_21 : decode cX11_readsStage 21 = .ok (.aload_n 0, 1) := by decide +kernel
theorem dX11_readsStage_22 : decode cX11_readsStage 22 = .ok (.invokevirtual 224, 3) := by decide +kernel
theorem dX11_readsStage_25 : decode cX11_readsStage 25 = .ok (.aload_n 0, 1) := by decide +kernel
theorem dX11_readsStage_26 : decode cX11_readsStage 26 = .ok (.invokevirtual 298, 3) := by decide +kernel
theorem dX11_readsStage_29 : decode cX11_readsStage 29 = .ok (.ifCond .ne 5, 3) := by decide +kernel
theorem dX11_readsStage_32 : decode cX11_readsStage 32 = .ok (.iconst 0, 1) := by decide +kernel
theorem dX11_readsStage_33 : decode cX11_readsStage 33 = .ok (.ireturn, 1) := by decide +kernel
theorem dX11_readsStage_34 : decode cX11_readsStage 34 = .ok (.aload_n 0, 1) := by decide +kernel
theorem dX11_readsStage_35 : decode cX11_readsStage 35 = .ok (.ldc2_w 250, 3) := by decide +kernel
theorem dX11_readsStage_38 : decode cX11_readsStage 38 = .ok (.iconst 0, 1) := by decide +kernel
theorem dX11_readsStage_39 : decode cX11_readsStage 39 = .ok (.bipush 60, 2) := by decide +kernel
theorem dX11_readsStage_41 : decode cX11_readsStage 41 = .ok (.invokevirtual 301, 3) := by decide +kernel
theorem dX11_readsStage_44 : decode cX11_readsStage 44 = .ok (.ifCond .ne 5, 3) := by decide +kernel
theorem dX11_readsStage_47 : decode cX11_readsStage 47 = .ok (.iconst 0, 1) := by decide +kernel
theorem dX11_readsStage_48 : decode cX11_readsStage 48 = .ok (.ireturn, 1) := by decide +kernel
theorem dX11_readsStage_49 : decode cX11_readsStage 49 = .ok (.aload_n 0, 1) := by decide +kernel
theorem dX11_readsStage_50 : decode cX11_readsStage 50 = .ok (.getfield 35, 3) := by decide +kernel
theorem dX11_readsStage_53 : decode cX11_readsStage 53 = .ok (.iload_n 1, 1) := by decide +kernel
theorem dX11_readsStage_54 : decode cX11_readsStage 54 = .ok (.aload_n 0, 1) := by decide +kernel
theorem dX11_readsStage_55 : decode cX11_readsStage 55 = .ok (.getfield 278, 3) := by decide +kernel
theorem dX11_readsStage_58 : decode cX11_readsStage 58 = .ok (.iastore, 1) := by decide +kernel
theorem dX11_readsStage_59 : decode cX11_readsStage 59 = .ok (.aload_n 0, 1) := by decide +kernel
theorem dX11_readsStage_60 : decode cX11_readsStage 60 = .ok (.ldc2_w 252, 3) := by decide +kernel
theorem dX11_readsStage_63 : decode cX11_readsStage 63 = .ok (.aload_n 0, 1) := by decide +kernel
theorem dX11_readsStage_64 : decode cX11_readsStage 64 = .ok (.getfield 35, 3) := by decide +kernel
theorem dX11_readsStage_67 : decode cX11_readsStage 67 = .ok (.iload_n 1, 1) := by decide +kernel
theorem dX11_readsStage_68 : decode cX11_readsStage 68 = .ok (.iaload, 1) := by decide +kernel
theorem dX11_readsStage_69 : decode cX11_readsStage 69 = .ok (.bipush 99, 2) := by decide +kernel
theorem dX11_readsStage_71 : decode cX11_readsStage 71 = .ok (.invokevirtual 301, 3) := by decide +kernel
theorem dX11_readsStage_74 : decode cX11_readsStage 74 = .ok (.ifCond .ne 5, 3) := by decide +kernel
theorem dX11_readsStage_77 : decode cX11_readsStage 77 = .ok (.iconst 0, 1) := by decide +kernel
theorem dX11_readsStage_78 : decode cX11_readsStage 78 = .ok (.ireturn, 1) := by decide +kernel
theorem dX11_readsStage_79 : decode cX11_readsStage 79 = .ok (.aload_n 0, 1) := by decide +kernel
theorem dX11_readsStage_80 : decode cX11_readsStage 80 = .ok (.getfield 38, 3) := by decide +kernel
theorem dX11_readsStage_83 : decode cX11_readsStage 83 = .ok (.iload_n 1, 1) := by decide +kernel
theorem dX11_readsStage_84 : decode cX11_readsStage 84 = .ok (.aload_n 0, 1) := by decide +kernel
theorem dX11_readsStage_85 : decode cX11_readsStage 85 = .ok (.getfield 278, 3) := by decide +kernel
theorem dX11_readsStage_88 : decode cX11_readsStage 88 = .ok (.iastore, 1) := by decide +kernel
theorem dX11_readsStage_89 : decode cX11_readsStage 89 = .ok (.aload_n 0, 1) := by decide +kernel
theorem dX11_readsStage_90 : decode cX11_readsStage 90 = .ok (.getfield 20, 3) := by decide +kernel
theorem dX11_readsStage_93 : decode cX11_readsStage 93 = .ok (.iload_n 1, 1) := by decide +kernel
theorem dX11_readsStage_94 : decode cX11_readsStage 94 = .ok (.aload_n 0, 1) := by decide +kernel
theorem dX11_readsStage_95 : decode cX11_readsStage 95 = .ok (.getfield 295, 3) := by decide +kernel
theorem dX11_readsStage_98 : decode cX11_readsStage 98 = .ok (.lastore, 1) := by decide +kernel
theorem dX11_readsStage_99 : decode cX11_readsStage 99 = .ok (.aload_n 0, 1) := by decide +kernel
theorem dX11_readsStage_100 : decode cX11_readsStage 100 = .ok (.getfield 13, 3) := by decide +kernel
theorem dX11_readsStage_103 : decode cX11_readsStage 103 = .ok (.iconst 5, 1) := by decide +kernel
theorem dX11_readsStage_104 : decode cX11_readsStage 104 = .ok (.dup2, 1) := by decide +kernel
theorem dX11_readsStage_105 : decode cX11_readsStage 105 = .ok (.iaload, 1) := by decide +kernel
theorem dX11_readsStage_106 : decode cX11_readsStage 106 = .ok (.iconst 1, 1) := by decide +kernel
theorem dX11_readsStage_107 : decode cX11_readsStage 107 = .ok (.iadd, 1) := by decide +kernel
theorem dX11_readsStage_108 : decode cX11_readsStage 108 = .ok (.iastore, 1) := by decide +kernel
theorem dX11_readsStage_109 : decode cX11_readsStage 109 = .ok (.aload_n 0, 1) := by decide +kernel
theorem dX11_readsStage_110 : decode cX11_readsStage 110 = .ok (.invokevirtual 305, 3) := by decide +kernel
theorem dX11_readsStage_113 : decode cX11_readsStage 113 = .ok (.ireturn, 1) := by decide +kernel
theorem dX11_readsFrost_0 : decode cX11_readsFrost 0 = .ok (.aload_n 0, 1) := by decide +kernel
theorem dX11_readsFrost_1 : decode cX11_readsFrost 1 = .ok (.getfield 13, 3) := by decide +kernel
theorem dX11_readsFrost_4 : decode cX11_readsFrost 4 = .ok (.bipush 6, 2) := by decide +kernel
theorem dX11_readsFrost_6 : decode cX11_readsFrost 6 = .ok (.iaload, 1) := by decide +kernel
theorem dX11_readsFrost_7 : decode cX11_readsFrost 7 = .ok (.ifCond .le 9, 3) := by decide +kernel
theorem dX11_readsFrost_10 : decode cX11_readsFrost 10 = .ok (.aload_n 0, 1) := by decide +kernel
theorem dX11_readsFrost_11 : decode cX11_readsFrost 11 = .ok (.iconst 3, 1) := by decide +kernel
theorem dX11_readsFrost_12 : decode cX11_readsFrost 12 = .ok (.invokevirtual 217, 3) := by decide +kernel
theorem dX11_readsFrost_15 : decode cX11_readsFrost 15 = .ok (.ireturn, 1) := by decide +kernel
theorem dX11_readsFrost_16 : decode cX11_readsFrost 16 = .ok (.aload_n 0, 1) := by decide +kernel
theorem dX11_readsFrost_17 : decode cX11_readsFrost 17 = .ok (.invokevirtual 224, 3) := by decide +kernel
theorem dX11_readsFrost_20 : decode cX11_readsFrost 20 = .ok (.aload_n 0, 1) := by decide +kernel
theorem dX11_readsFrost_21 : decode cX11_readsFrost 21 = .ok (.getfield 13, 3) := by decide +kernel
theorem dX11_readsFrost_24 : decode cX11_readsFrost 24 = .ok (.bipush 6, 2) := by decide +kernel
theorem dX11_readsFrost_26 : decode cX11_readsFrost 26 = .ok (.iaload, 1) := by decide +kernel
theorem dX11_readsFrost_27 : decode cX11_readsFrost 27 = .ok (.ifCond .eq 11, 3) := by decide +kernel
theorem dX11_readsFrost_30 : decode cX11_readsFrost 30 = .ok (.aload_n 0, 1) := by decide +kernel
theorem dX11_readsFrost_31 : decode cX11_readsFrost 31 = .ok (.getfield 178, 3) := by decide +kernel
theorem dX11_readsFrost_34 : decode cX11_readsFrost 34 = .ok (.iconst 2, 1) := by decide +kernel
theorem dX11_readsFrost_35 : decode cX11_readsFrost 35 = .ok (.if_icmp .ne 87, 3) := by decide +kernel
theorem dX11_readsFrost_38 : decode cX11_readsFrost 38 = .ok (.aload_n 0, 1) := by decide +kernel
theorem dX11_readsFrost_39 : decode cX11_readsFrost 39 = .ok (.getfield 178, 3) := by decide +kernel
theorem dX11_readsFrost_42 : decode cX11_readsFrost 42 = .ok (.iconst 2, 1) := by decide +kernel
theorem dX11_readsFrost_43 : decode cX11_readsFrost 43 = .ok (.if_icmp .eq 9, 3) := by decide +kernel
theorem dX11_readsFrost_46 : decode cX11_readsFrost 46 = .ok (.aload_n 0, 1) := by decide +kernel
theorem dX11_readsFrost_47 : decode cX11_readsFrost 47 = .ok (.iconst 1, 1) := by decide +kernel
theorem dX11_readsFrost_48 : decode cX11_readsFrost 48 = .ok (.invokevirtual 217, 3) := by decide +kernel
theorem dX11_readsFrost_51 : decode cX11_readsFrost 51 = .ok (.ireturn, 1) := by decide +kernel
theorem dX11_readsFrost_52 : decode cX11_readsFrost 52 = .ok (.aload_n 0, 1) := by decide +kernel
theorem dX11_readsFrost_53 : decode cX11_readsFrost 53 = .ok (.getfield 175, 3) := by decide +kernel
theorem dX11_readsFrost_56 : decode cX11_readsFrost 56 = .ok (.bipush 9, 2) := by decide +kernel
theorem dX11_readsFrost_58 : decode cX11_readsFrost 58 = .ok (.if_icmp .le 9, 3) := by decide +kernel
theorem dX11_readsFrost_61 : decode cX11_readsFrost 61 = .ok (.aload_n 0, 1) := by decide +kernel
theorem dX11_readsFrost_62 : decode cX11_readsFrost 62 = .ok (.iconst 4, 1) := by decide +kernel
theorem dX11_readsFrost_63 : decode cX11_readsFrost 63 = .ok (.invokevirtual 217, 3) := by decide +kernel
theorem dX11_readsFrost_66 : decode cX11_readsFrost 66 = .ok (.ireturn, 1) := by decide +kernel
theorem dX11_readsFrost_67 : decode cX11_readsFrost 67 = .ok (.aload_n 0, 1) := by decide +kernel
theorem dX11_readsFrost_68 : decode cX11_readsFrost 68 = .ok (.getfield 13, 3) := by decide +kernel
theorem dX11_readsFrost_71 : decode cX11_readsFrost 71 = .ok (.bipush 6, 2) := by decide +kernel
theorem dX11_readsFrost_73 : decode cX11_readsFrost 73 = .ok (.iaload, 1) := by decide +kernel
theorem dX11_readsFrost_74 : decode cX11_readsFrost 74 = .ok (.bipush 12, 2) := by decide +kernel
theorem dX11_readsFrost_76 : decode cX11_readsFrost 76 = .ok (.if_icmp .ne 9, 3) := by decide +kernel
theorem dX11_readsFrost_79 : decode cX11_readsFrost 79 = .ok (.aload_n 0, 1) := by decide +kernel
theorem dX11_readsFrost_80 : decode cX11_readsFrost 80 = .ok (.iconst 5, 1) := by decide +kernel
theorem dX11_readsFrost_81 : decode cX11_readsFrost 81 = .ok (.invokevirtual 217, 3) := by decide +kernel
theorem dX11_readsFrost_84 : decode cX11_readsFrost 84 = .ok (.ireturn, 1) := by decide +kernel
theorem dX11_readsFrost_85 : decode cX11_readsFrost 85 = .ok (.aload_n 0, 1) := by decide +kernel
theorem dX11_readsFrost_86 : decode cX11_readsFrost 86 = .ok (.getfield 41, 3) := by decide +kernel
theorem dX11_readsFrost_89 : decode cX11_readsFrost 89 = .ok (.bipush 12, 2) := by decide +kernel
theorem dX11_readsFrost_91 : decode cX11_readsFrost 91 = .ok (.aload_n 0, 1) := by decide +kernel
theorem dX11_readsFrost_92 : decode cX11_readsFrost 92 = .ok (.getfield 13, 3) := by decide +kernel
theorem dX11_readsFrost_95 : decode cX11_readsFrost 95 = .ok (.bipush 6, 2) := by decide +kernel
theorem dX11_readsFrost_97 : decode cX11_readsFrost 97 = .ok (.iaload, 1) := by decide +kernel
theorem dX11_readsFrost_98 : decode cX11_readsFrost 98 = .ok (.iadd, 1) := by decide +kernel
theorem dX11_readsFrost_99 : decode cX11_readsFrost 99 = .ok (.aload_n 0, 1) := by decide +kernel
theorem dX11_readsFrost_100 : decode cX11_readsFrost 100 = .ok (.getfield 175, 3) := by decide +kernel
theorem dX11_readsFrost_103 : decode cX11_readsFrost 103 = .ok (.iastore, 1) := by decide +kernel
theorem dX11_readsFrost_104 : decode cX11_readsFrost 104 = .ok (.aload_n 0, 1) := by decide +kernel
theorem dX11_readsFrost_105 : decode cX11_readsFrost 105 = .ok (.getfield 13, 3) := by decide +kernel
theorem dX11_readsFrost_108 : decode cX11_readsFrost 108 = .ok (.bipush 6, 2) := by decide +kernel
theorem dX11_readsFrost_110 : decode cX11_readsFrost 110 = .ok (.dup2, 1) := by decide +kernel
theorem dX11_readsFrost_111 : decode cX11_readsFrost 111 = .ok (.iaload, 1) := by decide +kernel
theorem dX11_readsFrost_112 : decode cX11_readsFrost 112 = .ok (.iconst 1, 1) := by decide +kernel
theorem dX11_readsFrost_113 : decode cX11_readsFrost 113 = .ok (.iadd, 1) := by decide +kernel
theorem dX11_readsFrost_114 : decode cX11_readsFrost 114 = .ok (.iastore, 1) := by decide +kernel
theorem dX11_readsFrost_115 : decode cX11_readsFrost 115 = .ok (.aload_n 0, 1) := by decide +kernel
theorem dX11_readsFrost_116 : decode cX11_readsFrost 116 = .ok (.invokevirtual 224, 3) := by decide +kernel
theorem dX11_readsFrost_119 : decode cX11_readsFrost 119 = .ok (.goto (-99), 3) := by decide +kernel
theorem dX11_readsFrost_122 : decode cX11_readsFrost 122 = .ok (.aload_n 0, 1) := by decide +kernel
theorem dX11_readsFrost_123 : decode cX11_readsFrost 123 = .ok (.invokevirtual 305, 3) := by decide +kernel
theorem dX11_readsFrost_126 : decode cX11_readsFrost 126 = .ok (.ireturn, 1) := by decide +kernel
theorem dX11_readsRoof_0 : decode cX11_readsRoof 0 = .ok (.aload_n 0, 1) := by decide +kernel
theorem dX11_readsRoof_1 : decode cX11_readsRoof 1 = .ok (.getfield 311, 3) := by decide +kernel
theorem dX11_readsRoof_4 : decode cX11_readsRoof 4 = .ok (.ifCond .eq 9, 3) := by decide +kernel
theorem dX11_readsRoof_7 : decode cX11_readsRoof 7 = .ok (.aload_n 0, 1) := by decide +kernel
theorem dX11_readsRoof_8 : decode cX11_readsRoof 8 = .ok (.iconst 3, 1) := by decide +kernel
theorem dX11_readsRoof_9 : decode cX11_readsRoof 9 = .ok (.invokevirtual 217, 3) := by decide +kernel
theorem dX11_readsRoof_12 : decode cX11_readsRoof 12 = .ok (.ireturn, 1) := by decide +kernel
theorem dX11_readsRoof_13 : decode cX11_readsRoof 13 = .ok (.aload_n 0, 1) := by decide +kernel
theorem dX11_readsRoof_14 : decode cX11_readsRoof 14 = .ok (.iconst 1, 1) := by decide +kernel
theorem dX11_readsRoof_15 : decode cX11_readsRoof 15 = .ok (.putfield 311, 3) := by decide +kernel
theorem dX11_readsRoof_18 : decode cX11_readsRoof 18 = .ok (.aload_n 0, 1) := by decide +kernel
theorem dX11_readsRoof_19 : decode cX11_readsRoof 19 = .ok (.invokevirtual 224, 3) := by decide +kernel
theorem dX11_readsRoof_22 : decode cX11_readsRoof 22 = .ok (.aload_n 0, 1) := by decide +kernel
theorem dX11_readsRoof_23 : decode cX11_readsRoof 23 = .ok (.iconst 5, 1) := by decide +kernel
theorem dX11_readsRoof_24 : decode cX11_readsRoof 24 = .ok (.bipush 60, 2) := by decide +kernel
theorem dX11_readsRoof_26 : decode cX11_readsRoof 26 = .ok (.invokevirtual 281, 3) := by decide +kernel
theorem dX11_readsRoof_29 : decode cX11_readsRoof 29 = .ok (.ifCond .ne 5, 3) := by decide +kernel
theorem dX11_readsRoof_32 : decode cX11_readsRoof 32 = .ok (.iconst 0, 1) := by decide +kernel
theorem dX11_readsRoof_33 : decode cX11_readsRoof 33 = .ok (.ireturn, 1) := by decide +kernel
theorem dX11_readsRoof_34 : decode cX11_readsRoof 34 = .ok (.aload_n 0, 1) := by decide +kernel
theorem dX11_readsRoof_35 : decode cX11_readsRoof 35 = .ok (.getfield 13, 3) := by decide +kernel
theorem dX11_readsRoof_38 : decode cX11_readsRoof 38 = .ok (.bipush 7, 2) := by decide +kernel
theorem dX11_readsRoof_40 : decode cX11_readsRoof 40 = .ok (.aload_n 0, 1) := by decide +kernel
theorem dX11_readsRoof_41 : decode cX11_readsRoof 41 = .ok (.getfield 278, 3) := by decide +kernel
theorem dX11_readsRoof_44 : decode cX11_readsRoof 44 = .ok (.iastore, 1) := by decide +kernel
theorem dX11_readsRoof_45 : decode cX11_readsRoof 45 = .ok (.aload_n 0, 1) := by decide +kernel
theorem dX11_readsRoof_46 : decode cX11_readsRoof 46 = .ok (.invokevirtual 305, 3) := by decide +kernel
theorem dX11_readsRoof_49 : decode cX11_readsRoof 49 = .ok (.ireturn, 1) := by decide +kernel
theorem dX11_readsGrows_0 : decode cX11_readsGrows 0 = .ok (.aload_n 0, 1) := by decide +kernel
theorem dX11_readsGrows_1 : decode cX11_readsGrows 1 = .ok (.getfield 47, 3) := by decide +kernel
theorem dX11_readsGrows_4 : decode cX11_readsGrows 4 = .ok (.iconst 1, 1) := by decide +kernel
theorem dX11_readsGrows_5 : decode cX11_readsGrows 5 = .ok (.iaload, 1) := by decide +kernel
theorem dX11_readsGrows_6 : decode cX11_readsGrows 6 = .ok (.aload_n 0, 1) := by decide +kernel
theorem dX11_readsGrows_7 : decode cX11_readsGrows 7 = .ok (.getfield 44, 3) := by decide +kernel
theorem dX11_readsGrows_10 : decode cX11_readsGrows 10 = .ok (.iconst 1, 1) := by decide +kernel
theorem dX11_readsGrows_11 : decode cX11_readsGrows 11 = .ok (.iaload, 1) := by decide +kernel
theorem dX11_readsGrows_12 : decode cX11_readsGrows 12 = .ok (.if_icmp .le 9, 3) := by decide +kernel
theorem dX11_readsGrows_15 : decode cX11_readsGrows 15 = .ok (.aload_n 0, 1) := by decide +kernel
theorem dX11_readsGrows_16 : decode cX11_readsGrows 16 = .ok (.iconst 3, 1) := by decide +kernel
theorem dX11_readsGrows_17 : decode cX11_readsGrows 17 = .ok (.invokevirtual 217, 3) := by decide +kernel
theorem dX11_readsGrows_20 : decode cX11_readsGrows 20 = .ok (.ireturn, 1) := by decide +kernel
theorem dX11_readsGrows_21 : decode cX11_readsGrows 21 = .ok (.aload_n 0, 1) := by decide +kernel
theorem dX11_readsGrows_22 : decode cX11_readsGrows 22 = .ok (.invokevirtual 224, 3) := by decide +kernel
theorem dX11_readsGrows_25 : decode cX11_readsGrows 25 = .ok (.aload_n 0, 1) := by decide +kernel
theorem dX11_readsGrows_26 : decode cX11_readsGrows 26 = .ok (.getfield 44, 3) := by decide +kernel
theorem dX11_readsGrows_29 : decode cX11_readsGrows 29 = .ok (.iconst 1, 1) := by decide +kernel
theorem dX11_readsGrows_30 : decode cX11_readsGrows 30 = .ok (.aload_n 0, 1) := by decide +kernel
theorem dX11_readsGrows_31 : decode cX11_readsGrows 31 = .ok (.getfield 192, 3) := by decide +kernel
theorem dX11_readsGrows_34 : decode cX11_readsGrows 34 = .ok (.iastore, 1) := by decide +kernel
theorem dX11_readsGrows_35 : decode cX11_readsGrows 35 = .ok (.aload_n 0, 1) := by decide +kernel
theorem dX11_readsGrows_36 : decode cX11_readsGrows 36 = .ok (.invokevirtual 315, 3) := by decide +kernel
theorem dX11_readsGrows_39 : decode cX11_readsGrows 39 = .ok (.ifCond .ne 5, 3) := by decide +kernel
theorem dX11_readsGrows_42 : decode cX11_readsGrows 42 = .ok (.iconst 0, 1) := by decide +kernel
theorem dX11_readsGrows_43 : decode cX11_readsGrows 43 = .ok (.ireturn, 1) := by decide +kernel
theorem dX11_readsGrows_44 : decode cX11_readsGrows 44 = .ok (.aload_n 0, 1) := by decide +kernel
theorem dX11_readsGrows_45 : decode cX11_readsGrows 45 = .ok (.getfield 47, 3) := by decide +kernel
theorem dX11_readsGrows_48 : decode cX11_readsGrows 48 = .ok (.iconst 1, 1) := by decide +kernel
theorem dX11_readsGrows_49 : decode cX11_readsGrows 49 = .ok (.aload_n 0, 1) := by decide +kernel
theorem dX11_readsGrows_50 : decode cX11_readsGrows 50 = .ok (.getfield 192, 3) := by decide +kernel
theorem dX11_readsGrows_53 : decode cX11_readsGrows 53 = .ok (.iastore, 1) := by decide +kernel
theorem dX11_readsGrows_54 : decode cX11_readsGrows 54 = .ok (.iconst 1, 1) := by decide +kernel
theorem dX11_readsGrows_55 : decode cX11_readsGrows 55 = .ok (.ireturn, 1) := by decide +kernel
theorem dX11_begins_0 : decode cX11_begins 0 = .ok (.aload_n 0, 1) := by decide +kernel
theorem dX11_begins_1 : decode cX11_begins 1 = .ok (.aload_n 0, 1) := by decide +kernel
theorem dX11_begins_2 : decode cX11_begins 2 = .ok (.getfield 159, 3) := by decide +kernel
theorem dX11_begins_5 : decode cX11_begins 5 = .ok (.putfield 162, 3) := by decide +kernel
theorem dX11_begins_8 : decode cX11_begins 8 = .ok (.aload_n 0, 1) := by decide +kernel
theorem dX11_begins_9 : decode cX11_begins 9 = .ok (.iconst 0, 1) := by decide +kernel
theorem dX11_begins_10 : decode cX11_begins 10 = .ok (.putfield 159, 3) := by decide +kernel
theorem dX11_begins_13 : decode cX11_begins 13 = .ok (.aload_n 0, 1) := by decide +kernel
theorem dX11_begins_14 : decode cX11_begins 14 = .ok (.iconst 0, 1) := by decide +kernel
theorem dX11_begins_15 : decode cX11_begins 15 = .ok (.putfield 165, 3) := by decide +kernel
theorem dX11_begins_18 : decode cX11_begins 18 = .ok (.aload_n 0, 1) := by decide +kernel
theorem dX11_begins_19 : decode cX11_begins 19 = .ok (.invokevirtual 224, 3) := by decide +kernel
theorem dX11_begins_22 : decode cX11_begins 22 = .ok (.return_, 1) := by decide +kernel
theorem dX11_readsAll_0 : decode cX11_readsAll 0 = .ok (.iconst 0, 1) := by decide +kernel
theorem dX11_readsAll_1 : decode cX11_readsAll 1 = .ok (.istore_n 1, 1) := by decide +kernel
theorem dX11_readsAll_2 : decode cX11_readsAll 2 = .ok (.iload_n 1, 1) := by decide +kernel
theorem dX11_readsAll_3 : decode cX11_readsAll 3 = .ok (.iconst 4, 1) := by decide +kernel
theorem dX11_readsAll_4 : decode cX11_readsAll 4 = .ok (.if_icmp .ge 28, 3) := by decide +kernel
theorem dX11_readsAll_7 : decode cX11_readsAll 7 = .ok (.aload_n 0, 1) := by decide +kernel
theorem dX11_readsAll_8 : decode cX11_readsAll 8 = .ok (.getfield 13, 3) := by decide +kernel
theorem dX11_readsAll_11 : decode cX11_readsAll 11 = .ok (.iconst 4, 1) := by decide +kernel
theorem dX11_readsAll_12 : decode cX11_readsAll 12 = .ok (.iload_n 1, 1) := by decide +kernel
theorem dX11_readsAll_13 : decode cX11_readsAll 13 = .ok (.iadd, 1) := by decide +kernel
theorem dX11_readsAll_14 : decode cX11_readsAll 14 = .ok (.iload_n 1, 1) := by decide +kernel
theorem dX11_readsAll_15 : decode cX11_readsAll 15 = .ok (.iconst 3, 1) := by decide +kernel
theorem dX11_readsAll_16 : decode cX11_readsAll 16 = .ok (.if_icmp .ne 8, 3) := by decide +kernel
theorem dX11_readsAll_19 : decode cX11_readsAll 19 = .ok (.bipush 30, 2) := by decide +kernel
theorem dX11_readsAll_21 : decode cX11_readsAll 21 = .ok (.goto 4, 3) := by decide +kernel
theorem dX11_readsAll_24 : decode cX11_readsAll 24 = .ok (.iconst 0, 1) := by decide +kernel
theorem dX11_readsAll_25 : decode cX11_readsAll 25 = .ok (.iastore, 1) := by decide +kernel
theorem dX11_readsAll_26 : decode cX11_readsAll 26 = .ok (.iinc 1 1, 3) := by decide +kernel
theorem dX11_readsAll_29 : decode cX11_readsAll 29 = .ok (.goto (-27), 3) := by decide +kernel
theorem dX11_readsAll_32 : decode cX11_readsAll 32 = .ok (.aload_n 0, 1) := by decide +kernel
theorem dX11_readsAll_33 : decode cX11_readsAll 33 = .ok (.iconst 0, 1) := by decide +kernel
theorem dX11_readsAll_34 : decode cX11_readsAll 34 = .ok (.putfield 311, 3) := by decide +kernel
theorem dX11_readsAll_37 : decode cX11_readsAll 37 = .ok (.aload_n 0, 1) := by decide +kernel
theorem dX11_readsAll_38 : decode cX11_readsAll 38 = .ok (.getfield 44, 3) := by decide +kernel
theorem dX11_readsAll_41 : decode cX11_readsAll 41 = .ok (.iconst 1, 1) := by decide +kernel
theorem dX11_readsAll_42 : decode cX11_readsAll 42 = .ok (.sipush 1000, 3) := by decide +kernel
theorem dX11_readsAll_45 : decode cX11_readsAll 45 = .ok (.iastore, 1) := by decide +kernel
theorem dX11_readsAll_46 : decode cX11_readsAll 46 = .ok (.aload_n 0, 1) := by decide +kernel
theorem dX11_readsAll_47 : decode cX11_readsAll 47 = .ok (.getfield 47, 3) := by decide +kernel
theorem dX11_readsAll_50 : decode cX11_readsAll 50 = .ok (.iconst 1, 1) := by decide +kernel
theorem dX11_readsAll_51 : decode cX11_readsAll 51 = .ok (.sipush 1000, 3) := by decide +kernel
theorem dX11_readsAll_54 : decode cX11_readsAll 54 = .ok (.iastore, 1) := by decide +kernel
theorem dX11_readsAll_55 : decode cX11_readsAll 55 = .ok (.aload_n 0, 1) := by decide +kernel
theorem dX11_readsAll_56 : decode cX11_readsAll 56 = .ok (.sipush 1000, 3) := by decide +kernel
theorem dX11_readsAll_59 : decode cX11_readsAll 59 = .ok (.putfield 192, 3) := by decide +kernel
theorem dX11_readsAll_62 : decode cX11_readsAll 62 = .ok (.aload_n 0, 1) := by decide +kernel
theorem dX11_readsAll_63 : decode cX11_readsAll 63 = .ok (.invokevirtual 318, 3) := by decide +kernel
theorem dX11_readsAll_66 : decode cX11_readsAll 66 = .ok (.aload_n 0, 1) := by decide +kernel
theorem dX11_readsAll_67 : decode cX11_readsAll 67 = .ok (.getfield 178, 3) := by decide +kernel
theorem dX11_readsAll_70 : decode cX11_readsAll 70 = .ok (.ifCond .eq 120, 3) := by decide +kernel
theorem dX11_readsAll_73 : decode cX11_readsAll 73 = .ok (.aload_n 0, 1) := by decide +kernel
theorem dX11_readsAll_74 : decode cX11_readsAll 74 = .ok (.ldc2_w 240, 3) := by decide +kernel
theorem dX11_readsAll_77 : decode cX11_readsAll 77 = .ok (.invokevirtual 209, 3) := by decide +kernel
theorem dX11_readsAll_80 : decode cX11_readsAll 80 = .ok (.ifCond .eq 10, 3) := by decide +kernel
theorem dX11_readsAll_83 : decode cX11_readsAll 83 = .ok (.aload_n 0, 1) := by decide +kernel
theorem dX11_readsAll_84 : decode cX11_readsAll 84 = .ok (.invokevirtual 321, 3) := by decide +kernel
theorem dX11_readsAll_87 : decode cX11_readsAll 87 = .ok (.goto 93, 3) := by decide +kernel
theorem dX11_readsAll_90 : decode cX11_readsAll 90 = .ok (.aload_n 0, 1) := by decide +kernel
theorem dX11_readsAll_91 : decode cX11_readsAll 91 = .ok (.ldc2_w 246, 3) := by decide +kernel
theorem dX11_readsAll_94 : decode cX11_readsAll 94 = .ok (.invokevirtual 209, 3) := by decide +kernel
theorem dX11_readsAll_97 : decode cX11_readsAll 97 = .ok (.ifCond .eq 10, 3) := by decide +kernel
theorem dX11_readsAll_100 : decode cX11_readsAll 100 = .ok (.aload_n 0, 1) := by decide +kernel
theorem dX11_readsAll_101 : decode cX11_readsAll 101 = .ok (.invokevirtual 324, 3) := by decide +kernel
theorem dX11_readsAll_104 : decode cX11_readsAll 104 = .ok (.goto 76, 3) := by decide +kernel
theorem dX11_readsAll_107 : decode cX11_readsAll 107 = .ok (.aload_n 0, 1) := by decide +kernel
theorem dX11_readsAll_108 : decode cX11_readsAll 108 = .ok (.ldc2_w 248, 3) := by decide +kernel
theorem dX11_readsAll_111 : decode cX11_readsAll 111 = .ok (.invokevirtual 209, 3) := by decide +kernel
theorem dX11_readsAll_114 : decode cX11_readsAll 114 = .ok (.ifCond .eq 10, 3) := by decide +kernel
theorem dX11_readsAll_117 : decode cX11_readsAll 117 = .ok (.aload_n 0, 1) := by decide +kernel
theorem dX11_readsAll_118 : decode cX11_readsAll 118 = .ok (.invokevirtual 327, 3) := by decide +kernel
theorem dX11_readsAll_121 : decode cX11_readsAll 121 = .ok (.goto 59, 3) := by decide +kernel
theorem dX11_readsAll_124 : decode cX11_readsAll 124 = .ok (.aload_n 0, 1) := by decide +kernel
theorem dX11_readsAll_125 : decode cX11_readsAll 125 = .ok (.ldc2_w 254, 3) := by decide +kernel
theorem dX11_readsAll_128 : decode cX11_readsAll 128 = .ok (.invokevirtual 209, 3) := by decide +kernel
theorem dX11_readsAll_131 : decode cX11_readsAll 131 = .ok (.ifCond .eq 10, 3) := by decide +kernel
theorem dX11_readsAll_134 : decode cX11_readsAll 134 = .ok (.aload_n 0, 1) := by decide +kernel
theorem dX11_readsAll_135 : decode cX11_readsAll 135 = .ok (.invokevirtual 330, 3) := by decide +kernel
theorem dX11_readsAll_138 : decode cX11_readsAll 138 = .ok (.goto 42, 3) := by decide +kernel
theorem dX11_readsAll_141 : decode cX11_readsAll 141 = .ok (.aload_n 0, 1) := by decide +kernel
theorem dX11_readsAll_142 : decode cX11_readsAll 142 = .ok (.ldc2_w 256, 3) := by decide +kernel
theorem dX11_readsAll_145 : decode cX11_readsAll 145 = .ok (.invokevirtual 209, 3) := by decide +kernel
theorem dX11_readsAll_148 : decode cX11_readsAll 148 = .ok (.ifCond .eq 10, 3) := by decide +kernel
theorem dX11_readsAll_151 : decode cX11_readsAll 151 = .ok (.aload_n 0, 1) := by decide +kernel
theorem dX11_readsAll_152 : decode cX11_readsAll 152 = .ok (.invokevirtual 333, 3) := by decide +kernel
theorem dX11_readsAll_155 : decode cX11_readsAll 155 = .ok (.goto 25, 3) := by decide +kernel
theorem dX11_readsAll_158 : decode cX11_readsAll 158 = .ok (.aload_n 0, 1) := by decide +kernel
theorem dX11_readsAll_159 : decode cX11_readsAll 159 = .ok (.ldc2_w 258, 3) := by decide +kernel
theorem dX11_readsAll_162 : decode cX11_readsAll 162 = .ok (.invokevirtual 209, 3) := by decide +kernel
theorem dX11_readsAll_165 : decode cX11_readsAll 165 = .ok (.ifCond .eq 10, 3) := by decide +kernel
theorem dX11_readsAll_168 : decode cX11_readsAll 168 = .ok (.aload_n 0, 1) := by decide +kernel
theorem dX11_readsAll_169 : decode cX11_readsAll 169 = .ok (.invokevirtual 336, 3) := by decide +kernel
theorem dX11_readsAll_172 : decode cX11_readsAll 172 = .ok (.goto 8, 3) := by decide +kernel
theorem dX11_readsAll_175 : decode cX11_readsAll 175 = .ok (.aload_n 0, 1) := by decide +kernel
theorem dX11_readsAll_176 : decode cX11_readsAll 176 = .ok (.iconst 1, 1) := by decide +kernel
theorem dX11_readsAll_177 : decode cX11_readsAll 177 = .ok (.invokevirtual 217, 3) := by decide +kernel
theorem dX11_readsAll_180 : decode cX11_readsAll 180 = .ok (.istore_n 1, 1) := by decide +kernel
theorem dX11_readsAll_181 : decode cX11_readsAll 181 = .ok (.iload_n 1, 1) := by decide +kernel
theorem dX11_readsAll_182 : decode cX11_readsAll 182 = .ok (.ifCond .ne 5, 3) := by decide +kernel
theorem dX11_readsAll_185 : decode cX11_readsAll 185 = .ok (.iconst 0, 1) := by decide +kernel
theorem dX11_readsAll_186 : decode cX11_readsAll 186 = .ok (.ireturn, 1) := by decide +kernel
theorem dX11_readsAll_187 : decode cX11_readsAll 187 = .ok (.goto (-121), 3) := by decide +kernel
theorem dX11_readsAll_190 : decode cX11_readsAll 190 = .ok (.iconst 1, 1) := by decide +kernel
theorem dX11_readsAll_191 : decode cX11_readsAll 191 = .ok (.ireturn, 1) := by decide +kernel
theorem dX11_shifts_0 : decode cX11_shifts 0 = .ok (.iconst 0, 1) := by decide +kernel
theorem dX11_shifts_1 : decode cX11_shifts 1 = .ok (.istore_n 2, 1) := by decide +kernel
theorem dX11_shifts_2 : decode cX11_shifts 2 = .ok (.iload_n 2, 1) := by decide +kernel
theorem dX11_shifts_3 : decode cX11_shifts 3 = .ok (.iload_n 1, 1) := by decide +kernel
theorem dX11_shifts_4 : decode cX11_shifts 4 = .ok (.if_icmp .ge 17, 3) := by decide +kernel
theorem dX11_shifts_7 : decode cX11_shifts 7 = .ok (.aload_n 0, 1) := by decide +kernel
theorem dX11_shifts_8 : decode cX11_shifts 8 = .ok (.iload_n 2, 1) := by decide +kernel
theorem dX11_shifts_9 : decode cX11_shifts 9 = .ok (.aload_n 0, 1) := by decide +kernel
theorem dX11_shifts_10 : decode cX11_shifts 10 = .ok (.iload_n 1, 1) := by decide +kernel
theorem dX11_shifts_11 : decode cX11_shifts 11 = .ok (.iload_n 2, 1) := by decide +kernel
theorem dX11_shifts_12 : decode cX11_shifts 12 = .ok (.iadd, 1) := by decide +kernel
theorem dX11_shifts_13 : decode cX11_shifts 13 = .ok (.iaload, 1) := by decide +kernel
theorem dX11_shifts_14 : decode cX11_shifts 14 = .ok (.iastore, 1) := by decide +kernel
theorem dX11_shifts_15 : decode cX11_shifts 15 = .ok (.iinc 2 1, 3) := by decide +kernel
theorem dX11_shifts_18 : decode cX11_shifts 18 = .ok (.goto (-16), 3) := by decide +kernel
theorem dX11_shifts_21 : decode cX11_shifts 21 = .ok (.return_, 1) := by decide +kernel
theorem dX11_shiftsNames_0 : decode cX11_shiftsNames 0 = .ok (.iconst 0, 1) := by decide +kernel
theorem dX11_shiftsNames_1 : decode cX11_shiftsNames 1 = .ok (.istore_n 2, 1) := by decide +kernel
theorem dX11_shiftsNames_2 : decode cX11_shiftsNames 2 = .ok (.iload_n 2, 1) := by decide +kernel
theorem dX11_shiftsNames_3 : decode cX11_shiftsNames 3 = .ok (.iload_n 1, 1) := by decide +kernel
theorem dX11_shiftsNames_4 : decode cX11_shiftsNames 4 = .ok (.if_icmp .ge 17, 3) := by decide +kernel
theorem dX11_shiftsNames_7 : decode cX11_shiftsNames 7 = .ok (.aload_n 0, 1) := by decide +kernel
theorem dX11_shiftsNames_8 : decode cX11_shiftsNames 8 = .ok (.iload_n 2, 1) := by decide +kernel
theorem dX11_shiftsNames_9 : decode cX11_shiftsNames 9 = .ok (.aload_n 0, 1) := by decide +kernel
theorem dX11_shiftsNames_10 : decode cX11_shiftsNames 10 = .ok (.iload_n 1, 1) := by decide +kernel
theorem dX11_shiftsNames_11 : decode cX11_shiftsNames 11 = .ok (.iload_n 2, 1) := by decide +kernel
theorem dX11_shiftsNames_12 : decode cX11_shiftsNames 12 = .ok (.iadd, 1) := by decide +kernel
theorem dX11_shiftsNames_13 : decode cX11_shiftsNames 13 = .ok (.laload, 1) := by decide +kernel
theorem dX11_shiftsNames_14 : decode cX11_shiftsNames 14 = .ok (.lastore, 1) := by decide +kernel
theorem dX11_shiftsNames_15 : decode cX11_shiftsNames 15 = .ok (.iinc 2 1, 3) := by decide +kernel
theorem dX11_shiftsNames_18 : decode cX11_shiftsNames 18 = .ok (.goto (-16), 3) := by decide +kernel
theorem dX11_shiftsNames_21 : decode cX11_shiftsNames 21 = .ok (.return_, 1) := by decide +kernel
theorem dX11_lays_0 : decode cX11_lays 0 = .ok (.aload_n 0, 1) := by decide +kernel
theorem dX11_lays_1 : decode cX11_lays 1 = .ok (.getfield 13, 3) := by decide +kernel
theorem dX11_lays_4 : decode cX11_lays 4 = .ok (.iconst 4, 1) := by decide +kernel
theorem dX11_lays_5 : decode cX11_lays 5 = .ok (.invokestatic 339, 3) := by decide +kernel
theorem dX11_lays_8 : decode cX11_lays 8 = .ok (.aload_n 0, 1) := by decide +kernel
theorem dX11_lays_9 : decode cX11_lays 9 = .ok (.getfield 16, 3) := by decide +kernel
theorem dX11_lays_12 : decode cX11_lays 12 = .ok (.bipush 6, 2) := by decide +kernel
theorem dX11_lays_14 : decode cX11_lays 14 = .ok (.invokestatic 343, 3) := by decide +kernel
theorem dX11_lays_17 : decode cX11_lays 17 = .ok (.aload_n 0, 1) := by decide +kernel
theorem dX11_lays_18 : decode cX11_lays 18 = .ok (.getfield 20, 3) := by decide +kernel
theorem dX11_lays_21 : decode cX11_lays 21 = .ok (.iconst 5, 1) := by decide +kernel
theorem dX11_lays_22 : decode cX11_lays 22 = .ok (.invokestatic 343, 3) := by decide +kernel
theorem dX11_lays_25 : decode cX11_lays 25 = .ok (.aload_n 0, 1) := by decide +kernel
theorem dX11_lays_26 : decode cX11_lays 26 = .ok (.getfield 23, 3) := by decide +kernel
theorem dX11_lays_29 : decode cX11_lays 29 = .ok (.bipush 6, 2) := by decide +kernel
theorem dX11_lays_31 : decode cX11_lays 31 = .ok (.invokestatic 339, 3) := by decide +kernel
theorem dX11_lays_34 : decode cX11_lays 34 = .ok (.aload_n 0, 1) := by decide +kernel
theorem dX11_lays_35 : decode cX11_lays 35 = .ok (.getfield 26, 3) := by decide +kernel
theorem dX11_lays_38 : decode cX11_lays 38 = .ok (.bipush 6, 2) := by decide +kernel
theorem dX11_lays_40 : decode cX11_lays 40 = .ok (.invokestatic 339, 3) := by decide +kernel
theorem dX11_lays_43 : decode cX11_lays 43 = .ok (.aload_n 0, 1) := by decide +kernel
theorem dX11_lays_44 : decode cX11_lays 44 = .ok (.getfield 29, 3) := by decide +kernel
theorem dX11_lays_47 : decode cX11_lays 47 = .ok (.bipush 6, 2) := by decide +kernel
theorem dX11_lays_49 : decode cX11_lays 49 = .ok (.invokestatic 339, 3) := by decide +kernel
theorem dX11_lays_52 : decode cX11_lays 52 = .ok (.aload_n 0, 1) := by decide +kernel
theorem dX11_lays_53 : decode cX11_lays 53 = .ok (.getfield 32, 3) := by decide +kernel
theorem dX11_lays_56 : decode cX11_lays 56 = .ok (.bipush 6, 2) := by decide +kernel
theorem dX11_lays_58 : decode cX11_lays 58 = .ok (.invokestatic 339, 3) := by decide +kernel
theorem dX11_lays_61 : decode cX11_lays 61 = .ok (.aload_n 0, 1) := by decide +kernel
theorem dX11_lays_62 : decode cX11_lays 62 = .ok (.getfield 35, 3) := by decide +kernel
theorem dX11_lays_65 : decode cX11_lays 65 = .ok (.iconst 5, 1) := by decide +kernel
theorem dX11_lays_66 : decode cX11_lays 66 = .ok (.invokestatic 339, 3) := by decide +kernel
theorem dX11_lays_69 : decode cX11_lays 69 = .ok (.aload_n 0, 1) := by decide +kernel
theorem dX11_lays_70 : decode cX11_lays 70 = .ok (.getfield 38, 3) := by decide +kernel
theorem dX11_lays_73 : decode cX11_lays 73 = .ok (.iconst 5, 1) := by decide +kernel
theorem dX11_lays_74 : decode cX11_lays 74 = .ok (.invokestatic 339, 3) := by decide +kernel
theorem dX11_lays_77 : decode cX11_lays 77 = .ok (.aload_n 0, 1) := by decide +kernel
theorem dX11_lays_78 : decode cX11_lays 78 = .ok (.getfield 41, 3) := by decide +kernel
theorem dX11_lays_81 : decode cX11_lays 81 = .ok (.bipush 12, 2) := by decide +kernel
theorem dX11_lays_83 : decode cX11_lays 83 = .ok (.invokestatic 339, 3) := by decide +kernel
theorem dX11_lays_86 : decode cX11_lays 86 = .ok (.aload_n 0, 1) := by decide +kernel
theorem dX11_lays_87 : decode cX11_lays 87 = .ok (.getfield 50, 3) := by decide +kernel
theorem dX11_lays_90 : decode cX11_lays 90 = .ok (.sipush 1000, 3) := by decide +kernel
theorem dX11_lays_93 : decode cX11_lays 93 = .ok (.invokestatic 339, 3) := by decide +kernel
theorem dX11_lays_96 : decode cX11_lays 96 = .ok (.aload_n 0, 1) := by decide +kernel
theorem dX11_lays_97 : decode cX11_lays 97 = .ok (.getfield 44, 3) := by decide +kernel
theorem dX11_lays_100 : decode cX11_lays 100 = .ok (.iconst 0, 1) := by decide +kernel
theorem dX11_lays_101 : decode cX11_lays 101 = .ok (.aload_n 0, 1) := by decide +kernel
theorem dX11_lays_102 : decode cX11_lays 102 = .ok (.getfield 44, 3) := by decide +kernel
theorem dX11_lays_105 : decode cX11_lays 105 = .ok (.iconst 1, 1) := by decide +kernel
theorem dX11_lays_106 : decode cX11_lays 106 = .ok (.iaload, 1) := by decide +kernel
theorem dX11_lays_107 : decode cX11_lays 107 = .ok (.sipush 1000, 3) := by decide +kernel
theorem dX11_lays_110 : decode cX11_lays 110 = .ok (.isub, 1) := by decide +kernel
theorem dX11_lays_111 : decode cX11_lays 111 = .ok (.iastore, 1) := by decide +kernel
theorem dX11_lays_112 : decode cX11_lays 112 = .ok (.aload_n 0, 1) := by decide +kernel
theorem dX11_lays_113 : decode cX11_lays 113 = .ok (.getfield 47, 3) := by decide +kernel
theorem dX11_lays_116 : decode cX11_lays 116 = .ok (.iconst 0, 1) := by decide +kernel
theorem dX11_lays_117 : decode cX11_lays 117 = .ok (.aload_n 0, 1) := by decide +kernel
theorem dX11_lays_118 : decode cX11_lays 118 = .ok (.getfield 47, 3) := by decide +kernel
theorem dX11_lays_121 : decode cX11_lays 121 = .ok (.iconst 1, 1) := by decide +kernel
theorem dX11_lays_122 : decode cX11_lays 122 = .ok (.iaload, 1) := by decide +kernel
theorem dX11_lays_123 : decode cX11_lays 123 = .ok (.sipush 1000, 3) := by decide +kernel
theorem dX11_lays_126 : decode cX11_lays 126 = .ok (.isub, 1) := by decide +kernel
theorem dX11_lays_127 : decode cX11_lays 127 = .ok (.iastore, 1) := by decide +kernel
theorem dX11_lays_128 : decode cX11_lays 128 = .ok (.return_, 1) := by decide +kernel
theorem dX11_copies_0 : decode cX11_copies 0 = .ok (.iconst 0, 1) := by decide +kernel
theorem dX11_copies_1 : decode cX11_copies 1 = .ok (.istore 4, 2) := by decide +kernel
theorem dX11_copies_3 : decode cX11_copies 3 = .ok (.iload 4, 2) := by decide +kernel
theorem dX11_copies_5 : decode cX11_copies 5 = .ok (.bipush 26, 2) := by decide +kernel
theorem dX11_copies_7 : decode cX11_copies 7 = .ok (.if_icmp .ge 21, 3) := by decide +kernel
theorem dX11_copies_10 : decode cX11_copies 10 = .ok (.aload_n 2, 1) := by decide +kernel
theorem dX11_copies_11 : decode cX11_copies 11 = .ok (.iload_n 3, 1) := by decide +kernel
theorem dX11_copies_12 : decode cX11_copies 12 = .ok (.iload 4, 2) := by decide +kernel
theorem dX11_copies_14 : decode cX11_copies 14 = .ok (.iadd, 1) := by decide +kernel
theorem dX11_copies_15 : decode cX11_copies 15 = .ok (.aload_n 0, 1) := by decide +kernel
theorem dX11_copies_16 : decode cX11_copies 16 = .ok (.iload_n 1, 1) := by decide +kernel
theorem dX11_copies_17 : decode cX11_copies 17 = .ok (.iload 4, 2) := by decide +kernel
theorem dX11_copies_19 : decode cX11_copies 19 = .ok (.iadd, 1) := by decide +kernel
theorem dX11_copies_20 : decode cX11_copies 20 = .ok (.iaload, 1) := by decide +kernel
theorem dX11_copies_21 : decode cX11_copies 21 = .ok (.iastore, 1) := by decide +kernel
theorem dX11_copies_22 : decode cX11_copies 22 = .ok (.iinc 4 1, 3) := by decide +kernel
theorem dX11_copies_25 : decode cX11_copies 25 = .ok (.goto (-22), 3) := by decide +kernel
theorem dX11_copies_28 : decode cX11_copies 28 = .ok (.return_, 1) := by decide +kernel
theorem dX11_readsLine_0 : decode cX11_readsLine 0 = .ok (.aload_n 0, 1) := by decide +kernel
theorem dX11_readsLine_1 : decode cX11_readsLine 1 = .ok (.ldc2_w 260, 3) := by decide +kernel
theorem dX11_readsLine_4 : decode cX11_readsLine 4 = .ok (.invokevirtual 209, 3) := by decide +kernel
theorem dX11_readsLine_7 : decode cX11_readsLine 7 = .ok (.ifCond .eq 7, 3) := by decide +kernel
theorem dX11_readsLine_10 : decode cX11_readsLine 10 = .ok (.iconst 0, 1) := by decide +kernel
theorem dX11_readsLine_11 : decode cX11_readsLine 11 = .ok (.goto 46, 3) := by decide +kernel
theorem dX11_readsLine_14 : decode cX11_readsLine 14 = .ok (.aload_n 0, 1) := by decide +kernel
theorem dX11_readsLine_15 : decode cX11_readsLine 15 = .ok (.ldc2_w 242, 3) := by decide +kernel
theorem dX11_readsLine_18 : decode cX11_readsLine 18 = .ok (.invokevirtual 209, 3) := by decide +kernel
theorem dX11_readsLine_21 : decode cX11_readsLine 21 = .ok (.ifCond .eq 7, 3) := by decide +kernel
theorem dX11_readsLine_24 : decode cX11_readsLine 24 = .ok (.iconst 1, 1) := by decide +kernel
theorem dX11_readsLine_25 : decode cX11_readsLine 25 = .ok (.goto 32, 3) := by decide +kernel
theorem dX11_readsLine_28 : decode cX11_readsLine 28 = .ok (.aload_n 0, 1) := by decide +kernel
theorem dX11_readsLine_29 : decode cX11_readsLine 29 = .ok (.ldc2_w 262, 3) := by decide +kernel
theorem dX11_readsLine_32 : decode cX11_readsLine 32 = .ok (.invokevirtual 209, 3) := by decide +kernel
theorem dX11_readsLine_35 : decode cX11_readsLine 35 = .ok (.ifCond .eq 7, 3) := by decide +kernel
theorem dX11_readsLine_38 : decode cX11_readsLine 38 = .ok (.iconst 2, 1) := by decide +kernel
theorem dX11_readsLine_39 : decode cX11_readsLine 39 = .ok (.goto 18, 3) := by decide +kernel
theorem dX11_readsLine_42 : decode cX11_readsLine 42 = .ok (.aload_n 0, 1) := by decide +kernel
theorem dX11_readsLine_43 : decode cX11_readsLine 43 = .ok (.ldc2_w 264, 3) := by decide +kernel
theorem dX11_readsLine_46 : decode cX11_readsLine 46 = .ok (.invokevirtual 209, 3) := by decide +kernel
theorem dX11_readsLine_49 : decode cX11_readsLine 49 = .ok (.ifCond .eq 7, 3) := by decide +kernel
theorem dX11_readsLine_52 : decode cX11_readsLine 52 = .ok (.iconst 3, 1) := by decide +kernel
theorem dX11_readsLine_53 : decode cX11_readsLine 53 = .ok (.goto 4, 3) := by decide +kernel
theorem dX11_readsLine_56 : decode cX11_readsLine 56 = .ok (.iconst (-1), 1) := by decide +kernel
theorem dX11_readsLine_57 : decode cX11_readsLine 57 = .ok (.istore_n 1, 1) := by decide +kernel
theorem dX11_readsLine_58 : decode cX11_readsLine 58 = .ok (.iload_n 1, 1) := by decide +kernel
theorem dX11_readsLine_59 : decode cX11_readsLine 59 = .ok (.ifCond .ge 9, 3) := by decide +kernel
theorem dX11_readsLine_62 : decode cX11_readsLine 62 = .ok (.aload_n 0, 1) := by decide +kernel
theorem dX11_readsLine_63 : decode cX11_readsLine 63 = .ok (.iconst 1, 1) := by decide +kernel
theorem dX11_readsLine_64 : decode cX11_readsLine 64 = .ok (.invokevirtual 217, 3) := by decide +kernel
theorem dX11_readsLine_67 : decode cX11_readsLine 67 = .ok (.ireturn, 1) := by decide +kernel
theorem dX11_readsLine_68 : decode cX11_readsLine 68 = .ok (.aload_n 0, 1) := by decide +kernel
theorem dX11_readsLine_69 : decode cX11_readsLine 69 = .ok (.getfield 90, 3) := by decide +kernel
theorem dX11_readsLine_72 : decode cX11_readsLine 72 = .ok (.iconst 5, 1) := by decide +kernel
theorem dX11_readsLine_73 : decode cX11_readsLine 73 = .ok (.iaload, 1) := by decide +kernel
theorem dX11_readsLine_74 : decode cX11_readsLine 74 = .ok (.bipush 40, 2) := by decide +kernel
theorem dX11_readsLine_76 : decode cX11_readsLine 76 = .ok (.if_icmp .ne 9, 3) := by decide +kernel
theorem dX11_readsLine_79 : decode cX11_readsLine 79 = .ok (.aload_n 0, 1) := by decide +kernel
theorem dX11_readsLine_80 : decode cX11_readsLine 80 = .ok (.iconst 5, 1) := by decide +kernel
theorem dX11_readsLine_81 : decode cX11_readsLine 81 = .ok (.invokevirtual 217, 3) := by decide +kernel
theorem dX11_readsLine_84 : decode cX11_readsLine 84 = .ok (.ireturn, 1) := by decide +kernel
theorem dX11_readsLine_85 : decode cX11_readsLine 85 = .ok (.aload_n 0, 1) := by decide +kernel
theorem dX11_readsLine_86 : decode cX11_readsLine 86 = .ok (.invokevirtual 224, 3) := by decide +kernel
theorem dX11_readsLine_89 : decode cX11_readsLine 89 = .ok (.sipush 200, 3) := by decide +kernel
theorem dX11_readsLine_92 : decode cX11_readsLine 92 = .ok (.aload_n 0, 1) := by decide +kernel
theorem dX11_readsLine_93 : decode cX11_readsLine 93 = .ok (.getfield 90, 3) := by decide +kernel
theorem dX11_readsLine_96 : decode cX11_readsLine 96 = .ok (.iconst 5, 1) := by decide +kernel
theorem dX11_readsLine_97 : decode cX11_readsLine 97 = .ok (.iaload, 1) := by decide +kernel
theorem dX11_readsLine_98 : decode cX11_readsLine 98 = .ok (.iadd, 1) := by decide +kernel
theorem dX11_readsLine_99 : decode cX11_readsLine 99 = .ok (.istore_n 2, 1) := by decide +kernel
theorem dX11_readsLine_100 : decode cX11_readsLine 100 = .ok (.aload_n 0, 1) := by decide +kernel
theorem dX11_readsLine_101 : decode cX11_readsLine 101 = .ok (.getfield 93, 3) := by decide +kernel
theorem dX11_readsLine_104 : decode cX11_readsLine 104 = .ok (.iload_n 2, 1) := by decide +kernel
theorem dX11_readsLine_105 : decode cX11_readsLine 105 = .ok (.iload_n 1, 1) := by decide +kernel
theorem dX11_readsLine_106 : decode cX11_readsLine 106 = .ok (.iastore, 1) := by decide +kernel
theorem dX11_readsLine_107 : decode cX11_readsLine 107 = .ok (.iload_n 1, 1) := by decide +kernel
theorem dX11_readsLine_108 : decode cX11_readsLine 108 = .ok (.ifCond .eq 27, 3) := by decide +kernel
theorem dX11_readsLine_111 : decode cX11_readsLine 111 = .ok (.aload_n 0, 1) := by decide +kernel
theorem dX11_readsLine_112 : decode cX11_readsLine 112 = .ok (.iconst 0, 1) := by decide +kernel
theorem dX11_readsLine_113 : decode cX11_readsLine 113 = .ok (.invokevirtual 308, 3) := by decide +kernel
theorem dX11_readsLine_116 : decode cX11_readsLine 116 = .ok (.ifCond .ne 5, 3) := by decide +kernel
theorem dX11_readsLine_119 : decode cX11_readsLine 119 = .ok (.iconst 0, 1) := by decide +kernel
theorem dX11_readsLine_120 : decode cX11_readsLine 120 = .ok (.ireturn, 1) := by decide +kernel
theorem dX11_readsLine_121 : decode cX11_readsLine 121 = .ok (.aload_n 0, 1) := by decide +kernel
theorem dX11_readsLine_122 : decode cX11_readsLine 122 = .ok (.getfield 96, 3) := by decide +kernel
theorem dX11_readsLine_125 : decode cX11_readsLine 125 = .ok (.iload_n 2, 1) := by decide +kernel
theorem dX11_readsLine_126 : decode cX11_readsLine 126 = .ok (.aload_n 0, 1) := by decide +kernel
theorem dX11_readsLine_127 : decode cX11_readsLine 127 = .ok (.getfield 278, 3) := by decide +kernel
theorem dX11_readsLine_130 : decode cX11_readsLine 130 = .ok (.iastore, 1) := by decide +kernel
theorem dX11_readsLine_131 : decode cX11_readsLine 131 = .ok (.aload_n 0, 1) := by decide +kernel
theorem dX11_readsLine_132 : decode cX11_readsLine 132 = .ok (.invokevirtual 224, 3) := by decide +kernel
theorem dX11_readsLine_135 : decode cX11_readsLine 135 = .ok (.iload_n 1, 1) := by decide +kernel
theorem dX11_readsLine_136 : decode cX11_readsLine 136 = .ok (.iconst 1, 1) := by decide +kernel
theorem dX11_readsLine_137 : decode cX11_readsLine 137 = .ok (.if_icmp .eq 8, 3) := by decide +kernel
theorem dX11_readsLine_140 : decode cX11_readsLine 140 = .ok (.iload_n 1, 1) := by decide +kernel
theorem dX11_readsLine_141 : decode cX11_readsLine 141 = .ok (.iconst 3, 1) := by decide +kernel
theorem dX11_readsLine_142 : decode cX11_readsLine 142 = .ok (.if_icmp .ne 44, 3) := by decide +kernel
theorem dX11_readsLine_145 : decode cX11_readsLine 145 = .ok (.aload_n 0, 1) := by decide +kernel
theorem dX11_readsLine_146 : decode cX11_readsLine 146 = .ok (.iload_n 1, 1) := by decide +kernel
theorem dX11_readsLine_147 : decode cX11_readsLine 147 = .ok (.iconst 1, 1) := by decide +kernel
theorem dX11_readsLine_148 : decode cX11_readsLine 148 = .ok (.if_icmp .ne 7, 3) := by decide +kernel
theorem dX11_readsLine_151 : decode cX11_readsLine 151 = .ok (.iconst 0, 1) := by decide +kernel
theorem dX11_readsLine_152 : decode cX11_readsLine 152 = .ok (.goto 4, 3) := by decide +kernel
theorem dX11_readsLine_155 : decode cX11_readsLine 155 = .ok (.iconst 1, 1) := by decide +kernel
theorem dX11_readsLine_156 : decode cX11_readsLine 156 = .ok (.iload_n 1, 1) := by decide +kernel
theorem dX11_readsLine_157 : decode cX11_readsLine 157 = .ok (.iconst 1, 1) := by decide +kernel
theorem dX11_readsLine_158 : decode cX11_readsLine 158 = .ok (.if_icmp .ne 8, 3) := by decide +kernel
theorem dX11_readsLine_161 : decode cX11_readsLine 161 = .ok (.bipush 9, 2) := by decide +kernel
theorem dX11_readsLine_163 : decode cX11_readsLine 163 = .ok (.goto 5, 3) := by decide +kernel
theorem dX11_readsLine_166 : decode cX11_readsLine 166 = .ok (.bipush 20, 2) := by decide +kernel
theorem dX11_readsLine_168 : decode cX11_readsLine 168 = .ok (.invokevirtual 281, 3) := by decide +kernel
theorem dX11_readsLine_171 : decode cX11_readsLine 171 = .ok (.ifCond .ne 5, 3) := by decide +kernel
theorem dX11_readsLine_174 : decode cX11_readsLine 174 = .ok (.iconst 0, 1) := by decide +kernel
theorem dX11_readsLine_175 : decode cX11_readsLine 175 = .ok (.ireturn, 1) := by decide +kernel
theorem dX11_readsLine_176 : decode cX11_readsLine 176 = .ok (.aload_n 0, 1) := by decide +kernel

theorem dX8_byteAt_12 : decode cX8_byteAt 12 = .ok (.iload_n 1, 1) := by decide +kernel
theorem dX8_byteAt_13 : decode cX8_byteAt 13 = .ok (.baload, 1) := by decide +kernel
theorem dX8_byteAt_14 : decode cX8_byteAt 14 = .ok (.sipush 255, 3) := by decide +kernel
theorem dX8_byteAt_17 : decode cX8_byteAt 17 = .ok (.iand, 1) := by decide +kernel
theorem dX8_byteAt_18 : decode cX8_byteAt 18 = .ok (.goto 4, 3) := by decide +kernel
theorem dX8_byteAt_21 : decode cX8_byteAt 21 = .ok (.iconst (-1), 1) := by decide +kernel
theorem dX8_byteAt_22 : decode cX8_byteAt 22 = .ok (.ireturn, 1) := by decide +kernel
theorem dX8_go_0 : decode cX8_go 0 = .ok (.aload_n 0, 1) := by decide +kernel
theorem dX8_go_1 : decode cX8_go 1 = .ok (.aload_n 0, 1) := by decide +kernel
theorem dX8_go_2 : decode cX8_go 2 = .ok (.getfield 146, 3) := by decide +kernel
theorem dX8_go_5 : decode cX8_go 5 = .ok (.invokevirtual 149, 3) := by decide +kernel
theorem dX8_go_8 : decode cX8_go 8 = .ok (.bipush 32, 2) := by decide +kernel
theorem dX8_go_10 : decode cX8_go 10 = .ok (.if_icmp .eq 16, 3) := by decide +kernel
theorem dX8_go_13 : decode cX8_go 13 = .ok (.aload_n 0, 1) := by decide +kernel
theorem dX8_go_14 : decode cX8_go 14 = .ok (.aload_n 0, 1) := by decide +kernel
theorem dX8_go_15 : decode cX8_go 15 = .ok (.getfield 146, 3) := by decide +kernel
theorem dX8_go_18 : decode cX8_go 18 = .ok (.invokevirtual 149, 3) := by decide +kernel
theorem dX8_go_21 : decode cX8_go 21 = .ok (.bipush 10, 2) := by decide +kernel
theorem dX8_go_23 : decode cX8_go 23 = .ok (.if_icmp .ne 16, 3) := by decide +kernel
theorem dX8_go_26 : decode cX8_go 26 = .ok (.aload_n 0, 1) := by decide +kernel
theorem dX8_go_27 : decode cX8_go 27 = .ok (.dup, 1) := by decide +kernel
theorem dX8_go_28 : decode cX8_go 28 = .ok (.getfield 146, 3) := by decide +kernel
theorem dX8_go_31 : decode cX8_go 31 = .ok (.iconst 1, 1) := by decide +kernel
theorem dX8_go_32 : decode cX8_go 32 = .ok (.iadd, 1) := by decide +kernel
theorem dX8_go_33 : decode cX8_go 33 = .ok (.putfield 146, 3) := by decide +kernel
theorem dX8_go_36 : decode cX8_go 36 = .ok (.goto (-36), 3) := by decide +kernel
theorem dX8_go_39 : decode cX8_go 39 = .ok (.aload_n 0, 1) := by decide +kernel
theorem dX8_go_40 : decode cX8_go 40 = .ok (.aload_n 0, 1) := by decide +kernel
theorem dX8_go_41 : decode cX8_go 41 = .ok (.getfield 146, 3) := by decide +kernel
theorem dX8_go_44 : decode cX8_go 44 = .ok (.putfield 152, 3) := by decide +kernel
theorem dX8_go_47 : decode cX8_go 47 = .ok (.aload_n 0, 1) := by decide +kernel
theorem dX8_go_48 : decode cX8_go 48 = .ok (.iconst 0, 1) := by decide +kernel
theorem dX8_go_49 : decode cX8_go 49 = .ok (.putfield 155, 3) := by decide +kernel
theorem dX8_go_52 : decode cX8_go 52 = .ok (.aload_n 0, 1) := by decide +kernel
theorem dX8_go_53 : decode cX8_go 53 = .ok (.lconst 0, 1) := by decide +kernel
theorem dX8_go_54 : decode cX8_go 54 = .ok (.putfield 158, 3) := by decide +kernel
theorem dX8_go_57 : decode cX8_go 57 = .ok (.aload_n 0, 1) := by decide +kernel
theorem dX8_go_58 : decode cX8_go 58 = .ok (.aload_n 0, 1) := by decide +kernel
theorem dX8_go_59 : decode cX8_go 59 = .ok (.getfield 146, 3) := by decide +kernel
theorem dX8_go_62 : decode cX8_go 62 = .ok (.invokevirtual 149, 3) := by decide +kernel
theorem dX8_go_65 : decode cX8_go 65 = .ok (.istore_n 1, 1) := by decide +kernel
theorem dX8_go_66 : decode cX8_go 66 = .ok (.iload_n 1, 1) := by decide +kernel
theorem dX8_go_67 : decode cX8_go 67 = .ok (.ifCond .ge 11, 3) := by decide +kernel
theorem dX8_go_70 : decode cX8_go 70 = .ok (.aload_n 0, 1) := by decide +kernel
theorem dX8_go_71 : decode cX8_go 71 = .ok (.iconst 0, 1) := by decide +kernel
theorem dX8_go_72 : decode cX8_go 72 = .ok (.putfield 162, 3) := by decide +kernel
theorem dX8_go_75 : decode cX8_go 75 = .ok (.goto 312, 3) := by decide +kernel
theorem dX8_go_78 : decode cX8_go 78 = .ok (.iload_n 1, 1) := by decide +kernel
theorem dX8_go_79 : decode cX8_go 79 = .ok (.i2l, 1) := by decide +kernel
theorem dX8_go_80 : decode cX8_go 80 = .ok (.ldc2_w 165, 3) := by decide +kernel
theorem dX8_go_83 : decode cX8_go 83 = .ok (.ldc2_w 167, 3) := by decide +kernel
theorem dX8_go_86 : decode cX8_go 86 = .ok (.invokestatic 60, 3) := by decide +kernel
theorem dX8_go_89 : decode cX8_go 89 = .ok (.ifCond .eq 110, 3) := by decide +kernel
theorem dX8_go_92 : decode cX8_go 92 = .ok (.aload_n 0, 1) := by decide +kernel
theorem dX8_go_93 : decode cX8_go 93 = .ok (.aload_n 0, 1) := by decide +kernel
theorem dX8_go_94 : decode cX8_go 94 = .ok (.getfield 146, 3) := by decide +kernel
theorem dX8_go_97 : decode cX8_go 97 = .ok (.invokevirtual 149, 3) := by decide +kernel
theorem dX8_go_100 : decode cX8_go 100 = .ok (.i2l, 1) := by decide +kernel
theorem dX8_go_101 : decode cX8_go 101 = .ok (.ldc2_w 165, 3) := by decide +kernel
theorem dX8_go_104 : decode cX8_go 104 = .ok (.ldc2_w 167, 3) := by decide +kernel
theorem dX8_go_107 : decode cX8_go 107 = .ok (.invokestatic 60, 3) := by decide +kernel
theorem dX8_go_110 : decode cX8_go 110 = .ok (.ifCond .eq 63, 3) := by decide +kernel
theorem dX8_go_113 : decode cX8_go 113 = .ok (.aload_n 0, 1) := by decide +kernel
theorem dX8_go_114 : decode cX8_go 114 = .ok (.aload_n 0, 1) := by decide +kernel
theorem dX8_go_115 : decode cX8_go 115 = .ok (.getfield 146, 3) := by decide +kernel
theorem dX8_go_118 : decode cX8_go 118 = .ok (.aload_n 0, 1) := by decide +kernel
theorem dX8_go_119 : decode cX8_go 119 = .ok (.getfield 152, 3) := by decide +kernel
theorem dX8_go_122 : decode cX8_go 122 = .ok (.isub, 1) := by decide +kernel
theorem dX8_go_123 : decode cX8_go 123 = .ok (.bipush 7, 2) := by decide +kernel
theorem dX8_go_125 : decode cX8_go 125 = .ok (.if_icmp .ge 28, 3) := by decide +kernel
theorem dX8_go_128 : decode cX8_go 128 = .ok (.ldc2_w 169, 3) := by decide +kernel
theorem dX8_go_131 : decode cX8_go 131 = .ok (.aload_n 0, 1) := by decide +kernel
theorem dX8_go_132 : decode cX8_go 132 = .ok (.getfield 158, 3) := by decide +kernel
theorem dX8_go_135 : decode cX8_go 135 = .ok (.lmul, 1) := by decide +kernel
theorem dX8_go_136 : decode cX8_go 136 = .ok (.aload_n 0, 1) := by decide +kernel
theorem dX8_go_137 : decode cX8_go 137 = .ok (.aload_n 0, 1) := by decide +kernel
theorem dX8_go_138 : decode cX8_go 138 = .ok (.getfield 146, 3) := by decide +kernel
theorem dX8_go_141 : decode cX8_go 141 = .ok (.invokevirtual 149, 3) := by decide +kernel
theorem dX8_go_144 : decode cX8_go 144 = .ok (.i2l, 1) := by decide +kernel
theorem dX8_go_145 : decode cX8_go 145 = .ok (.ladd, 1) := by decide +kernel
theorem dX8_go_146 : decode cX8_go 146 = .ok (.ldc2_w 171, 3) := by decide +kernel
theorem dX8_go_149 : decode cX8_go 149 = .ok (.lsub, 1) := by decide +kernel
theorem dX8_go_150 : decode cX8_go 150 = .ok (.goto 7, 3) := by decide +kernel
theorem dX8_go_153 : decode cX8_go 153 = .ok (.aload_n 0, 1) := by decide +kernel
theorem dX8_go_154 : decode cX8_go 154 = .ok (.getfield 158, 3) := by decide +kernel
theorem dX8_go_157 : decode cX8_go 157 = .ok (.putfield 158, 3) := by decide +kernel
theorem dX8_go_160 : decode cX8_go 160 = .ok (.aload_n 0, 1) := by decide +kernel
theorem dX8_go_161 : decode cX8_go 161 = .ok (.dup, 1) := by decide +kernel
theorem dX8_go_162 : decode cX8_go 162 = .ok (.getfield 146, 3) := by decide +kernel
theorem dX8_go_165 : decode cX8_go 165 = .ok (.iconst 1, 1) := by decide +kernel
theorem dX8_go_166 : decode cX8_go 166 = .ok (.iadd, 1) := by decide +kernel
theorem dX8_go_167 : decode cX8_go 167 = .ok (.putfield 146, 3) := by decide +kernel
theorem dX8_go_170 : decode cX8_go 170 = .ok (.goto (-78), 3) := by decide +kernel
theorem dX8_go_173 : decode cX8_go 173 = .ok (.aload_n 0, 1) := by decide +kernel
theorem dX8_go_174 : decode cX8_go 174 = .ok (.aload_n 0, 1) := by decide +kernel
theorem dX8_go_175 : decode cX8_go 175 = .ok (.getfield 146, 3) := by decide +kernel
theorem dX8_go_178 : decode cX8_go 178 = .ok (.aload_n 0, 1) := by decide +kernel
theorem dX8_go_179 : decode cX8_go 179 = .ok (.getfield 152, 3) := by decide +kernel
theorem dX8_go_182 : decode cX8_go 182 = .ok (.isub, 1) := by decide +kernel
theorem dX8_go_183 : decode cX8_go 183 = .ok (.bipush 7, 2) := by decide +kernel
theorem dX8_go_185 : decode cX8_go 185 = .ok (.if_icmp .le 7, 3) := by decide +kernel
theorem dX8_go_188 : decode cX8_go 188 = .ok (.iconst 4, 1) := by decide +kernel
theorem dX8_go_189 : decode cX8_go 189 = .ok (.goto 4, 3) := by decide +kernel
theorem dX8_go_192 : decode cX8_go 192 = .ok (.iconst 1, 1) := by decide +kernel
theorem dX8_go_193 : decode cX8_go 193 = .ok (.putfield 162, 3) := by decide +kernel
theorem dX8_go_196 : decode cX8_go 196 = .ok (.goto 191, 3) := by decide +kernel
theorem dX8_go_199 : decode cX8_go 199 = .ok (.iload_n 1, 1) := by decide +kernel
theorem dX8_go_200 : decode cX8_go 200 = .ok (.i2l, 1) := by decide +kernel
theorem dX8_go_201 : decode cX8_go 201 = .ok (.ldc2_w 173, 3) := by decide +kernel
theorem dX8_go_204 : decode cX8_go 204 = .ok (.ldc2_w 175, 3) := by decide +kernel
theorem dX8_go_207 : decode cX8_go 207 = .ok (.invokestatic 60, 3) := by decide +kernel
theorem dX8_go_210 : decode cX8_go 210 = .ok (.ifCond .eq 105, 3) := by decide +kernel
theorem dX8_go_213 : decode cX8_go 213 = .ok (.aload_n 0, 1) := by decide +kernel
theorem dX8_go_214 : decode cX8_go 214 = .ok (.aload_n 0, 1) := by decide +kernel
theorem dX8_go_215 : decode cX8_go 215 = .ok (.getfield 146, 3) := by decide +kernel
theorem dX8_go_218 : decode cX8_go 218 = .ok (.invokevirtual 149, 3) := by decide +kernel
theorem dX8_go_221 : decode cX8_go 221 = .ok (.i2l, 1) := by decide +kernel
theorem dX8_go_222 : decode cX8_go 222 = .ok (.ldc2_w 173, 3) := by decide +kernel
theorem dX8_go_225 : decode cX8_go 225 = .ok (.ldc2_w 175, 3) := by decide +kernel
theorem dX8_go_228 : decode cX8_go 228 = .ok (.invokestatic 60, 3) := by decide +kernel
theorem dX8_go_231 : decode cX8_go 231 = .ok (.ifCond .eq 59, 3) := by decide +kernel
theorem dX8_go_234 : decode cX8_go 234 = .ok (.aload_n 0, 1) := by decide +kernel
theorem dX8_go_235 : decode cX8_go 235 = .ok (.aload_n 0, 1) := by decide +kernel
theorem dX8_go_236 : decode cX8_go 236 = .ok (.getfield 146, 3) := by decide +kernel
theorem dX8_go_239 : decode cX8_go 239 = .ok (.aload_n 0, 1) := by decide +kernel
theorem dX8_go_240 : decode cX8_go 240 = .ok (.getfield 152, 3) := by decide +kernel
theorem dX8_go_243 : decode cX8_go 243 = .ok (.isub, 1) := by decide +kernel
theorem dX8_go_244 : decode cX8_go 244 = .ok (.iconst 3, 1) := by decide +kernel
theorem dX8_go_245 : decode cX8_go 245 = .ok (.if_icmp .ge 25, 3) := by decide +kernel
theorem dX8_go_248 : decode cX8_go 248 = .ok (.bipush 10, 2) := by decide +kernel
theorem dX8_go_250 : decode cX8_go 250 = .ok (.aload_n 0, 1) := by decide +kernel
theorem dX8_go_251 : decode cX8_go 251 = .ok (.getfield 155, 3) := by decide +kernel
theorem dX8_go_254 : decode cX8_go 254 = .ok (.imul, 1) := by decide +kernel
theorem dX8_go_255 : decode cX8_go 255 = .ok (.aload_n 0, 1) := by decide +kernel
theorem dX8_go_256 : decode cX8_go 256 = .ok (.aload_n 0, 1) := by decide +kernel
theorem dX8_go_257 : decode cX8_go 257 = .ok (.getfield 146, 3) := by decide +kernel
theorem dX8_go_260 : decode cX8_go 260 = .ok (.invokevirtual 149, 3) := by decide +kernel
theorem dX8_go_263 : decode cX8_go 263 = .ok (.iadd, 1) := by decide +kernel
theorem dX8_go_264 : decode cX8_go 264 = .ok (.bipush 48, 2) := by decide +kernel
theorem dX8_go_266 : decode cX8_go 266 = .ok (.isub, 1) := by decide +kernel
theorem dX8_go_267 : decode cX8_go 267 = .ok (.goto 7, 3) := by decide +kernel
theorem dX8_go_270 : decode cX8_go 270 = .ok (.aload_n 0, 1) := by decide +kernel
theorem dX8_go_271 : decode cX8_go 271 = .ok (.getfield 155, 3) := by decide +kernel
theorem dX8_go_274 : decode cX8_go 274 = .ok (.putfield 155, 3) := by decide +kernel
theorem dX8_go_277 : decode cX8_go 277 = .ok (.aload_n 0, 1) := by decide +kernel
theorem dX8_go_278 : decode cX8_go 278 = .ok (.dup, 1) := by decide +kernel
theorem dX8_go_279 : decode cX8_go 279 = .ok (.getfield 146, 3) := by decide +kernel
theorem dX8_go_282 : decode cX8_go 282 = .ok (.iconst 1, 1) := by decide +kernel
theorem dX8_go_283 : decode cX8_go 283 = .ok (.iadd, 1) := by decide +kernel
theorem dX8_go_284 : decode cX8_go 284 = .ok (.putfield 146, 3) := by decide +kernel
theorem dX8_go_287 : decode cX8_go 287 = .ok (.goto (-74), 3) := by decide +kernel
theorem dX8_go_290 : decode cX8_go 290 = .ok (.aload_n 0, 1) := by decide +kernel
theorem dX8_go_291 : decode cX8_go 291 = .ok (.aload_n 0, 1) := by decide +kernel
theorem dX8_go_292 : decode cX8_go 292 = .ok (.getfield 146, 3) := by decide +kernel
theorem dX8_go_295 : decode cX8_go 295 = .ok (.aload_n 0, 1) := by decide +kernel
theorem dX8_go_296 : decode cX8_go 296 = .ok (.getfield 152, 3) := by decide +kernel
theorem dX8_go_299 : decode cX8_go 299 = .ok (.isub, 1) := by decide +kernel
theorem dX8_go_300 : decode cX8_go 300 = .ok (.iconst 3, 1) := by decide +kernel
theorem dX8_go_301 : decode cX8_go 301 = .ok (.if_icmp .le 7, 3) := by decide +kernel
theorem dX8_go_304 : decode cX8_go 304 = .ok (.iconst 4, 1) := by decide +kernel
theorem dX8_go_305 : decode cX8_go 305 = .ok (.goto 4, 3) := by decide +kernel
theorem dX8_go_308 : decode cX8_go 308 = .ok (.iconst 2, 1) := by decide +kernel
theorem dX8_go_309 : decode cX8_go 309 = .ok (.putfield 162, 3) := by decide +kernel
theorem dX8_go_312 : decode cX8_go 312 = .ok (.goto 75, 3) := by decide +kernel
theorem dX8_go_315 : decode cX8_go 315 = .ok (.aload_n 0, 1) := by decide +kernel
theorem dX8_go_316 : decode cX8_go 316 = .ok (.dup, 1) := by decide +kernel
theorem dX8_go_317 : decode cX8_go 317 = .ok (.getfield 146, 3) := by decide +kernel
theorem dX8_go_320 : decode cX8_go 320 = .ok (.iconst 1, 1) := by decide +kernel
theorem dX8_go_321 : decode cX8_go 321 = .ok (.iadd, 1) := by decide +kernel
theorem dX8_go_322 : decode cX8_go 322 = .ok (.putfield 146, 3) := by decide +kernel
theorem dX8_go_325 : decode cX8_go 325 = .ok (.aload_n 0, 1) := by decide +kernel
theorem dX8_go_326 : decode cX8_go 326 = .ok (.iload_n 1, 1) := by decide +kernel
theorem dX8_go_327 : decode cX8_go 327 = .ok (.putfield 155, 3) := by decide +kernel
theorem dX8_go_330 : decode cX8_go 330 = .ok (.aload_n 0, 1) := by decide +kernel
theorem dX8_go_331 : decode cX8_go 331 = .ok (.iload_n 1, 1) := by decide +kernel
theorem dX8_go_332 : decode cX8_go 332 = .ok (.bipush 43, 2) := by decide +kernel
theorem dX8_go_334 : decode cX8_go 334 = .ok (.if_icmp .eq 45, 3) := by decide +kernel
theorem dX8_go_337 : decode cX8_go 337 = .ok (.iload_n 1, 1) := by decide +kernel
theorem dX8_go_338 : decode cX8_go 338 = .ok (.bipush 45, 2) := by decide +kernel
theorem dX8_go_340 : decode cX8_go 340 = .ok (.if_icmp .eq 39, 3) := by decide +kernel
theorem dX8_go_343 : decode cX8_go 343 = .ok (.iload_n 1, 1) := by decide +kernel
theorem dX8_go_344 : decode cX8_go 344 = .ok (.bipush 60, 2) := by decide +kernel
theorem dX8_go_346 : decode cX8_go 346 = .ok (.if_icmp .eq 33, 3) := by decide +kernel
theorem dX8_go_349 : decode cX8_go 349 = .ok (.iload_n 1, 1) := by decide +kernel
theorem dX8_go_350 : decode cX8_go 350 = .ok (.bipush 61, 2) := by decide +kernel
theorem dX8_go_352 : decode cX8_go 352 = .ok (.if_icmp .eq 27, 3) := by decide +kernel
theorem dX8_go_355 : decode cX8_go 355 = .ok (.iload_n 1, 1) := by decide +kernel
theorem dX8_go_356 : decode cX8_go 356 = .ok (.bipush 62, 2) := by decide +kernel
theorem dX8_go_358 : decode cX8_go 358 = .ok (.if_icmp .eq 21, 3) := by decide +kernel
theorem dX8_go_361 : decode cX8_go 361 = .ok (.iload_n 1, 1) := by decide +kernel
theorem dX8_go_362 : decode cX8_go 362 = .ok (.bipush 40, 2) := by decide +kernel
theorem dX8_go_364 : decode cX8_go 364 = .ok (.if_icmp .eq 15, 3) := by decide +kernel
theorem dX8_go_367 : decode cX8_go 367 = .ok (.iload_n 1, 1) := by decide +kernel
theorem dX8_go_368 : decode cX8_go 368 = .ok (.bipush 41, 2) := by decide +kernel
theorem dX8_go_370 : decode cX8_go 370 = .ok (.if_icmp .eq 9, 3) := by decide +kernel
theorem dX8_go_373 : decode cX8_go 373 = .ok (.iload_n 1, 1) := by decide +kernel
theorem dX8_go_374 : decode cX8_go 374 = .ok (.bipush 59, 2) := by decide +kernel
theorem dX8_go_376 : decode cX8_go 376 = .ok (.if_icmp .ne 7, 3) := by decide +kernel
theorem dX8_go_379 : decode cX8_go 379 = .ok (.iconst 3, 1) := by decide +kernel
theorem dX8_go_380 : decode cX8_go 380 = .ok (.goto 4, 3) := by decide +kernel
theorem dX8_go_383 : decode cX8_go 383 = .ok (.iconst 4, 1) := by decide +kernel
theorem dX8_go_384 : decode cX8_go 384 = .ok (.putfield 162, 3) := by decide +kernel
theorem dX8_go_387 : decode cX8_go 387 = .ok (.return_, 1) := by decide +kernel
theorem dX8_begins_0 : decode cX8_begins 0 = .ok (.aload_n 0, 1) := by decide +kernel
theorem dX8_begins_1 : decode cX8_begins 1 = .ok (.iconst 0, 1) := by decide +kernel
theorem dX8_begins_2 : decode cX8_begins 2 = .ok (.putfield 1, 3) := by decide +kernel
theorem dX8_begins_5 : decode cX8_begins 5 = .ok (.iload_n 1, 1) := by decide +kernel
theorem dX8_begins_6 : decode cX8_begins 6 = .ok (.i2l, 1) := by decide +kernel
theorem dX8_begins_7 : decode cX8_begins 7 = .ok (.lconst 0, 1) := by decide +kernel
theorem dX8_begins_8 : decode cX8_begins 8 = .ok (.aload_n 0, 1) := by decide +kernel
theorem dX8_begins_9 : decode cX8_begins 9 = .ok (.getfield 137, 3) := by decide +kernel
theorem dX8_begins_12 : decode cX8_begins 12 = .ok (.i2l, 1) := by decide +kernel
theorem dX8_begins_13 : decode cX8_begins 13 = .ok (.invokestatic 60, 3) := by decide +kernel
theorem dX8_begins_16 : decode cX8_begins 16 = .ok (.ifCond .ne 5, 3) := by decide +kernel
theorem dX8_begins_19 : decode cX8_begins 19 = .ok (.iconst 0, 1) := by decide +kernel
theorem dX8_begins_20 : decode cX8_begins 20 = .ok (.ireturn, 1) := by decide +kernel
theorem dX8_begins_21 : decode cX8_begins 21 = .ok (.aload_n 0, 1) := by decide +kernel
theorem dX8_begins_22 : decode cX8_begins 22 = .ok (.iload_n 1, 1) := by decide +kernel
theorem dX8_begins_23 : decode cX8_begins 23 = .ok (.putfield 143, 3) := by decide +kernel
theorem dX8_begins_26 : decode cX8_begins 26 = .ok (.aload_n 0, 1) := by decide +kernel
theorem dX8_begins_27 : decode cX8_begins 27 = .ok (.iconst 0, 1) := by decide +kernel
theorem dX8_begins_28 : decode cX8_begins 28 = .ok (.putfield 137, 3) := by decide +kernel
theorem dX8_begins_31 : decode cX8_begins 31 = .ok (.aload_n 0, 1) := by decide +kernel
theorem dX8_begins_32 : decode cX8_begins 32 = .ok (.iconst 0, 1) := by decide +kernel
theorem dX8_begins_33 : decode cX8_begins 33 = .ok (.putfield 146, 3) := by decide +kernel
theorem dX8_begins_36 : decode cX8_begins 36 = .ok (.aload_n 0, 1) := by decide +kernel
theorem dX8_begins_37 : decode cX8_begins 37 = .ok (.iconst (-1), 1) := by decide +kernel
theorem dX8_begins_38 : decode cX8_begins 38 = .ok (.putfield 177, 3) := by decide +kernel
theorem dX8_begins_41 : decode cX8_begins 41 = .ok (.aload_n 0, 1) := by decide +kernel
theorem dX8_begins_42 : decode cX8_begins 42 = .ok (.invokevirtual 180, 3) := by decide +kernel
theorem dX8_begins_45 : decode cX8_begins 45 = .ok (.iconst 1, 1) := by decide +kernel
theorem dX8_begins_46 : decode cX8_begins 46 = .ok (.ireturn, 1) := by decide +kernel
theorem dX8_bad_0 : decode cX8_bad 0 = .ok (.aload_n 0, 1) := by decide +kernel
theorem dX8_bad_1 : decode cX8_bad 1 = .ok (.getfield 177, 3) := by decide +kernel
theorem dX8_bad_4 : decode cX8_bad 4 = .ok (.iconst (-1), 1) := by decide +kernel
theorem dX8_bad_5 : decode cX8_bad 5 = .ok (.if_icmp .ne 16, 3) := by decide +kernel
theorem dX8_bad_8 : decode cX8_bad 8 = .ok (.aload_n 0, 1) := by decide +kernel
theorem dX8_bad_9 : decode cX8_bad 9 = .ok (.aload_n 0, 1) := by decide +kernel
theorem dX8_bad_10 : decode cX8_bad 10 = .ok (.getfield 152, 3) := by decide +kernel
theorem dX8_bad_13 : decode cX8_bad 13 = .ok (.putfield 177, 3) := by decide +kernel
theorem dX8_bad_16 : decode cX8_bad 16 = .ok (.aload_n 0, 1) := by decide +kernel
theorem dX8_bad_17 : decode cX8_bad 17 = .ok (.iload_n 1, 1) := by decide +kernel
theorem dX8_bad_18 : decode cX8_bad 18 = .ok (.putfield 183, 3) := by decide +kernel
theorem dX8_bad_21 : decode cX8_bad 21 = .ok (.iconst 0, 1) := by decide +kernel
theorem dX8_bad_22 : decode cX8_bad 22 = .ok (.ireturn, 1) := by decide +kernel
theorem dX8_is_0 : decode cX8_is 0 = .ok (.aload_n 0, 1) := by decide +kernel
theorem dX8_is_1 : decode cX8_is 1 = .ok (.getfield 162, 3) := by decide +kernel
theorem dX8_is_4 : decode cX8_is 4 = .ok (.iconst 1, 1) := by decide +kernel
theorem dX8_is_5 : decode cX8_is 5 = .ok (.if_icmp .ne 16, 3) := by decide +kernel
theorem dX8_is_8 : decode cX8_is 8 = .ok (.aload_n 0, 1) := by decide +kernel
theorem dX8_is_9 : decode cX8_is 9 = .ok (.getfield 158, 3) := by decide +kernel
theorem dX8_is_12 : decode cX8_is 12 = .ok (.lload_n 1, 1) := by decide +kernel
theorem dX8_is_13 : decode cX8_is 13 = .ok (.lcmp, 1) := by decide +kernel
theorem dX8_is_14 : decode cX8_is 14 = .ok (.ifCond .ne 7, 3) := by decide +kernel
theorem dX8_is_17 : decode cX8_is 17 = .ok (.iconst 1, 1) := by decide +kernel
theorem dX8_is_18 : decode cX8_is 18 = .ok (.goto 4, 3) := by decide +kernel
theorem dX8_is_21 : decode cX8_is 21 = .ok (.iconst 0, 1) := by decide +kernel
theorem dX8_is_22 : decode cX8_is 22 = .ok (.ireturn, 1) := by decide +kernel
theorem dX8_isSign_0 : decode cX8_isSign 0 = .ok (.aload_n 0, 1) := by decide +kernel
theorem dX8_isSign_1 : decode cX8_isSign 1 = .ok (.getfield 162, 3) := by decide +kernel
theorem dX8_isSign_4 : decode cX8_isSign 4 = .ok (.iconst 3, 1) := by decide +kernel
theorem dX8_isSign_5 : decode cX8_isSign 5 = .ok (.if_icmp .ne 15, 3) := by decide +kernel
theorem dX8_isSign_8 : decode cX8_isSign 8 = .ok (.aload_n 0, 1) := by decide +kernel
theorem dX8_isSign_9 : decode cX8_isSign 9 = .ok (.getfield 155, 3) := by decide +kernel
theorem dX8_isSign_12 : decode cX8_isSign 12 = .ok (.iload_n 1, 1) := by decide +kernel
theorem dX8_isSign_13 : decode cX8_isSign 13 = .ok (.if_icmp .ne 7, 3) := by decide +kernel
theorem dX8_isSign_16 : decode cX8_isSign 16 = .ok (.iconst 1, 1) := by decide +kernel
theorem dX8_isSign_17 : decode cX8_isSign 17 = .ok (.goto 4, 3) := by decide +kernel
theorem dX8_isSign_20 : decode cX8_isSign 20 = .ok (.iconst 0, 1) := by decide +kernel
theorem dX8_isSign_21 : decode cX8_isSign 21 = .ok (.ireturn, 1) := by decide +kernel
theorem dX8_number_0 : decode cX8_number 0 = .ok (.aload_n 0, 1) := by decide +kernel
theorem dX8_number_1 : decode cX8_number 1 = .ok (.getfield 162, 3) := by decide +kernel
theorem dX8_number_4 : decode cX8_number 4 = .ok (.iconst 2, 1) := by decide +kernel
theorem dX8_number_5 : decode cX8_number 5 = .ok (.if_icmp .eq 9, 3) := by decide +kernel
theorem dX8_number_8 : decode cX8_number 8 = .ok (.aload_n 0, 1) := by decide +kernel
theorem dX8_number_9 : decode cX8_number 9 = .ok (.iconst 1, 1) := by decide +kernel
theorem dX8_number_10 : decode cX8_number 10 = .ok (.invokevirtual 186, 3) := by decide +kernel
theorem dX8_number_13 : decode cX8_number 13 = .ok (.ireturn, 1) := by decide +kernel
theorem dX8_number_14 : decode cX8_number 14 = .ok (.aload_n 0, 1) := by decide +kernel
theorem dX8_number_15 : decode cX8_number 15 = .ok (.aload_n 0, 1) := by decide +kernel
theorem dX8_number_16 : decode cX8_number 16 = .ok (.getfield 155, 3) := by decide +kernel
theorem dX8_number_19 : decode cX8_number 19 = .ok (.putfield 189, 3) := by decide +kernel
theorem dX8_number_22 : decode cX8_number 22 = .ok (.aload_n 0, 1) := by decide +kernel
theorem dX8_number_23 : decode cX8_number 23 = .ok (.invokevirtual 180, 3) := by decide +kernel
theorem dX8_number_26 : decode cX8_number 26 = .ok (.iconst 1, 1) := by decide +kernel
theorem dX8_number_27 : decode cX8_number 27 = .ok (.ireturn, 1) := by decide +kernel
theorem dX8_passes_0 : decode cX8_passes 0 = .ok (.aload_n 0, 1) := by decide +kernel
theorem dX8_passes_1 : decode cX8_passes 1 = .ok (.lload_n 1, 1) := by decide +kernel
theorem dX8_passes_2 : decode cX8_passes 2 = .ok (.invokevirtual 192, 3) := by decide +kernel
theorem dX8_passes_5 : decode cX8_passes 5 = .ok (.ifCond .ne 9, 3) := by decide +kernel
theorem dX8_passes_8 : decode cX8_passes 8 = .ok (.aload_n 0, 1) := by decide +kernel
theorem dX8_passes_9 : decode cX8_passes 9 = .ok (.iconst 1, 1) := by decide +kernel
theorem dX8_passes_10 : decode cX8_passes 10 = .ok (.invokevirtual 186, 3) := by decide +kernel
theorem dX8_passes_13 : decode cX8_passes 13 = .ok (.ireturn, 1) := by decide +kernel
theorem dX8_passes_14 : decode cX8_passes 14 = .ok (.aload_n 0, 1) := by decide +kernel
theorem dX8_passes_15 : decode cX8_passes 15 = .ok (.invokevirtual 180, 3) := by decide +kernel
theorem dX8_passes_18 : decode cX8_passes 18 = .ok (.iconst 1, 1) := by decide +kernel
theorem dX8_passes_19 : decode cX8_passes 19 = .ok (.ireturn, 1) := by decide +kernel
theorem dX8_told_0 : decode cX8_told 0 = .ok (.aload_n 0, 1) := by decide +kernel
theorem dX8_told_1 : decode cX8_told 1 = .ok (.invokevirtual 196, 3) := by decide +kernel
theorem dX8_told_4 : decode cX8_told 4 = .ok (.ifCond .ne 5, 3) := by decide +kernel
theorem dX8_told_7 : decode cX8_told 7 = .ok (.iconst 0, 1) := by decide +kernel
theorem dX8_told_8 : decode cX8_told 8 = .ok (.ireturn, 1) := by decide +kernel
theorem dX8_told_9 : decode cX8_told 9 = .ok (.aload_n 0, 1) := by decide +kernel
theorem dX8_told_10 : decode cX8_told 10 = .ok (.getfield 37, 3) := by decide +kernel
theorem dX8_told_13 : decode cX8_told 13 = .ok (.iconst 4, 1) := by decide +kernel
theorem dX8_told_14 : decode cX8_told 14 = .ok (.aload_n 0, 1) := by decide +kernel
theorem dX8_told_15 : decode cX8_told 15 = .ok (.getfield 200, 3) := by decide +kernel
theorem dX8_told_18 : decode cX8_told 18 = .ok (.imul, 1) := by decide +kernel
theorem dX8_told_19 : decode cX8_told 19 = .ok (.iload_n 1, 1) := by decide +kernel
theorem dX8_told_20 : decode cX8_told 20 = .ok (.iadd, 1) := by decide +kernel
theorem dX8_told_21 : decode cX8_told 21 = .ok (.aload_n 0, 1) := by decide +kernel
theorem dX8_told_22 : decode cX8_told 22 = .ok (.getfield 189, 3) := by decide +kernel
theorem dX8_told_25 : decode cX8_told 25 = .ok (.iastore, 1) := by decide +kernel
theorem dX8_told_26 : decode cX8_told 26 = .ok (.iconst 1, 1) := by decide +kernel
theorem dX8_told_27 : decode cX8_told 27 = .ok (.ireturn, 1) := by decide +kernel
theorem dX8_toldWorth_0 : decode cX8_toldWorth 0 = .ok (.aload_n 0, 1) := by decide +kernel
theorem dX8_toldWorth_1 : decode cX8_toldWorth 1 = .ok (.getfield 37, 3) := by decide +kernel
theorem dX8_toldWorth_4 : decode cX8_toldWorth 4 = .ok (.iconst 4, 1) := by decide +kernel
theorem dX8_toldWorth_5 : decode cX8_toldWorth 5 = .ok (.aload_n 0, 1) := by decide +kernel
theorem dX8_toldWorth_6 : decode cX8_toldWorth 6 = .ok (.getfield 200, 3) := by decide +kernel
theorem dX8_toldWorth_9 : decode cX8_toldWorth 9 = .ok (.imul, 1) := by decide +kernel
theorem dX8_toldWorth_10 : decode cX8_toldWorth 10 = .ok (.iload_n 1, 1) := by decide +kernel
theorem dX8_toldWorth_11 : decode cX8_toldWorth 11 = .ok (.iadd, 1) := by decide +kernel
theorem dX8_toldWorth_12 : decode cX8_toldWorth 12 = .ok (.iconst 0, 1) := by decide +kernel
theorem dX8_toldWorth_13 : decode cX8_toldWorth 13 = .ok (.iastore, 1) := by decide +kernel
theorem dX8_toldWorth_14 : decode cX8_toldWorth 14 = .ok (.aload_n 0, 1) := by decide +kernel
theorem dX8_toldWorth_15 : decode cX8_toldWorth 15 = .ok (.ldc2_w 203, 3) := by decide +kernel
theorem dX8_toldWorth_18 : decode cX8_toldWorth 18 = .ok (.invokevirtual 192, 3) := by decide +kernel
theorem dX8_toldWorth_21 : decode cX8_toldWorth 21 = .ok (.ifCond .ne 5, 3) := by decide +kernel
theorem dX8_toldWorth_24 : decode cX8_toldWorth 24 = .ok (.iconst 1, 1) := by decide +kernel
theorem dX8_toldWorth_25 : decode cX8_toldWorth 25 = .ok (.ireturn, 1) := by decide +kernel
theorem dX8_toldWorth_26 : decode cX8_toldWorth 26 = .ok (.aload_n 0, 1) := by decide +kernel
theorem dX8_toldWorth_27 : decode cX8_toldWorth 27 = .ok (.invokevirtual 180, 3) := by decide +kernel
theorem dX8_toldWorth_30 : decode cX8_toldWorth 30 = .ok (.aload_n 0, 1) := by decide +kernel
theorem dX8_toldWorth_31 : decode cX8_toldWorth 31 = .ok (.iload_n 1, 1) := by decide +kernel
theorem dX8_toldWorth_32 : decode cX8_toldWorth 32 = .ok (.invokevirtual 205, 3) := by decide +kernel
theorem dX8_toldWorth_35 : decode cX8_toldWorth 35 = .ok (.ireturn, 1) := by decide +kernel
theorem dX8_shiftsLine_0 : decode cX8_shiftsLine 0 = .ok (.aload_n 0, 1) := by decide +kernel
theorem dX8_shiftsLine_1 : decode cX8_shiftsLine 1 = .ok (.iconst 1, 1) := by decide +kernel
theorem dX8_shiftsLine_2 : decode cX8_shiftsLine 2 = .ok (.invokevirtual 205, 3) := by decide +kernel
theorem dX8_shiftsLine_5 : decode cX8_shiftsLine 5 = .ok (.ifCond .eq 13, 3) := by decide +kernel
theorem dX8_shiftsLine_8 : decode cX8_shiftsLine 8 = .ok (.aload_n 0, 1) := by decide +kernel
theorem dX8_shiftsLine_9 : decode cX8_shiftsLine 9 = .ok (.ldc2_w 208, 3) := by decide +kernel
theorem dX8_shiftsLine_12 : decode cX8_shiftsLine 12 = .ok (.invokevirtual 210, 3) := by decide +kernel
theorem dX8_shiftsLine_15 : decode cX8_shiftsLine 15 = .ok (.ifCond .ne 5, 3) := by decide +kernel
theorem dX8_shiftsLine_18 : decode cX8_shiftsLine 18 = .ok (.iconst 0, 1) := by decide +kernel
theorem dX8_shiftsLine_19 : decode cX8_shiftsLine 19 = .ok (.ireturn, 1) := by decide +kernel
theorem dX8_shiftsLine_20 : decode cX8_shiftsLine 20 = .ok (.aload_n 0, 1) := by decide +kernel
theorem dX8_shiftsLine_21 : decode cX8_shiftsLine 21 = .ok (.bipush 45, 2) := by decide +kernel
theorem dX8_shiftsLine_23 : decode cX8_shiftsLine 23 = .ok (.invokevirtual 213, 3) := by decide +kernel
theorem dX8_shiftsLine_26 : decode cX8_shiftsLine 26 = .ok (.istore_n 1, 1) := by decide +kernel
theorem dX8_shiftsLine_27 : decode cX8_shiftsLine 27 = .ok (.iload_n 1, 1) := by decide +kernel
theorem dX8_shiftsLine_28 : decode cX8_shiftsLine 28 = .ok (.ifCond .eq 7, 3) := by decide +kernel
theorem dX8_shiftsLine_31 : decode cX8_shiftsLine 31 = .ok (.aload_n 0, 1) := by decide +kernel
theorem dX8_shiftsLine_32 : decode cX8_shiftsLine 32 = .ok (.invokevirtual 180, 3) := by decide +kernel
theorem dX8_shiftsLine_35 : decode cX8_shiftsLine 35 = .ok (.aload_n 0, 1) := by decide +kernel
theorem dX8_shiftsLine_36 : decode cX8_shiftsLine 36 = .ok (.iconst 2, 1) := by decide +kernel
theorem dX8_shiftsLine_37 : decode cX8_shiftsLine 37 = .ok (.invokevirtual 205, 3) := by decide +kernel
theorem dX8_shiftsLine_40 : decode cX8_shiftsLine 40 = .ok (.ifCond .ne 5, 3) := by decide +kernel
theorem dX8_shiftsLine_43 : decode cX8_shiftsLine 43 = .ok (.iconst 0, 1) := by decide +kernel
theorem dX8_shiftsLine_44 : decode cX8_shiftsLine 44 = .ok (.ireturn, 1) := by decide +kernel
theorem dX8_shiftsLine_45 : decode cX8_shiftsLine 45 = .ok (.aload_n 0, 1) := by decide +kernel
theorem dX8_shiftsLine_46 : decode cX8_shiftsLine 46 = .ok (.getfield 37, 3) := by decide +kernel
theorem dX8_shiftsLine_49 : decode cX8_shiftsLine 49 = .ok (.iconst 4, 1) := by decide +kernel
theorem dX8_shiftsLine_50 : decode cX8_shiftsLine 50 = .ok (.aload_n 0, 1) := by decide +kernel
theorem dX8_shiftsLine_51 : decode cX8_shiftsLine 51 = .ok (.getfield 200, 3) := by decide +kernel
theorem dX8_shiftsLine_54 : decode cX8_shiftsLine 54 = .ok (.imul, 1) := by decide +kernel
theorem dX8_shiftsLine_55 : decode cX8_shiftsLine 55 = .ok (.iconst 2, 1) := by decide +kernel
theorem dX8_shiftsLine_56 : decode cX8_shiftsLine 56 = .ok (.iadd, 1) := by decide +kernel
theorem dX8_shiftsLine_57 : decode cX8_shiftsLine 57 = .ok (.iload_n 1, 1) := by decide +kernel
theorem dX8_shiftsLine_58 : decode cX8_shiftsLine 58 = .ok (.ifCond .eq 11, 3) := by decide +kernel
theorem dX8_shiftsLine_61 : decode cX8_shiftsLine 61 = .ok (.aload_n 0, 1) := by decide +kernel
theorem dX8_shiftsLine_62 : decode cX8_shiftsLine 62 = .ok (.getfield 189, 3) := by decide +kernel
theorem dX8_shiftsLine_65 : decode cX8_shiftsLine 65 = .ok (.ineg, 1) := by decide +kernel
theorem dX8_shiftsLine_66 : decode cX8_shiftsLine 66 = .ok (.goto 7, 3) := by decide +kernel
theorem dX8_shiftsLine_69 : decode cX8_shiftsLine 69 = .ok (.aload_n 0, 1) := by decide +kernel
theorem dX8_shiftsLine_70 : decode cX8_shiftsLine 70 = .ok (.getfield 189, 3) := by decide +kernel
theorem dX8_shiftsLine_73 : decode cX8_shiftsLine 73 = .ok (.iastore, 1) := by decide +kernel
theorem dX8_shiftsLine_74 : decode cX8_shiftsLine 74 = .ok (.iconst 1, 1) := by decide +kernel
theorem dX8_shiftsLine_75 : decode cX8_shiftsLine 75 = .ok (.ireturn, 1) := by decide +kernel
theorem dX8_numberLine_0 : decode cX8_numberLine 0 = .ok (.aload_n 0, 1) := by decide +kernel
theorem dX8_numberLine_1 : decode cX8_numberLine 1 = .ok (.iconst 0, 1) := by decide +kernel
theorem dX8_numberLine_2 : decode cX8_numberLine 2 = .ok (.invokevirtual 205, 3) := by decide +kernel
theorem dX8_numberLine_5 : decode cX8_numberLine 5 = .ok (.ifCond .ne 5, 3) := by decide +kernel
theorem dX8_numberLine_8 : decode cX8_numberLine 8 = .ok (.iconst 0, 1) := by decide +kernel
theorem dX8_numberLine_9 : decode cX8_numberLine 9 = .ok (.ireturn, 1) := by decide +kernel
theorem dX8_numberLine_10 : decode cX8_numberLine 10 = .ok (.aload_n 0, 1) := by decide +kernel
theorem dX8_numberLine_11 : decode cX8_numberLine 11 = .ok (.ldc2_w 216, 3) := by decide +kernel
theorem dX8_numberLine_14 : decode cX8_numberLine 14 = .ok (.invokevirtual 192, 3) := by decide +kernel
theorem dX8_numberLine_17 : decode cX8_numberLine 17 = .ok (.ifCond .eq 7, 3) := by decide +kernel
theorem dX8_numberLine_20 : decode cX8_numberLine 20 = .ok (.iconst 0, 1) := by decide +kernel
theorem dX8_numberLine_21 : decode cX8_numberLine 21 = .ok (.goto 89, 3) := by decide +kernel
theorem dX8_numberLine_24 : decode cX8_numberLine 24 = .ok (.aload_n 0, 1) := by decide +kernel
theorem dX8_numberLine_25 : decode cX8_numberLine 25 = .ok (.ldc2_w 218, 3) := by decide +kernel
theorem dX8_numberLine_28 : decode cX8_numberLine 28 = .ok (.invokevirtual 192, 3) := by decide +kernel
theorem dX8_numberLine_31 : decode cX8_numberLine 31 = .ok (.ifCond .eq 7, 3) := by decide +kernel
theorem dX8_numberLine_34 : decode cX8_numberLine 34 = .ok (.iconst 1, 1) := by decide +kernel
theorem dX8_numberLine_35 : decode cX8_numberLine 35 = .ok (.goto 75, 3) := by decide +kernel
theorem dX8_numberLine_38 : decode cX8_numberLine 38 = .ok (.aload_n 0, 1) := by decide +kernel
theorem dX8_numberLine_39 : decode cX8_numberLine 39 = .ok (.ldc2_w 220, 3) := by decide +kernel
theorem dX8_numberLine_42 : decode cX8_numberLine 42 = .ok (.invokevirtual 192, 3) := by decide +kernel
theorem dX8_numberLine_45 : decode cX8_numberLine 45 = .ok (.ifCond .eq 7, 3) := by decide +kernel
theorem dX8_numberLine_48 : decode cX8_numberLine 48 = .ok (.iconst 2, 1) := by decide +kernel
theorem dX8_numberLine_49 : decode cX8_numberLine 49 = .ok (.goto 61, 3) := by decide +kernel
theorem dX8_numberLine_52 : decode cX8_numberLine 52 = .ok (.aload_n 0, 1) := by decide +kernel
theorem dX8_numberLine_53 : decode cX8_numberLine 53 = .ok (.ldc2_w 222, 3) := by decide +kernel
theorem dX8_numberLine_56 : decode cX8_numberLine 56 = .ok (.invokevirtual 192, 3) := by decide +kernel
theorem dX8_numberLine_59 : decode cX8_numberLine 59 = .ok (.ifCond .eq 7, 3) := by decide +kernel
theorem dX8_numberLine_62 : decode cX8_numberLine 62 = .ok (.iconst 3, 1) := by decide +kernel
theorem dX8_numberLine_63 : decode cX8_numberLine 63 = .ok (.goto 47, 3) := by decide +kernel
theorem dX8_numberLine_66 : decode cX8_numberLine 66 = .ok (.aload_n 0, 1) := by decide +kernel
theorem dX8_numberLine_67 : decode cX8_numberLine 67 = .ok (.ldc2_w 224, 3) := by decide +kernel
theorem dX8_numberLine_70 : decode cX8_numberLine 70 = .ok (.invokevirtual 192, 3) := by decide +kernel
theorem dX8_numberLine_73 : decode cX8_numberLine 73 = .ok (.ifCond .eq 7, 3) := by decide +kernel
theorem dX8_numberLine_76 : decode cX8_numberLine 76 = .ok (.iconst 4, 1) := by decide +kernel
theorem dX8_numberLine_77 : decode cX8_numberLine 77 = .ok (.goto 33, 3) := by decide +kernel
theorem dX8_numberLine_80 : decode cX8_numberLine 80 = .ok (.aload_n 0, 1) := by decide +kernel
theorem dX8_numberLine_81 : decode cX8_numberLine 81 = .ok (.ldc2_w 226, 3) := by decide +kernel
theorem dX8_numberLine_84 : decode cX8_numberLine 84 = .ok (.invokevirtual 192, 3) := by decide +kernel
theorem dX8_numberLine_87 : decode cX8_numberLine 87 = .ok (.ifCond .eq 7, 3) := by decide +kernel
theorem dX8_numberLine_90 : decode cX8_numberLine 90 = .ok (.iconst 5, 1) := by decide +kernel
theorem dX8_numberLine_91 : decode cX8_numberLine 91 = .ok (.goto 19, 3) := by decide +kernel
theorem dX8_numberLine_94 : decode cX8_numberLine 94 = .ok (.aload_n 0, 1) := by decide +kernel
theorem dX8_numberLine_95 : decode cX8_numberLine 95 = .ok (.ldc2_w 203, 3) := by decide +kernel
theorem dX8_numberLine_98 : decode cX8_numberLine 98 = .ok (.invokevirtual 192, 3) := by decide +kernel
theorem dX8_numberLine_101 : decode cX8_numberLine 101 = .ok (.ifCond .eq 8, 3) := by decide +kernel
theorem dX8_numberLine_104 : decode cX8_numberLine 104 = .ok (.bipush 6, 2) := by decide +kernel
theorem dX8_numberLine_106 : decode cX8_numberLine 106 = .ok (.goto 4, 3) := by decide +kernel
theorem dX8_numberLine_109 : decode cX8_numberLine 109 = .ok (.iconst (-1), 1) := by decide +kernel
theorem dX8_numberLine_110 : decode cX8_numberLine 110 = .ok (.istore_n 1, 1) := by decide +kernel
theorem dX8_numberLine_111 : decode cX8_numberLine 111 = .ok (.iload_n 1, 1) := by decide +kernel
theorem dX8_numberLine_112 : decode cX8_numberLine 112 = .ok (.iconst (-1), 1) := by decide +kernel
theorem dX8_numberLine_113 : decode cX8_numberLine 113 = .ok (.if_icmp .ne 9, 3) := by decide +kernel
theorem dX8_numberLine_116 : decode cX8_numberLine 116 = .ok (.aload_n 0, 1) := by decide +kernel
theorem dX8_numberLine_117 : decode cX8_numberLine 117 = .ok (.iconst 1, 1) := by decide +kernel
theorem dX8_numberLine_118 : decode cX8_numberLine 118 = .ok (.invokevirtual 186, 3) := by decide +kernel
theorem dX8_numberLine_121 : decode cX8_numberLine 121 = .ok (.ireturn, 1) := by decide +kernel
theorem dX8_numberLine_122 : decode cX8_numberLine 122 = .ok (.aload_n 0, 1) := by decide +kernel
theorem dX8_numberLine_123 : decode cX8_numberLine 123 = .ok (.getfield 34, 3) := by decide +kernel
theorem dX8_numberLine_126 : decode cX8_numberLine 126 = .ok (.aload_n 0, 1) := by decide +kernel
theorem dX8_numberLine_127 : decode cX8_numberLine 127 = .ok (.getfield 200, 3) := by decide +kernel
theorem dX8_numberLine_130 : decode cX8_numberLine 130 = .ok (.iload_n 1, 1) := by decide +kernel
theorem dX8_numberLine_131 : decode cX8_numberLine 131 = .ok (.iastore, 1) := by decide +kernel
theorem dX8_numberLine_132 : decode cX8_numberLine 132 = .ok (.aload_n 0, 1) := by decide +kernel
theorem dX8_numberLine_133 : decode cX8_numberLine 133 = .ok (.invokevirtual 180, 3) := by decide +kernel
theorem dX8_numberLine_136 : decode cX8_numberLine 136 = .ok (.iload_n 1, 1) := by decide +kernel
theorem dX8_numberLine_137 : decode cX8_numberLine 137 = .ok (.tableswitch 142 0 6 #[43, 65, 142, 142, 142, 105, 110], 43) := by decide +kernel
theorem dX8_numberLine_180 : decode cX8_numberLine 180 = .ok (.aload_n 0, 1) := by decide +kernel
theorem dX8_numberLine_181 : decode cX8_numberLine 181 = .ok (.iconst 1, 1) := by decide +kernel
theorem dX8_numberLine_182 : decode cX8_numberLine 182 = .ok (.invokevirtual 205, 3) := by decide +kernel
theorem dX8_numberLine_185 : decode cX8_numberLine 185 = .ok (.ifCond .eq 15, 3) := by decide +kernel
theorem dX8_numberLine_188 : decode cX8_numberLine 188 = .ok (.aload_n 0, 1) := by decide +kernel
theorem dX8_numberLine_189 : decode cX8_numberLine 189 = .ok (.iconst 2, 1) := by decide +kernel
theorem dX8_numberLine_190 : decode cX8_numberLine 190 = .ok (.invokevirtual 228, 3) := by decide +kernel
theorem dX8_numberLine_193 : decode cX8_numberLine 193 = .ok (.ifCond .eq 7, 3) := by decide +kernel
theorem dX8_numberLine_196 : decode cX8_numberLine 196 = .ok (.iconst 1, 1) := by decide +kernel
theorem dX8_numberLine_197 : decode cX8_numberLine 197 = .ok (.goto 4, 3) := by decide +kernel
theorem dX8_numberLine_200 : decode cX8_numberLine 200 = .ok (.iconst 0, 1) := by decide +kernel
theorem dX8_numberLine_201 : decode cX8_numberLine 201 = .ok (.ireturn, 1) := by decide +kernel
theorem dX8_numberLine_202 : decode cX8_numberLine 202 = .ok (.aload_n 0, 1) := by decide +kernel
theorem dX8_numberLine_203 : decode cX8_numberLine 203 = .ok (.iconst 1, 1) := by decide +kernel
theorem dX8_numberLine_204 : decode cX8_numberLine 204 = .ok (.invokevirtual 205, 3) := by decide +kernel
theorem dX8_numberLine_207 : decode cX8_numberLine 207 = .ok (.ifCond .eq 33, 3) := by decide +kernel
theorem dX8_numberLine_210 : decode cX8_numberLine 210 = .ok (.aload_n 0, 1) := by decide +kernel
theorem dX8_numberLine_211 : decode cX8_numberLine 211 = .ok (.ldc2_w 231, 3) := by decide +kernel
theorem dX8_numberLine_214 : decode cX8_numberLine 214 = .ok (.invokevirtual 210, 3) := by decide +kernel
theorem dX8_numberLine_217 : decode cX8_numberLine 217 = .ok (.ifCond .eq 23, 3) := by decide +kernel
theorem dX8_numberLine_220 : decode cX8_numberLine 220 = .ok (.aload_n 0, 1) := by decide +kernel
theorem dX8_numberLine_221 : decode cX8_numberLine 221 = .ok (.iconst 2, 1) := by decide +kernel
theorem dX8_numberLine_222 : decode cX8_numberLine 222 = .ok (.invokevirtual 205, 3) := by decide +kernel
theorem dX8_numberLine_225 : decode cX8_numberLine 225 = .ok (.ifCond .eq 15, 3) := by decide +kernel
theorem dX8_numberLine_228 : decode cX8_numberLine 228 = .ok (.aload_n 0, 1) := by decide +kernel
theorem dX8_numberLine_229 : decode cX8_numberLine 229 = .ok (.iconst 3, 1) := by decide +kernel
theorem dX8_numberLine_230 : decode cX8_numberLine 230 = .ok (.invokevirtual 228, 3) := by decide +kernel
theorem dX8_numberLine_233 : decode cX8_numberLine 233 = .ok (.ifCond .eq 7, 3) := by decide +kernel
theorem dX8_numberLine_236 : decode cX8_numberLine 236 = .ok (.iconst 1, 1) := by decide +kernel
theorem dX8_numberLine_237 : decode cX8_numberLine 237 = .ok (.goto 4, 3) := by decide +kernel
theorem dX8_numberLine_240 : decode cX8_numberLine 240 = .ok (.iconst 0, 1) := by decide +kernel
theorem dX8_numberLine_241 : decode cX8_numberLine 241 = .ok (.ireturn, 1) := by decide +kernel
theorem dX8_numberLine_242 : decode cX8_numberLine 242 = .ok (.aload_n 0, 1) := by decide +kernel
theorem dX8_numberLine_243 : decode cX8_numberLine 243 = .ok (.invokevirtual 233, 3) := by decide +kernel
theorem dX8_numberLine_246 : decode cX8_numberLine 246 = .ok (.ireturn, 1) := by decide +kernel
theorem dX8_numberLine_247 : decode cX8_numberLine 247 = .ok (.aload_n 0, 1) := by decide +kernel
theorem dX8_numberLine_248 : decode cX8_numberLine 248 = .ok (.iconst 2, 1) := by decide +kernel
theorem dX8_numberLine_249 : decode cX8_numberLine 249 = .ok (.invokevirtual 205, 3) := by decide +kernel
theorem dX8_numberLine_252 : decode cX8_numberLine 252 = .ok (.ifCond .eq 25, 3) := by decide +kernel
theorem dX8_numberLine_255 : decode cX8_numberLine 255 = .ok (.aload_n 0, 1) := by decide +kernel
theorem dX8_numberLine_256 : decode cX8_numberLine 256 = .ok (.ldc2_w 236, 3) := by decide +kernel
theorem dX8_numberLine_259 : decode cX8_numberLine 259 = .ok (.invokevirtual 210, 3) := by decide +kernel
theorem dX8_numberLine_262 : decode cX8_numberLine 262 = .ok (.ifCond .eq 15, 3) := by decide +kernel
theorem dX8_numberLine_265 : decode cX8_numberLine 265 = .ok (.aload_n 0, 1) := by decide +kernel
theorem dX8_numberLine_266 : decode cX8_numberLine 266 = .ok (.iconst 1, 1) := by decide +kernel
theorem dX8_numberLine_267 : decode cX8_numberLine 267 = .ok (.invokevirtual 205, 3) := by decide +kernel
theorem dX8_numberLine_270 : decode cX8_numberLine 270 = .ok (.ifCond .eq 7, 3) := by decide +kernel
theorem dX8_numberLine_273 : decode cX8_numberLine 273 = .ok (.iconst 1, 1) := by decide +kernel
theorem dX8_numberLine_274 : decode cX8_numberLine 274 = .ok (.goto 4, 3) := by decide +kernel
theorem dX8_numberLine_277 : decode cX8_numberLine 277 = .ok (.iconst 0, 1) := by decide +kernel
theorem dX8_numberLine_278 : decode cX8_numberLine 278 = .ok (.ireturn, 1) := by decide +kernel
theorem dX8_numberLine_279 : decode cX8_numberLine 279 = .ok (.aload_n 0, 1) := by decide +kernel
theorem dX8_numberLine_280 : decode cX8_numberLine 280 = .ok (.iconst 1, 1) := by decide +kernel
theorem dX8_numberLine_281 : decode cX8_numberLine 281 = .ok (.invokevirtual 205, 3) := by decide +kernel
theorem dX8_numberLine_284 : decode cX8_numberLine 284 = .ok (.ireturn, 1) := by decide +kernel
theorem dX8_line_0 : decode cX8_line 0 = .ok (.aload_n 0, 1) := by decide +kernel
theorem dX8_line_1 : decode cX8_line 1 = .ok (.getfield 162, 3) := by decide +kernel
theorem dX8_line_4 : decode cX8_line 4 = .ok (.iconst 2, 1) := by decide +kernel
theorem dX8_line_5 : decode cX8_line 5 = .ok (.if_icmp .ne 8, 3) := by decide +kernel
theorem dX8_line_8 : decode cX8_line 8 = .ok (.aload_n 0, 1) := by decide +kernel
theorem dX8_line_9 : decode cX8_line 9 = .ok (.invokevirtual 238, 3) := by decide +kernel
theorem dX8_line_12 : decode cX8_line 12 = .ok (.ireturn, 1) := by decide +kernel
theorem dX8_line_13 : decode cX8_line 13 = .ok (.aload_n 0, 1) := by decide +kernel
theorem dX8_line_14 : decode cX8_line 14 = .ok (.ldc2_w 241, 3) := by decide +kernel
theorem dX8_line_17 : decode cX8_line 17 = .ok (.invokevirtual 192, 3) := by decide +kernel
theorem dX8_line_20 : decode cX8_line 20 = .ok (.ifCond .eq 24, 3) := by decide +kernel
theorem dX8_line_23 : decode cX8_line 23 = .ok (.aload_n 0, 1) := by decide +kernel
theorem dX8_line_24 : decode cX8_line 24 = .ok (.getfield 34, 3) := by decide +kernel
theorem dX8_line_27 : decode cX8_line 27 = .ok (.aload_n 0, 1) := by decide +kernel
theorem dX8_line_28 : decode cX8_line 28 = .ok (.getfield 200, 3) := by decide +kernel
theorem dX8_line_31 : decode cX8_line 31 = .ok (.bipush 7, 2) := by decide +kernel
theorem dX8_line_33 : decode cX8_line 33 = .ok (.iastore, 1) := by decide +kernel
theorem dX8_line_34 : decode cX8_line 34 = .ok (.aload_n 0, 1) := by decide +kernel
theorem dX8_line_35 : decode cX8_line 35 = .ok (.invokevirtual 180, 3) := by decide +kernel
theorem dX8_line_38 : decode cX8_line 38 = .ok (.aload_n 0, 1) := by decide +kernel
theorem dX8_line_39 : decode cX8_line 39 = .ok (.iconst 0, 1) := by decide +kernel
theorem dX8_line_40 : decode cX8_line 40 = .ok (.invokevirtual 205, 3) := by decide +kernel
theorem dX8_line_43 : decode cX8_line 43 = .ok (.ireturn, 1) := by decide +kernel
theorem dX8_line_44 : decode cX8_line 44 = .ok (.aload_n 0, 1) := by decide +kernel
theorem dX8_line_45 : decode cX8_line 45 = .ok (.getfield 34, 3) := by decide +kernel
theorem dX8_line_48 : decode cX8_line 48 = .ok (.aload_n 0, 1) := by decide +kernel
theorem dX8_line_49 : decode cX8_line 49 = .ok (.getfield 200, 3) := by decide +kernel
theorem dX8_line_52 : decode cX8_line 52 = .ok (.bipush 8, 2) := by decide +kernel
theorem dX8_line_54 : decode cX8_line 54 = .ok (.iastore, 1) := by decide +kernel
theorem dX8_line_55 : decode cX8_line 55 = .ok (.aload_n 0, 1) := by decide +kernel
theorem dX8_line_56 : decode cX8_line 56 = .ok (.ldc2_w 243, 3) := by decide +kernel
theorem dX8_line_59 : decode cX8_line 59 = .ok (.invokevirtual 210, 3) := by decide +kernel
theorem dX8_line_62 : decode cX8_line 62 = .ok (.ireturn, 1) := by decide +kernel
theorem dX8_does_0 : decode cX8_does 0 = .ok (.aload_n 0, 1) := by decide +kernel
theorem dX8_does_1 : decode cX8_does 1 = .ok (.getfield 37, 3) := by decide +kernel
theorem dX8_does_4 : decode cX8_does 4 = .ok (.iconst 4, 1) := by decide +kernel
theorem dX8_does_5 : decode cX8_does 5 = .ok (.iload_n 1, 1) := by decide +kernel
theorem dX8_does_6 : decode cX8_does 6 = .ok (.imul, 1) := by decide +kernel
theorem dX8_does_7 : decode cX8_does 7 = .ok (.iaload, 1) := by decide +kernel
theorem dX8_does_8 : decode cX8_does 8 = .ok (.istore_n 2, 1) := by decide +kernel
theorem dX8_does_9 : decode cX8_does 9 = .ok (.aload_n 0, 1) := by decide +kernel
theorem dX8_does_10 : decode cX8_does 10 = .ok (.getfield 37, 3) := by decide +kernel
theorem dX8_does_13 : decode cX8_does 13 = .ok (.iconst 4, 1) := by decide +kernel
theorem dX8_does_14 : decode cX8_does 14 = .ok (.iload_n 1, 1) := by decide +kernel
theorem dX8_does_15 : decode cX8_does 15 = .ok (.imul, 1) := by decide +kernel
theorem dX8_does_16 : decode cX8_does 16 = .ok (.iconst 1, 1) := by decide +kernel
theorem dX8_does_17 : decode cX8_does 17 = .ok (.iadd, 1) := by decide +kernel
theorem dX8_does_18 : decode cX8_does 18 = .ok (.iaload, 1) := by decide +kernel
theorem dX8_does_19 : decode cX8_does 19 = .ok (.istore_n 3, 1) := by decide +kernel
theorem dX8_does_20 : decode cX8_does 20 = .ok (.aload_n 0, 1) := by decide +kernel
theorem dX8_does_21 : decode cX8_does 21 = .ok (.getfield 37, 3) := by decide +kernel
theorem dX8_does_24 : decode cX8_does 24 = .ok (.iconst 4, 1) := by decide +kernel
theorem dX8_does_25 : decode cX8_does 25 = .ok (.iload_n 1, 1) := by decide +kernel
theorem dX8_does_26 : decode cX8_does 26 = .ok (.imul, 1) := by decide +kernel
theorem dX8_does_27 : decode cX8_does 27 = .ok (.iconst 2, 1) := by decide +kernel
theorem dX8_does_28 : decode cX8_does 28 = .ok (.iadd, 1) := by decide +kernel
theorem dX8_does_29 : decode cX8_does 29 = .ok (.iaload, 1) := by decide +kernel
theorem dX8_does_30 : decode cX8_does 30 = .ok (.istore 4, 2) := by decide +kernel
theorem dX8_does_32 : decode cX8_does 32 = .ok (.aload_n 0, 1) := by decide +kernel
theorem dX8_does_33 : decode cX8_does 33 = .ok (.getfield 34, 3) := by decide +kernel
theorem dX8_does_36 : decode cX8_does 36 = .ok (.iload_n 1, 1) := by decide +kernel
theorem dX8_does_37 : decode cX8_does 37 = .ok (.iaload, 1) := by decide +kernel
theorem dX8_does_38 : decode cX8_does 38 = .ok (.tableswitch 128 0 7 #[46, 55, 74, 81, 88, 95, 104, 113], 46) := by decide +kernel
theorem dX8_does_84 : decode cX8_does 84 = .ok (.aload_n 0, 1) := by decide +kernel
theorem dX8_does_85 : decode cX8_does 85 = .ok (.iload_n 2, 1) := by decide +kernel
theorem dX8_does_86 : decode cX8_does 86 = .ok (.iload_n 3, 1) := by decide +kernel
theorem dX8_does_87 : decode cX8_does 87 = .ok (.iload 4, 2) := by decide +kernel
theorem dX8_does_89 : decode cX8_does 89 = .ok (.invokevirtual 245, 3) := by decide +kernel
theorem dX8_does_92 : decode cX8_does 92 = .ok (.ireturn, 1) := by decide +kernel
theorem dX8_does_93 : decode cX8_does 93 = .ok (.aload_n 0, 1) := by decide +kernel
theorem dX8_does_94 : decode cX8_does 94 = .ok (.iload_n 2, 1) := by decide +kernel
theorem dX8_does_95 : decode cX8_does 95 = .ok (.iload_n 3, 1) := by decide +kernel
theorem dX8_does_96 : decode cX8_does 96 = .ok (.iload 4, 2) := by decide +kernel
theorem dX8_does_98 : decode cX8_does 98 = .ok (.aload_n 0, 1) := by decide +kernel
theorem dX8_does_99 : decode cX8_does 99 = .ok (.getfield 37, 3) := by decide +kernel
theorem dX8_does_102 : decode cX8_does 102 = .ok (.iconst 4, 1) := by decide +kernel
theorem dX8_does_103 : decode cX8_does 103 = .ok (.iload_n 1, 1) := by decide +kernel
theorem dX8_does_104 : decode cX8_does 104 = .ok (.imul, 1) := by decide +kernel
theorem dX8_does_105 : decode cX8_does 105 = .ok (.iconst 3, 1) := by decide +kernel
theorem dX8_does_106 : decode cX8_does 106 = .ok (.iadd, 1) := by decide +kernel
theorem dX8_does_107 : decode cX8_does 107 = .ok (.iaload, 1) := by decide +kernel
theorem dX8_does_108 : decode cX8_does 108 = .ok (.invokevirtual 249, 3) := by decide +kernel
theorem dX8_does_111 : decode cX8_does 111 = .ok (.ireturn, 1) := by decide +kernel
theorem dX8_does_112 : decode cX8_does 112 = .ok (.aload_n 0, 1) := by decide +kernel
theorem dX8_does_113 : decode cX8_does 113 = .ok (.iload_n 2, 1) := by decide +kernel
theorem dX8_does_114 : decode cX8_does 114 = .ok (.iload_n 3, 1) := by decide +kernel
theorem dX8_does_115 : decode cX8_does 115 = .ok (.invokevirtual 252, 3) := by decide +kernel
theorem dX8_does_118 : decode cX8_does 118 = .ok (.ireturn, 1) := by decide +kernel
theorem dX8_does_119 : decode cX8_does 119 = .ok (.aload_n 0, 1) := by decide +kernel
theorem dX8_does_120 : decode cX8_does 120 = .ok (.iload_n 2, 1) := by decide +kernel
theorem dX8_does_121 : decode cX8_does 121 = .ok (.iload_n 3, 1) := by decide +kernel
theorem dX8_does_122 : decode cX8_does 122 = .ok (.invokevirtual 255, 3) := by decide +kernel
theorem dX8_does_125 : decode cX8_does 125 = .ok (.ireturn, 1) := by decide +kernel
theorem dX8_does_126 : decode cX8_does 126 = .ok (.aload_n 0, 1) := by decide +kernel
theorem dX8_does_127 : decode cX8_does 127 = .ok (.iload_n 2, 1) := by decide +kernel
theorem dX8_does_128 : decode cX8_does 128 = .ok (.iload_n 3, 1) := by decide +kernel
theorem dX8_does_129 : decode cX8_does 129 = .ok (.invokevirtual 258, 3) := by decide +kernel
theorem dX8_does_132 : decode cX8_does 132 = .ok (.ireturn, 1) := by decide +kernel
theorem dX8_does_133 : decode cX8_does 133 = .ok (.aload_n 0, 1) := by decide +kernel
theorem dX8_does_134 : decode cX8_does 134 = .ok (.iload_n 2, 1) := by decide +kernel
theorem dX8_does_135 : decode cX8_does 135 = .ok (.iload_n 3, 1) := by decide +kernel
theorem dX8_does_136 : decode cX8_does 136 = .ok (.iload 4, 2) := by decide +kernel
theorem dX8_does_138 : decode cX8_does 138 = .ok (.invokevirtual 261, 3) := by decide +kernel
theorem dX8_does_141 : decode cX8_does 141 = .ok (.ireturn, 1) := by decide +kernel
theorem dX8_does_142 : decode cX8_does 142 = .ok (.aload_n 0, 1) := by decide +kernel
theorem dX8_does_143 : decode cX8_does 143 = .ok (.iload_n 2, 1) := by decide +kernel
theorem dX8_does_144 : decode cX8_does 144 = .ok (.iload_n 3, 1) := by decide +kernel
theorem dX8_does_145 : decode cX8_does 145 = .ok (.iload 4, 2) := by decide +kernel
theorem dX8_does_147 : decode cX8_does 147 = .ok (.invokevirtual 264, 3) := by decide +kernel
theorem dX8_does_150 : decode cX8_does 150 = .ok (.ireturn, 1) := by decide +kernel
theorem dX8_does_151 : decode cX8_does 151 = .ok (.aload_n 0, 1) := by decide +kernel
theorem dX8_does_152 : decode cX8_does 152 = .ok (.iload_n 2, 1) := by decide +kernel
theorem dX8_does_153 : decode cX8_does 153 = .ok (.invokevirtual 267, 3) := by decide +kernel
theorem dX8_does_156 : decode cX8_does 156 = .ok (.iconst (-1), 1) := by decide +kernel
theorem dX8_does_157 : decode cX8_does 157 = .ok (.if_icmp .ne 7, 3) := by decide +kernel
theorem dX8_does_160 : decode cX8_does 160 = .ok (.iconst 1, 1) := by decide +kernel
theorem dX8_does_161 : decode cX8_does 161 = .ok (.goto 4, 3) := by decide +kernel
theorem dX8_does_164 : decode cX8_does 164 = .ok (.iconst 0, 1) := by decide +kernel
theorem dX8_does_165 : decode cX8_does 165 = .ok (.ireturn, 1) := by decide +kernel
theorem dX8_does_166 : decode cX8_does 166 = .ok (.aload_n 0, 1) := by decide +kernel
theorem dX8_does_167 : decode cX8_does 167 = .ok (.invokevirtual 270, 3) := by decide +kernel
theorem dX8_does_170 : decode cX8_does 170 = .ok (.iconst (-1), 1) := by decide +kernel
theorem dX8_does_171 : decode cX8_does 171 = .ok (.if_icmp .ne 7, 3) := by decide +kernel
theorem dX8_does_174 : decode cX8_does 174 = .ok (.iconst 2, 1) := by decide +kernel
theorem dX8_does_175 : decode cX8_does 175 = .ok (.goto 4, 3) := by decide +kernel
theorem dX8_does_178 : decode cX8_does 178 = .ok (.iconst 0, 1) := by decide +kernel
theorem dX8_does_179 : decode cX8_does 179 = .ok (.ireturn, 1) := by decide +kernel
theorem dX8_text_0 : decode cX8_text 0 = .ok (.aload_n 0, 1) := by decide +kernel
theorem dX8_text_1 : decode cX8_text 1 = .ok (.iload_n 1, 1) := by decide +kernel
theorem dX8_text_2 : decode cX8_text 2 = .ok (.invokevirtual 274, 3) := by decide +kernel
theorem dX8_text_5 : decode cX8_text 5 = .ok (.ifCond .ne 5, 3) := by decide +kernel
theorem dX8_text_8 : decode cX8_text 8 = .ok (.iconst (-1), 1) := by decide +kernel
theorem dX8_text_9 : decode cX8_text 9 = .ok (.ireturn, 1) := by decide +kernel
theorem dX8_text_10 : decode cX8_text 10 = .ok (.aload_n 0, 1) := by decide +kernel
theorem dX8_text_11 : decode cX8_text 11 = .ok (.iconst 0, 1) := by decide +kernel
theorem dX8_text_12 : decode cX8_text 12 = .ok (.putfield 200, 3) := by decide +kernel
theorem dX8_text_15 : decode cX8_text 15 = .ok (.aload_n 0, 1) := by decide +kernel
theorem dX8_text_16 : decode cX8_text 16 = .ok (.getfield 162, 3) := by decide +kernel
theorem dX8_text_19 : decode cX8_text 19 = .ok (.ifCond .eq 58, 3) := by decide +kernel
theorem dX8_text_22 : decode cX8_text 22 = .ok (.aload_n 0, 1) := by decide +kernel
theorem dX8_text_23 : decode cX8_text 23 = .ok (.invokevirtual 277, 3) := by decide +kernel
theorem dX8_text_26 : decode cX8_text 26 = .ok (.ifCond .ne 11, 3) := by decide +kernel
theorem dX8_text_29 : decode cX8_text 29 = .ok (.bipush (-2), 2) := by decide +kernel
theorem dX8_text_31 : decode cX8_text 31 = .ok (.aload_n 0, 1) := by decide +kernel
theorem dX8_text_32 : decode cX8_text 32 = .ok (.getfield 177, 3) := by decide +kernel
theorem dX8_text_35 : decode cX8_text 35 = .ok (.isub, 1) := by decide +kernel
theorem dX8_text_36 : decode cX8_text 36 = .ok (.ireturn, 1) := by decide +kernel
theorem dX8_text_37 : decode cX8_text 37 = .ok (.aload_n 0, 1) := by decide +kernel
theorem dX8_text_38 : decode cX8_text 38 = .ok (.bipush 59, 2) := by decide +kernel
theorem dX8_text_40 : decode cX8_text 40 = .ok (.invokevirtual 213, 3) := by decide +kernel
theorem dX8_text_43 : decode cX8_text 43 = .ok (.ifCond .ne 17, 3) := by decide +kernel
theorem dX8_text_46 : decode cX8_text 46 = .ok (.aload_n 0, 1) := by decide +kernel
theorem dX8_text_47 : decode cX8_text 47 = .ok (.iconst 1, 1) := by decide +kernel
theorem dX8_text_48 : decode cX8_text 48 = .ok (.invokevirtual 186, 3) := by decide +kernel
theorem dX8_text_51 : decode cX8_text 51 = .ok (.pop, 1) := by decide +kernel
theorem dX8_text_52 : decode cX8_text 52 = .ok (.bipush (-2), 2) := by decide +kernel
theorem dX8_text_54 : decode cX8_text 54 = .ok (.aload_n 0, 1) := by decide +kernel
theorem dX8_text_55 : decode cX8_text 55 = .ok (.getfield 177, 3) := by decide +kernel
theorem dX8_text_58 : decode cX8_text 58 = .ok (.isub, 1) := by decide +kernel
theorem dX8_text_59 : decode cX8_text 59 = .ok (.ireturn, 1) := by decide +kernel
theorem dX8_text_60 : decode cX8_text 60 = .ok (.aload_n 0, 1) := by decide +kernel
theorem dX8_text_61 : decode cX8_text 61 = .ok (.invokevirtual 180, 3) := by decide +kernel
theorem dX8_text_64 : decode cX8_text 64 = .ok (.aload_n 0, 1) := by decide +kernel
theorem dX8_text_65 : decode cX8_text 65 = .ok (.dup, 1) := by decide +kernel
theorem dX8_text_66 : decode cX8_text 66 = .ok (.getfield 200, 3) := by decide +kernel
theorem dX8_text_69 : decode cX8_text 69 = .ok (.iconst 1, 1) := by decide +kernel
theorem dX8_text_70 : decode cX8_text 70 = .ok (.iadd, 1) := by decide +kernel
theorem dX8_text_71 : decode cX8_text 71 = .ok (.putfield 200, 3) := by decide +kernel
theorem dX8_text_74 : decode cX8_text 74 = .ok (.goto (-59), 3) := by decide +kernel
theorem dX8_text_77 : decode cX8_text 77 = .ok (.aload_n 0, 1) := by decide +kernel
theorem dX8_text_78 : decode cX8_text 78 = .ok (.iconst 1, 1) := by decide +kernel
theorem dX8_text_79 : decode cX8_text 79 = .ok (.putfield 280, 3) := by decide +kernel
theorem dX8_text_82 : decode cX8_text 82 = .ok (.aload_n 0, 1) := by decide +kernel
theorem dX8_text_83 : decode cX8_text 83 = .ok (.getfield 40, 3) := by decide +kernel
theorem dX8_text_86 : decode cX8_text 86 = .ok (.iconst 0, 1) := by decide +kernel
theorem dX8_text_87 : decode cX8_text 87 = .ok (.aload_n 0, 1) := by decide +kernel
theorem dX8_text_88 : decode cX8_text 88 = .ok (.getfield 200, 3) := by decide +kernel
theorem dX8_text_91 : decode cX8_text 91 = .ok (.iastore, 1) := by decide +kernel
theorem dX8_text_92 : decode cX8_text 92 = .ok (.aload_n 0, 1) := by decide +kernel
theorem dX8_text_93 : decode cX8_text 93 = .ok (.getfield 40, 3) := by decide +kernel
theorem dX8_text_96 : decode cX8_text 96 = .ok (.iconst 1, 1) := by decide +kernel
theorem dX8_text_97 : decode cX8_text 97 = .ok (.iconst 0, 1) := by decide +kernel
theorem dX8_text_98 : decode cX8_text 98 = .ok (.iastore, 1) := by decide +kernel
theorem dX8_text_99 : decode cX8_text 99 = .ok (.aload_n 0, 1) := by decide +kernel
theorem dX8_text_100 : decode cX8_text 100 = .ok (.getfield 40, 3) := by decide +kernel
theorem dX8_text_103 : decode cX8_text 103 = .ok (.iconst 2, 1) := by decide +kernel
theorem dX8_text_104 : decode cX8_text 104 = .ok (.iconst (-1), 1) := by decide +kernel
theorem dX8_text_105 : decode cX8_text 105 = .ok (.iastore, 1) := by decide +kernel
theorem dX8_text_106 : decode cX8_text 106 = .ok (.aload_n 0, 1) := by decide +kernel
theorem dX8_text_107 : decode cX8_text 107 = .ok (.getfield 40, 3) := by decide +kernel
theorem dX8_text_110 : decode cX8_text 110 = .ok (.iconst 3, 1) := by decide +kernel
theorem dX8_text_111 : decode cX8_text 111 = .ok (.iconst 0, 1) := by decide +kernel
theorem dX8_text_112 : decode cX8_text 112 = .ok (.iastore, 1) := by decide +kernel
theorem dX8_text_113 : decode cX8_text 113 = .ok (.iconst 0, 1) := by decide +kernel
theorem dX8_text_114 : decode cX8_text 114 = .ok (.istore_n 2, 1) := by decide +kernel
theorem dX8_text_115 : decode cX8_text 115 = .ok (.iload_n 2, 1) := by decide +kernel
theorem dX8_text_116 : decode cX8_text 116 = .ok (.aload_n 0, 1) := by decide +kernel
theorem dX8_text_117 : decode cX8_text 117 = .ok (.getfield 200, 3) := by decide +kernel
theorem dX8_text_120 : decode cX8_text 120 = .ok (.if_icmp .ge 79, 3) := by decide +kernel
theorem dX8_text_123 : decode cX8_text 123 = .ok (.aload_n 0, 1) := by decide +kernel
theorem dX8_text_124 : decode cX8_text 124 = .ok (.iload_n 2, 1) := by decide +kernel
theorem dX8_text_125 : decode cX8_text 125 = .ok (.invokevirtual 284, 3) := by decide +kernel
theorem dX8_text_128 : decode cX8_text 128 = .ok (.istore_n 3, 1) := by decide +kernel
theorem dX8_text_129 : decode cX8_text 129 = .ok (.iload_n 3, 1) := by decide +kernel
theorem dX8_text_130 : decode cX8_text 130 = .ok (.ifCond .eq 63, 3) := by decide +kernel
theorem dX8_text_133 : decode cX8_text 133 = .ok (.aload_n 0, 1) := by decide +kernel
theorem dX8_text_134 : decode cX8_text 134 = .ok (.getfield 40, 3) := by decide +kernel
theorem dX8_text_137 : decode cX8_text 137 = .ok (.iconst 2, 1) := by decide +kernel
theorem dX8_text_138 : decode cX8_text 138 = .ok (.aload_n 0, 1) := by decide +kernel
theorem dX8_text_139 : decode cX8_text 139 = .ok (.getfield 40, 3) := by decide +kernel
theorem dX8_text_142 : decode cX8_text 142 = .ok (.iconst 1, 1) := by decide +kernel
theorem dX8_text_143 : decode cX8_text 143 = .ok (.iaload, 1) := by decide +kernel
theorem dX8_text_144 : decode cX8_text 144 = .ok (.ifCond .ne 7, 3) := by decide +kernel
theorem dX8_text_147 : decode cX8_text 147 = .ok (.iload_n 2, 1) := by decide +kernel
theorem dX8_text_148 : decode cX8_text 148 = .ok (.goto 9, 3) := by decide +kernel
theorem dX8_text_151 : decode cX8_text 151 = .ok (.aload_n 0, 1) := by decide +kernel
theorem dX8_text_152 : decode cX8_text 152 = .ok (.getfield 40, 3) := by decide +kernel
theorem dX8_text_155 : decode cX8_text 155 = .ok (.iconst 2, 1) := by decide +kernel
theorem dX8_text_156 : decode cX8_text 156 = .ok (.iaload, 1) := by decide +kernel
theorem dX8_text_157 : decode cX8_text 157 = .ok (.iastore, 1) := by decide +kernel
theorem dX8_text_158 : decode cX8_text 158 = .ok (.aload_n 0, 1) := by decide +kernel
theorem dX8_text_159 : decode cX8_text 159 = .ok (.getfield 40, 3) := by decide +kernel
theorem dX8_text_162 : decode cX8_text 162 = .ok (.iconst 3, 1) := by decide +kernel
theorem dX8_text_163 : decode cX8_text 163 = .ok (.aload_n 0, 1) := by decide +kernel
theorem dX8_text_164 : decode cX8_text 164 = .ok (.getfield 40, 3) := by decide +kernel
theorem dX8_text_167 : decode cX8_text 167 = .ok (.iconst 1, 1) := by decide +kernel
theorem dX8_text_168 : decode cX8_text 168 = .ok (.iaload, 1) := by decide +kernel
theorem dX8_text_169 : decode cX8_text 169 = .ok (.ifCond .ne 7, 3) := by decide +kernel
theorem dX8_text_172 : decode cX8_text 172 = .ok (.iload_n 3, 1) := by decide +kernel
theorem dX8_text_173 : decode cX8_text 173 = .ok (.goto 9, 3) := by decide +kernel
theorem dX8_text_176 : decode cX8_text 176 = .ok (.aload_n 0, 1) := by decide +kernel
theorem dX8_text_177 : decode cX8_text 177 = .ok (.getfield 40, 3) := by decide +kernel
theorem dX8_text_180 : decode cX8_text 180 = .ok (.iconst 3, 1) := by decide +kernel
theorem dX8_text_181 : decode cX8_text 181 = .ok (.iaload, 1) := by decide +kernel
theorem dX8_text_182 : decode cX8_text 182 = .ok (.iastore, 1) := by decide +kernel
theorem dX8_text_183 : decode cX8_text 183 = .ok (.aload_n 0, 1) := by decide +kernel
theorem dX8_text_184 : decode cX8_text 184 = .ok (.getfield 40, 3) := by decide +kernel
theorem dX8_text_187 : decode cX8_text 187 = .ok (.iconst 1, 1) := by decide +kernel
theorem dX8_text_188 : decode cX8_text 188 = .ok (.dup2, 1) := by decide +kernel
theorem dX8_text_189 : decode cX8_text 189 = .ok (.iaload, 1) := by decide +kernel
theorem dX8_text_190 : decode cX8_text 190 = .ok (.iconst 1, 1) := by decide +kernel
theorem dX8_text_191 : decode cX8_text 191 = .ok (.iadd, 1) := by decide +kernel
theorem dX8_text_192 : decode cX8_text 192 = .ok (.iastore, 1) := by decide +kernel
theorem dX8_text_193 : decode cX8_text 193 = .ok (.iinc 2 1, 3) := by decide +kernel
theorem dX8_text_196 : decode cX8_text 196 = .ok (.goto (-81), 3) := by decide +kernel
theorem dX8_text_199 : decode cX8_text 199 = .ok (.aload_n 0, 1) := by decide +kernel
theorem dX8_text_200 : decode cX8_text 200 = .ok (.getfield 200, 3) := by decide +kernel
theorem dX8_text_203 : decode cX8_text 203 = .ok (.aload_n 0, 1) := by decide +kernel
theorem dX8_text_204 : decode cX8_text 204 = .ok (.getfield 40, 3) := by decide +kernel
theorem dX8_text_207 : decode cX8_text 207 = .ok (.iconst 1, 1) := by decide +kernel
theorem dX8_text_208 : decode cX8_text 208 = .ok (.iaload, 1) := by decide +kernel
theorem dX8_text_209 : decode cX8_text 209 = .ok (.isub, 1) := by decide +kernel
theorem dX8_text_210 : decode cX8_text 210 = .ok (.ireturn, 1) := by decide +kernel
theorem dX8_ran_0 : decode cX8_ran 0 = .ok (.aload_n 0, 1) := by decide +kernel
theorem dX8_ran_1 : decode cX8_ran 1 = .ok (.iconst 0, 1) := by decide +kernel
theorem dX8_ran_2 : decode cX8_ran 2 = .ok (.putfield 1, 3) := by decide +kernel
theorem dX8_ran_5 : decode cX8_ran 5 = .ok (.aload_n 0, 1) := by decide +kernel
theorem dX8_ran_6 : decode cX8_ran 6 = .ok (.getfield 280, 3) := by decide +kernel
theorem dX8_ran_9 : decode cX8_ran 9 = .ok (.ifCond .eq 24, 3) := by decide +kernel
theorem dX8_ran_12 : decode cX8_ran 12 = .ok (.iload_n 1, 1) := by decide +kernel
theorem dX8_ran_13 : decode cX8_ran 13 = .ok (.i2l, 1) := by decide +kernel
theorem dX8_ran_14 : decode cX8_ran 14 = .ok (.lconst 0, 1) := by decide +kernel
theorem dX8_ran_15 : decode cX8_ran 15 = .ok (.ldc2_w 287, 3) := by decide +kernel
theorem dX8_ran_18 : decode cX8_ran 18 = .ok (.invokestatic 60, 3) := by decide +kernel
theorem dX8_ran_21 : decode cX8_ran 21 = .ok (.ifCond .eq 12, 3) := by decide +kernel
theorem dX8_ran_24 : decode cX8_ran 24 = .ok (.aload_n 0, 1) := by decide +kernel
theorem dX8_ran_25 : decode cX8_ran 25 = .ok (.getfield 40, 3) := by decide +kernel
theorem dX8_ran_28 : decode cX8_ran 28 = .ok (.iload_n 1, 1) := by decide +kernel
theorem dX8_ran_29 : decode cX8_ran 29 = .ok (.iaload, 1) := by decide +kernel
theorem dX8_ran_30 : decode cX8_ran 30 = .ok (.goto 4, 3) := by decide +kernel
theorem dX8_ran_33 : decode cX8_ran 33 = .ok (.iconst (-1), 1) := by decide +kernel
theorem dX8_ran_34 : decode cX8_ran 34 = .ok (.ireturn, 1) := by decide +kernel
theorem dX8_code_0 : decode cX8_code 0 = .ok (.aload_n 0, 1) := by decide +kernel
theorem dX8_code_1 : decode cX8_code 1 = .ok (.getfield 43, 3) := by decide +kernel
theorem dX8_code_4 : decode cX8_code 4 = .ok (.aload_n 0, 1) := by decide +kernel
theorem dX8_code_5 : decode cX8_code 5 = .ok (.getfield 289, 3) := by decide +kernel
theorem dX8_code_8 : decode cX8_code 8 = .ok (.sipush 1000, 3) := by decide +kernel
theorem dX8_code_11 : decode cX8_code 11 = .ok (.iload_n 1, 1) := by decide +kernel
theorem dX8_code_12 : decode cX8_code 12 = .ok (.imul, 1) := by decide +kernel
theorem dX8_code_13 : decode cX8_code 13 = .ok (.iload_n 2, 1) := by decide +kernel
theorem dX8_code_14 : decode cX8_code 14 = .ok (.iadd, 1) := by decide +kernel
theorem dX8_code_15 : decode cX8_code 15 = .ok (.iastore, 1) := by decide +kernel
theorem dX8_code_16 : decode cX8_code 16 = .ok (.aload_n 0, 1) := by decide +kernel
theorem dX8_code_17 : decode cX8_code 17 = .ok (.dup, 1) := by decide +kernel
theorem dX8_code_18 : decode cX8_code 18 = .ok (.getfield 289, 3) := by decide +kernel
theorem dX8_code_21 : decode cX8_code 21 = .ok (.iconst 1, 1) := by decide +kernel
theorem dX8_code_22 : decode cX8_code 22 = .ok (.iadd, 1) := by decide +kernel
theorem dX8_code_23 : decode cX8_code 23 = .ok (.putfield 289, 3) := by decide +kernel
theorem dX8_code_26 : decode cX8_code 26 = .ok (.return_, 1) := by decide +kernel
theorem dX8_field_0 : decode cX8_field 0 = .ok (.aload_n 0, 1) := by decide +kernel
theorem dX8_field_1 : decode cX8_field 1 = .ok (.getfield 292, 3) := by decide +kernel
theorem dX8_field_4 : decode cX8_field 4 = .ok (.ifCond .eq 75, 3) := by decide +kernel
theorem dX8_field_7 : decode cX8_field 7 = .ok (.aload_n 0, 1) := by decide +kernel
theorem dX8_field_8 : decode cX8_field 8 = .ok (.ldc2_w 295, 3) := by decide +kernel
theorem dX8_field_11 : decode cX8_field 11 = .ok (.invokevirtual 192, 3) := by decide +kernel
theorem dX8_field_14 : decode cX8_field 14 = .ok (.ifCond .eq 7, 3) := by decide +kernel
theorem dX8_field_17 : decode cX8_field 17 = .ok (.iconst 0, 1) := by decide +kernel
theorem dX8_field_18 : decode cX8_field 18 = .ok (.goto 60, 3) := by decide +kernel
theorem dX8_field_21 : decode cX8_field 21 = .ok (.aload_n 0, 1) := by decide +kernel
theorem dX8_field_22 : decode cX8_field 22 = .ok (.ldc2_w 297, 3) := by decide +kernel
theorem dX8_field_25 : decode cX8_field 25 = .ok (.invokevirtual 192, 3) := by decide +kernel
theorem dX8_field_28 : decode cX8_field 28 = .ok (.ifCond .eq 7, 3) := by decide +kernel
theorem dX8_field_31 : decode cX8_field 31 = .ok (.iconst 1, 1) := by decide +kernel
theorem dX8_field_32 : decode cX8_field 32 = .ok (.goto 46, 3) := by decide +kernel
theorem dX8_field_35 : decode cX8_field 35 = .ok (.aload_n 0, 1) := by decide +kernel
theorem dX8_field_36 : decode cX8_field 36 = .ok (.ldc2_w 299, 3) := by decide +kernel
theorem dX8_field_39 : decode cX8_field 39 = .ok (.invokevirtual 192, 3) := by decide +kernel
theorem dX8_field_42 : decode cX8_field 42 = .ok (.ifCond .eq 7, 3) := by decide +kernel
theorem dX8_field_45 : decode cX8_field 45 = .ok (.iconst 2, 1) := by decide +kernel
theorem dX8_field_46 : decode cX8_field 46 = .ok (.goto 32, 3) := by decide +kernel
theorem dX8_field_49 : decode cX8_field 49 = .ok (.aload_n 0, 1) := by decide +kernel
theorem dX8_field_50 : decode cX8_field 50 = .ok (.ldc2_w 301, 3) := by decide +kernel
theorem dX8_field_53 : decode cX8_field 53 = .ok (.invokevirtual 192, 3) := by decide +kernel
theorem dX8_field_56 : decode cX8_field 56 = .ok (.ifCond .eq 7, 3) := by decide +kernel
theorem dX8_field_59 : decode cX8_field 59 = .ok (.iconst 3, 1) := by decide +kernel
theorem dX8_field_60 : decode cX8_field 60 = .ok (.goto 18, 3) := by decide +kernel
theorem dX8_field_63 : decode cX8_field 63 = .ok (.aload_n 0, 1) := by decide +kernel
theorem dX8_field_64 : decode cX8_field 64 = .ok (.ldc2_w 303, 3) := by decide +kernel
theorem dX8_field_67 : decode cX8_field 67 = .ok (.invokevirtual 192, 3) := by decide +kernel
theorem dX8_field_70 : decode cX8_field 70 = .ok (.ifCond .eq 7, 3) := by decide +kernel
theorem dX8_field_73 : decode cX8_field 73 = .ok (.iconst 4, 1) := by decide +kernel
theorem dX8_field_74 : decode cX8_field 74 = .ok (.goto 4, 3) := by decide +kernel
theorem dX8_field_77 : decode cX8_field 77 = .ok (.iconst (-1), 1) := by decide +kernel
theorem dX8_field_78 : decode cX8_field 78 = .ok (.ireturn, 1) := by decide +kernel
theorem dX8_field_79 : decode cX8_field 79 = .ok (.aload_n 0, 1) := by decide +kernel
theorem dX8_field_80 : decode cX8_field 80 = .ok (.ldc2_w 305, 3) := by decide +kernel
theorem dX8_field_83 : decode cX8_field 83 = .ok (.invokevirtual 192, 3) := by decide +kernel
theorem dX8_field_86 : decode cX8_field 86 = .ok (.ifCond .eq 7, 3) := by decide +kernel
theorem dX8_field_89 : decode cX8_field 89 = .ok (.iconst 0, 1) := by decide +kernel
theorem dX8_field_90 : decode cX8_field 90 = .ok (.goto 74, 3) := by decide +kernel
theorem dX8_field_93 : decode cX8_field 93 = .ok (.aload_n 0, 1) := by decide +kernel
theorem dX8_field_94 : decode cX8_field 94 = .ok (.ldc2_w 307, 3) := by decide +kernel
theorem dX8_field_97 : decode cX8_field 97 = .ok (.invokevirtual 192, 3) := by decide +kernel
theorem dX8_field_100 : decode cX8_field 100 = .ok (.ifCond .eq 7, 3) := by decide +kernel
theorem dX8_field_103 : decode cX8_field 103 = .ok (.iconst 1, 1) := by decide +kernel
theorem dX8_field_104 : decode cX8_field 104 = .ok (.goto 60, 3) := by decide +kernel
theorem dX8_field_107 : decode cX8_field 107 = .ok (.aload_n 0, 1) := by decide +kernel
theorem dX8_field_108 : decode cX8_field 108 = .ok (.ldc2_w 309, 3) := by decide +kernel
theorem dX8_field_111 : decode cX8_field 111 = .ok (.invokevirtual 192, 3) := by decide +kernel
theorem dX8_field_114 : decode cX8_field 114 = .ok (.ifCond .eq 7, 3) := by decide +kernel
theorem dX8_field_117 : decode cX8_field 117 = .ok (.iconst 2, 1) := by decide +kernel
theorem dX8_field_118 : decode cX8_field 118 = .ok (.goto 46, 3) := by decide +kernel
theorem dX8_field_121 : decode cX8_field 121 = .ok (.aload_n 0, 1) := by decide +kernel
theorem dX8_field_122 : decode cX8_field 122 = .ok (.ldc2_w 311, 3) := by decide +kernel
theorem dX8_field_125 : decode cX8_field 125 = .ok (.invokevirtual 192, 3) := by decide +kernel
theorem dX8_field_128 : decode cX8_field 128 = .ok (.ifCond .eq 7, 3) := by decide +kernel
theorem dX8_field_131 : decode cX8_field 131 = .ok (.iconst 3, 1) := by decide +kernel
theorem dX8_field_132 : decode cX8_field 132 = .ok (.goto 32, 3) := by decide +kernel
theorem dX8_field_135 : decode cX8_field 135 = .ok (.aload_n 0, 1) := by decide +kernel
theorem dX8_field_136 : decode cX8_field 136 = .ok (.ldc2_w 203, 3) := by decide +kernel
theorem dX8_field_139 : decode cX8_field 139 = .ok (.invokevirtual 192, 3) := by decide +kernel
theorem dX8_field_142 : decode cX8_field 142 = .ok (.ifCond .eq 7, 3) := by decide +kernel
theorem dX8_field_145 : decode cX8_field 145 = .ok (.iconst 4, 1) := by decide +kernel
theorem dX8_field_146 : decode cX8_field 146 = .ok (.goto 18, 3) := by decide +kernel
theorem dX8_field_149 : decode cX8_field 149 = .ok (.aload_n 0, 1) := by decide +kernel
theorem dX8_field_150 : decode cX8_field 150 = .ok (.ldc2_w 313, 3) := by decide +kernel
theorem dX8_field_153 : decode cX8_field 153 = .ok (.invokevirtual 192, 3) := by decide +kernel
theorem dX8_field_156 : decode cX8_field 156 = .ok (.ifCond .eq 7, 3) := by decide +kernel
theorem dX8_field_159 : decode cX8_field 159 = .ok (.iconst 5, 1) := by decide +kernel
theorem dX8_field_160 : decode cX8_field 160 = .ok (.goto 4, 3) := by decide +kernel
theorem dX8_field_163 : decode cX8_field 163 = .ok (.iconst (-1), 1) := by decide +kernel
theorem dX8_field_164 : decode cX8_field 164 = .ok (.ireturn, 1) := by decide +kernel
theorem dX8_valueHere_0 : decode cX8_valueHere 0 = .ok (.aload_n 0, 1) := by decide +kernel
theorem dX8_valueHere_1 : decode cX8_valueHere 1 = .ok (.getfield 162, 3) := by decide +kernel
theorem dX8_valueHere_4 : decode cX8_valueHere 4 = .ok (.iconst 2, 1) := by decide +kernel
theorem dX8_valueHere_5 : decode cX8_valueHere 5 = .ok (.if_icmp .ne 18, 3) := by decide +kernel
theorem dX8_valueHere_8 : decode cX8_valueHere 8 = .ok (.aload_n 0, 1) := by decide +kernel
theorem dX8_valueHere_9 : decode cX8_valueHere 9 = .ok (.iconst 0, 1) := by decide +kernel
theorem dX8_valueHere_10 : decode cX8_valueHere 10 = .ok (.aload_n 0, 1) := by decide +kernel
theorem dX8_valueHere_11 : decode cX8_valueHere 11 = .ok (.getfield 155, 3) := by decide +kernel
theorem dX8_valueHere_14 : decode cX8_valueHere 14 = .ok (.invokevirtual 315, 3) := by decide +kernel
theorem dX8_valueHere_17 : decode cX8_valueHere 17 = .ok (.aload_n 0, 1) := by decide +kernel
theorem dX8_valueHere_18 : decode cX8_valueHere 18 = .ok (.invokevirtual 180, 3) := by decide +kernel
theorem dX8_valueHere_21 : decode cX8_valueHere 21 = .ok (.iconst 1, 1) := by decide +kernel
theorem dX8_valueHere_22 : decode cX8_valueHere 22 = .ok (.ireturn, 1) := by decide +kernel
theorem dX8_valueHere_23 : decode cX8_valueHere 23 = .ok (.aload_n 0, 1) := by decide +kernel
theorem dX8_valueHere_24 : decode cX8_valueHere 24 = .ok (.invokevirtual 319, 3) := by decide +kernel
theorem dX8_valueHere_27 : decode cX8_valueHere 27 = .ok (.istore_n 1, 1) := by decide +kernel
theorem dX8_valueHere_28 : decode cX8_valueHere 28 = .ok (.iload_n 1, 1) := by decide +kernel
theorem dX8_valueHere_29 : decode cX8_valueHere 29 = .ok (.iconst (-1), 1) := by decide +kernel
theorem dX8_valueHere_30 : decode cX8_valueHere 30 = .ok (.if_icmp .ne 9, 3) := by decide +kernel
theorem dX8_valueHere_33 : decode cX8_valueHere 33 = .ok (.aload_n 0, 1) := by decide +kernel
theorem dX8_valueHere_34 : decode cX8_valueHere 34 = .ok (.iconst 1, 1) := by decide +kernel
theorem dX8_valueHere_35 : decode cX8_valueHere 35 = .ok (.invokevirtual 186, 3) := by decide +kernel
theorem dX8_valueHere_38 : decode cX8_valueHere 38 = .ok (.ireturn, 1) := by decide +kernel
theorem dX8_valueHere_39 : decode cX8_valueHere 39 = .ok (.aload_n 0, 1) := by decide +kernel
theorem dX8_valueHere_40 : decode cX8_valueHere 40 = .ok (.iconst 1, 1) := by decide +kernel
theorem dX8_valueHere_41 : decode cX8_valueHere 41 = .ok (.iload_n 1, 1) := by decide +kernel
theorem dX8_valueHere_42 : decode cX8_valueHere 42 = .ok (.invokevirtual 315, 3) := by decide +kernel
theorem dX8_valueHere_45 : decode cX8_valueHere 45 = .ok (.aload_n 0, 1) := by decide +kernel
theorem dX8_valueHere_46 : decode cX8_valueHere 46 = .ok (.invokevirtual 180, 3) := by decide +kernel
theorem dX8_valueHere_49 : decode cX8_valueHere 49 = .ok (.iconst 1, 1) := by decide +kernel
theorem dX8_valueHere_50 : decode cX8_valueHere 50 = .ok (.ireturn, 1) := by decide +kernel
theorem dX8_sumHere_0 : decode cX8_sumHere 0 = .ok (.aload_n 0, 1) := by decide +kernel
theorem dX8_sumHere_1 : decode cX8_sumHere 1 = .ok (.invokevirtual 322, 3) := by decide +kernel
theorem dX8_sumHere_4 : decode cX8_sumHere 4 = .ok (.ifCond .ne 5, 3) := by decide +kernel
theorem dX8_sumHere_7 : decode cX8_sumHere 7 = .ok (.iconst 0, 1) := by decide +kernel
theorem dX8_sumHere_8 : decode cX8_sumHere 8 = .ok (.ireturn, 1) := by decide +kernel
theorem dX8_sumHere_9 : decode cX8_sumHere 9 = .ok (.aload_n 0, 1) := by decide +kernel
theorem dX8_sumHere_10 : decode cX8_sumHere 10 = .ok (.bipush 43, 2) := by decide +kernel
theorem dX8_sumHere_12 : decode cX8_sumHere 12 = .ok (.invokevirtual 213, 3) := by decide +kernel
theorem dX8_sumHere_15 : decode cX8_sumHere 15 = .ok (.ifCond .ne 12, 3) := by decide +kernel
theorem dX8_sumHere_18 : decode cX8_sumHere 18 = .ok (.aload_n 0, 1) := by decide +kernel
theorem dX8_sumHere_19 : decode cX8_sumHere 19 = .ok (.bipush 45, 2) := by decide +kernel
theorem dX8_sumHere_21 : decode cX8_sumHere 21 = .ok (.invokevirtual 213, 3) := by decide +kernel
theorem dX8_sumHere_24 : decode cX8_sumHere 24 = .ok (.ifCond .eq 40, 3) := by decide +kernel
theorem dX8_sumHere_27 : decode cX8_sumHere 27 = .ok (.aload_n 0, 1) := by decide +kernel
theorem dX8_sumHere_28 : decode cX8_sumHere 28 = .ok (.bipush 43, 2) := by decide +kernel
theorem dX8_sumHere_30 : decode cX8_sumHere 30 = .ok (.invokevirtual 213, 3) := by decide +kernel
theorem dX8_sumHere_33 : decode cX8_sumHere 33 = .ok (.ifCond .eq 7, 3) := by decide +kernel
theorem dX8_sumHere_36 : decode cX8_sumHere 36 = .ok (.iconst 2, 1) := by decide +kernel
theorem dX8_sumHere_37 : decode cX8_sumHere 37 = .ok (.goto 4, 3) := by decide +kernel
theorem dX8_sumHere_40 : decode cX8_sumHere 40 = .ok (.iconst 3, 1) := by decide +kernel
theorem dX8_sumHere_41 : decode cX8_sumHere 41 = .ok (.istore_n 1, 1) := by decide +kernel
theorem dX8_sumHere_42 : decode cX8_sumHere 42 = .ok (.aload_n 0, 1) := by decide +kernel
theorem dX8_sumHere_43 : decode cX8_sumHere 43 = .ok (.invokevirtual 180, 3) := by decide +kernel
theorem dX8_sumHere_46 : decode cX8_sumHere 46 = .ok (.aload_n 0, 1) := by decide +kernel
theorem dX8_sumHere_47 : decode cX8_sumHere 47 = .ok (.invokevirtual 322, 3) := by decide +kernel
theorem dX8_sumHere_50 : decode cX8_sumHere 50 = .ok (.ifCond .ne 5, 3) := by decide +kernel
theorem dX8_sumHere_53 : decode cX8_sumHere 53 = .ok (.iconst 0, 1) := by decide +kernel
theorem dX8_sumHere_54 : decode cX8_sumHere 54 = .ok (.ireturn, 1) := by decide +kernel
theorem dX8_sumHere_55 : decode cX8_sumHere 55 = .ok (.aload_n 0, 1) := by decide +kernel
theorem dX8_sumHere_56 : decode cX8_sumHere 56 = .ok (.iload_n 1, 1) := by decide +kernel
theorem dX8_sumHere_57 : decode cX8_sumHere 57 = .ok (.iconst 0, 1) := by decide +kernel
theorem dX8_sumHere_58 : decode cX8_sumHere 58 = .ok (.invokevirtual 315, 3) := by decide +kernel
theorem dX8_sumHere_61 : decode cX8_sumHere 61 = .ok (.goto (-52), 3) := by decide +kernel
theorem dX8_sumHere_64 : decode cX8_sumHere 64 = .ok (.iconst 1, 1) := by decide +kernel
theorem dX8_sumHere_65 : decode cX8_sumHere 65 = .ok (.ireturn, 1) := by decide +kernel
theorem dX8_compared_0 : decode cX8_compared 0 = .ok (.aload_n 0, 1) := by decide +kernel
theorem dX8_compared_1 : decode cX8_compared 1 = .ok (.invokevirtual 325, 3) := by decide +kernel
theorem dX8_compared_4 : decode cX8_compared 4 = .ok (.ifCond .ne 5, 3) := by decide +kernel
theorem dX8_compared_7 : decode cX8_compared 7 = .ok (.iconst 0, 1) := by decide +kernel
theorem dX8_compared_8 : decode cX8_compared 8 = .ok (.ireturn, 1) := by decide +kernel
theorem dX8_compared_9 : decode cX8_compared 9 = .ok (.aload_n 0, 1) := by decide +kernel
theorem dX8_compared_10 : decode cX8_compared 10 = .ok (.bipush 60, 2) := by decide +kernel
theorem dX8_compared_12 : decode cX8_compared 12 = .ok (.invokevirtual 213, 3) := by decide +kernel
theorem dX8_compared_15 : decode cX8_compared 15 = .ok (.ifCond .eq 7, 3) := by decide +kernel
theorem dX8_compared_18 : decode cX8_compared 18 = .ok (.iconst 4, 1) := by decide +kernel
theorem dX8_compared_19 : decode cX8_compared 19 = .ok (.goto 31, 3) := by decide +kernel
theorem dX8_compared_22 : decode cX8_compared 22 = .ok (.aload_n 0, 1) := by decide +kernel
theorem dX8_compared_23 : decode cX8_compared 23 = .ok (.bipush 61, 2) := by decide +kernel
theorem dX8_compared_25 : decode cX8_compared 25 = .ok (.invokevirtual 213, 3) := by decide +kernel
theorem dX8_compared_28 : decode cX8_compared 28 = .ok (.ifCond .eq 7, 3) := by decide +kernel
theorem dX8_compared_31 : decode cX8_compared 31 = .ok (.iconst 5, 1) := by decide +kernel
theorem dX8_compared_32 : decode cX8_compared 32 = .ok (.goto 18, 3) := by decide +kernel
theorem dX8_compared_35 : decode cX8_compared 35 = .ok (.aload_n 0, 1) := by decide +kernel
theorem dX8_compared_36 : decode cX8_compared 36 = .ok (.bipush 62, 2) := by decide +kernel
theorem dX8_compared_38 : decode cX8_compared 38 = .ok (.invokevirtual 213, 3) := by decide +kernel
theorem dX8_compared_41 : decode cX8_compared 41 = .ok (.ifCond .eq 8, 3) := by decide +kernel
theorem dX8_compared_44 : decode cX8_compared 44 = .ok (.bipush 6, 2) := by decide +kernel
theorem dX8_compared_46 : decode cX8_compared 46 = .ok (.goto 4, 3) := by decide +kernel
theorem dX8_compared_49 : decode cX8_compared 49 = .ok (.iconst (-1), 1) := by decide +kernel
theorem dX8_compared_50 : decode cX8_compared 50 = .ok (.istore_n 1, 1) := by decide +kernel
theorem dX8_compared_51 : decode cX8_compared 51 = .ok (.iload_n 1, 1) := by decide +kernel
theorem dX8_compared_52 : decode cX8_compared 52 = .ok (.iconst (-1), 1) := by decide +kernel
theorem dX8_compared_53 : decode cX8_compared 53 = .ok (.if_icmp .ne 9, 3) := by decide +kernel
theorem dX8_compared_56 : decode cX8_compared 56 = .ok (.aload_n 0, 1) := by decide +kernel
theorem dX8_compared_57 : decode cX8_compared 57 = .ok (.iconst 1, 1) := by decide +kernel
theorem dX8_compared_58 : decode cX8_compared 58 = .ok (.invokevirtual 186, 3) := by decide +kernel
theorem dX8_compared_61 : decode cX8_compared 61 = .ok (.ireturn, 1) := by decide +kernel
theorem dX8_compared_62 : decode cX8_compared 62 = .ok (.aload_n 0, 1) := by decide +kernel
theorem dX8_compared_63 : decode cX8_compared 63 = .ok (.invokevirtual 180, 3) := by decide +kernel
theorem dX8_compared_66 : decode cX8_compared 66 = .ok (.aload_n 0, 1) := by decide +kernel
theorem dX8_compared_67 : decode cX8_compared 67 = .ok (.invokevirtual 325, 3) := by decide +kernel
theorem dX8_compared_70 : decode cX8_compared 70 = .ok (.ifCond .ne 5, 3) := by decide +kernel
theorem dX8_compared_73 : decode cX8_compared 73 = .ok (.iconst 0, 1) := by decide +kernel
theorem dX8_compared_74 : decode cX8_compared 74 = .ok (.ireturn, 1) := by decide +kernel
theorem dX8_compared_75 : decode cX8_compared 75 = .ok (.aload_n 0, 1) := by decide +kernel
theorem dX8_compared_76 : decode cX8_compared 76 = .ok (.iload_n 1, 1) := by decide +kernel
theorem dX8_compared_77 : decode cX8_compared 77 = .ok (.iconst 0, 1) := by decide +kernel
theorem dX8_compared_78 : decode cX8_compared 78 = .ok (.invokevirtual 315, 3) := by decide +kernel
theorem dX8_compared_81 : decode cX8_compared 81 = .ok (.iconst 1, 1) := by decide +kernel
theorem dX8_compared_82 : decode cX8_compared 82 = .ok (.ireturn, 1) := by decide +kernel
theorem dX8_isTop_0 : decode cX8_isTop 0 = .ok (.aload_n 0, 1) := by decide +kernel
theorem dX8_isTop_1 : decode cX8_isTop 1 = .ok (.getfield 328, 3) := by decide +kernel
theorem dX8_isTop_4 : decode cX8_isTop 4 = .ok (.ifCond .le 22, 3) := by decide +kernel
theorem dX8_isTop_7 : decode cX8_isTop 7 = .ok (.aload_n 0, 1) := by decide +kernel
theorem dX8_isTop_8 : decode cX8_isTop 8 = .ok (.getfield 46, 3) := by decide +kernel
theorem dX8_isTop_11 : decode cX8_isTop 11 = .ok (.aload_n 0, 1) := by decide +kernel
theorem dX8_isTop_12 : decode cX8_isTop 12 = .ok (.getfield 328, 3) := by decide +kernel
theorem dX8_isTop_15 : decode cX8_isTop 15 = .ok (.iconst 1, 1) := by decide +kernel
theorem dX8_isTop_16 : decode cX8_isTop 16 = .ok (.isub, 1) := by decide +kernel
theorem dX8_isTop_17 : decode cX8_isTop 17 = .ok (.iaload, 1) := by decide +kernel
theorem dX8_isTop_18 : decode cX8_isTop 18 = .ok (.iload_n 1, 1) := by decide +kernel
theorem dX8_isTop_19 : decode cX8_isTop 19 = .ok (.if_icmp .ne 7, 3) := by decide +kernel
theorem dX8_isTop_22 : decode cX8_isTop 22 = .ok (.iconst 1, 1) := by decide +kernel
theorem dX8_isTop_23 : decode cX8_isTop 23 = .ok (.goto 4, 3) := by decide +kernel
theorem dX8_isTop_26 : decode cX8_isTop 26 = .ok (.iconst 0, 1) := by decide +kernel
theorem dX8_isTop_27 : decode cX8_isTop 27 = .ok (.ireturn, 1) := by decide +kernel
theorem dX8_drops_0 : decode cX8_drops 0 = .ok (.aload_n 0, 1) := by decide +kernel
theorem dX8_drops_1 : decode cX8_drops 1 = .ok (.dup, 1) := by decide +kernel
theorem dX8_drops_2 : decode cX8_drops 2 = .ok (.getfield 328, 3) := by decide +kernel
theorem dX8_drops_5 : decode cX8_drops 5 = .ok (.iconst 1, 1) := by decide +kernel
theorem dX8_drops_6 : decode cX8_drops 6 = .ok (.isub, 1) := by decide +kernel
theorem dX8_drops_7 : decode cX8_drops 7 = .ok (.putfield 328, 3) := by decide +kernel
theorem dX8_drops_10 : decode cX8_drops 10 = .ok (.aload_n 0, 1) := by decide +kernel
theorem dX8_drops_11 : decode cX8_drops 11 = .ok (.aload_n 0, 1) := by decide +kernel

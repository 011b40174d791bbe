theorem dL_draw_0 : decode cL_draw 0 = .ok (.iload_n 1, 1) := by decide +kernel
theorem dL_draw_1 : decode cL_draw 1 = .ok (.aload_n 0, 1) := by decide +kernel
theorem dL_draw_2 : decode cL_draw 2 = .ok (.arraylength, 1) := by decide +kernel
theorem dL_draw_3 : decode cL_draw 3 = .ok (.if_icmp .ge 12, 3) := by decide +kernel
theorem dL_draw_6 : decode cL_draw 6 = .ok (.aload_n 0, 1) := by decide +kernel
theorem dL_draw_7 : decode cL_draw 7 = .ok (.iload_n 1, 1) := by decide +kernel
theorem dL_draw_8 : decode cL_draw 8 = .ok (.iaload, 1) := by decide +kernel
theorem dL_draw_9 : decode cL_draw 9 = .ok (.ldc 7, 2) := by decide +kernel
theorem dL_draw_11 : decode cL_draw 11 = .ok (.iand, 1) := by decide +kernel
theorem dL_draw_12 : decode cL_draw 12 = .ok (.goto 4, 3) := by decide +kernel
theorem dL_draw_15 : decode cL_draw 15 = .ok (.iconst 0, 1) := by decide +kernel
theorem dL_draw_16 : decode cL_draw 16 = .ok (.ireturn, 1) := by decide +kernel
theorem dL_text_0 : decode cL_text 0 = .ok (.new 8, 3) := by decide +kernel
theorem dL_text_3 : decode cL_text 3 = .ok (.dup, 1) := by decide +kernel
theorem dL_text_4 : decode cL_text 4 = .ok (.invokespecial 10, 3) := by decide +kernel
theorem dL_text_7 : decode cL_text 7 = .ok (.astore_n 1, 1) := by decide +kernel
theorem dL_text_8 : decode cL_text 8 = .ok (.iconst 2, 1) := by decide +kernel
theorem dL_text_9 : decode cL_text 9 = .ok (.aload_n 0, 1) := by decide +kernel
theorem dL_text_10 : decode cL_text 10 = .ok (.iconst 4, 1) := by decide +kernel
theorem dL_text_11 : decode cL_text 11 = .ok (.invokevirtual 11, 3) := by decide +kernel
theorem dL_text_14 : decode cL_text 14 = .ok (.iadd, 1) := by decide +kernel
theorem dL_text_15 : decode cL_text 15 = .ok (.istore_n 2, 1) := by decide +kernel
theorem dL_text_16 : decode cL_text 16 = .ok (.iconst 0, 1) := by decide +kernel
theorem dL_text_17 : decode cL_text 17 = .ok (.istore_n 3, 1) := by decide +kernel
theorem dL_text_18 : decode cL_text 18 = .ok (.iload_n 3, 1) := by decide +kernel
theorem dL_text_19 : decode cL_text 19 = .ok (.iload_n 2, 1) := by decide +kernel
theorem dL_text_20 : decode cL_text 20 = .ok (.if_icmp .ge 114, 3) := by decide +kernel
theorem dL_text_23 : decode cL_text 23 = .ok (.aload_n 0, 1) := by decide +kernel
theorem dL_text_24 : decode cL_text 24 = .ok (.iconst 5, 1) := by decide +kernel
theorem dL_text_25 : decode cL_text 25 = .ok (.invokevirtual 11, 3) := by decide +kernel
theorem dL_text_28 : decode cL_text 28 = .ok (.istore 4, 2) := by decide +kernel
theorem dL_text_30 : decode cL_text 30 = .ok (.iload 4, 2) := by decide +kernel
theorem dL_text_32 : decode cL_text 32 = .ok (.ifCond .ne 26, 3) := by decide +kernel
theorem dL_text_35 : decode cL_text 35 = .ok (.aload_n 1, 1) := by decide +kernel
theorem dL_text_36 : decode cL_text 36 = .ok (.ldc 17, 2) := by decide +kernel
theorem dL_text_38 : decode cL_text 38 = .ok (.invokevirtual 19, 3) := by decide +kernel
theorem dL_text_41 : decode cL_text 41 = .ok (.bipush 97, 2) := by decide +kernel
theorem dL_text_43 : decode cL_text 43 = .ok (.iload_n 3, 1) := by decide +kernel
theorem dL_text_44 : decode cL_text 44 = .ok (.iadd, 1) := by decide +kernel
theorem dL_text_45 : decode cL_text 45 = .ok (.i2c, 1) := by decide +kernel
theorem dL_text_46 : decode cL_text 46 = .ok (.invokevirtual 23, 3) := by decide +kernel
theorem dL_text_49 : decode cL_text 49 = .ok (.ldc 26, 2) := by decide +kernel
theorem dL_text_51 : decode cL_text 51 = .ok (.invokevirtual 19, 3) := by decide +kernel
theorem dL_text_54 : decode cL_text 54 = .ok (.pop, 1) := by decide +kernel
theorem dL_text_55 : decode cL_text 55 = .ok (.goto 73, 3) := by decide +kernel
theorem dL_text_58 : decode cL_text 58 = .ok (.iload 4, 2) := by decide +kernel
theorem dL_text_60 : decode cL_text 60 = .ok (.iconst 3, 1) := by decide +kernel
theorem dL_text_61 : decode cL_text 61 = .ok (.if_icmp .ge 47, 3) := by decide +kernel
theorem dL_text_64 : decode cL_text 64 = .ok (.iload_n 3, 1) := by decide +kernel
theorem dL_text_65 : decode cL_text 65 = .ok (.ifCond .le 43, 3) := by decide +kernel
theorem dL_text_68 : decode cL_text 68 = .ok (.aload_n 1, 1) := by decide +kernel
theorem dL_text_69 : decode cL_text 69 = .ok (.ldc 28, 2) := by decide +kernel
theorem dL_text_71 : decode cL_text 71 = .ok (.invokevirtual 19, 3) := by decide +kernel
theorem dL_text_74 : decode cL_text 74 = .ok (.bipush 97, 2) := by decide +kernel
theorem dL_text_76 : decode cL_text 76 = .ok (.iload_n 3, 1) := by decide +kernel
theorem dL_text_77 : decode cL_text 77 = .ok (.iadd, 1) := by decide +kernel
theorem dL_text_78 : decode cL_text 78 = .ok (.i2c, 1) := by decide +kernel
theorem dL_text_79 : decode cL_text 79 = .ok (.invokevirtual 23, 3) := by decide +kernel
theorem dL_text_82 : decode cL_text 82 = .ok (.ldc 30, 2) := by decide +kernel
theorem dL_text_84 : decode cL_text 84 = .ok (.invokevirtual 19, 3) := by decide +kernel
theorem dL_text_87 : decode cL_text 87 = .ok (.bipush 97, 2) := by decide +kernel
theorem dL_text_89 : decode cL_text 89 = .ok (.aload_n 0, 1) := by decide +kernel
theorem dL_text_90 : decode cL_text 90 = .ok (.iload_n 3, 1) := by decide +kernel
theorem dL_text_91 : decode cL_text 91 = .ok (.invokevirtual 11, 3) := by decide +kernel
theorem dL_text_94 : decode cL_text 94 = .ok (.iadd, 1) := by decide +kernel
theorem dL_text_95 : decode cL_text 95 = .ok (.i2c, 1) := by decide +kernel
theorem dL_text_96 : decode cL_text 96 = .ok (.invokevirtual 23, 3) := by decide +kernel
theorem dL_text_99 : decode cL_text 99 = .ok (.ldc 26, 2) := by decide +kernel
theorem dL_text_101 : decode cL_text 101 = .ok (.invokevirtual 19, 3) := by decide +kernel
theorem dL_text_104 : decode cL_text 104 = .ok (.pop, 1) := by decide +kernel
theorem dL_text_105 : decode cL_text 105 = .ok (.goto 23, 3) := by decide +kernel
theorem dL_text_108 : decode cL_text 108 = .ok (.aload_n 1, 1) := by decide +kernel
theorem dL_text_109 : decode cL_text 109 = .ok (.ldc 32, 2) := by decide +kernel
theorem dL_text_111 : decode cL_text 111 = .ok (.invokevirtual 19, 3) := by decide +kernel
theorem dL_text_114 : decode cL_text 114 = .ok (.bipush 97, 2) := by decide +kernel
theorem dL_text_116 : decode cL_text 116 = .ok (.iload_n 3, 1) := by decide +kernel
theorem dL_text_117 : decode cL_text 117 = .ok (.iadd, 1) := by decide +kernel
theorem dL_text_118 : decode cL_text 118 = .ok (.i2c, 1) := by decide +kernel
theorem dL_text_119 : decode cL_text 119 = .ok (.invokevirtual 23, 3) := by decide +kernel
theorem dL_text_122 : decode cL_text 122 = .ok (.ldc 26, 2) := by decide +kernel
theorem dL_text_124 : decode cL_text 124 = .ok (.invokevirtual 19, 3) := by decide +kernel
theorem dL_text_127 : decode cL_text 127 = .ok (.pop, 1) := by decide +kernel
theorem dL_text_128 : decode cL_text 128 = .ok (.iinc 3 1, 3) := by decide +kernel
theorem dL_text_131 : decode cL_text 131 = .ok (.goto (-113), 3) := by decide +kernel
theorem dL_text_134 : decode cL_text 134 = .ok (.iconst 1, 1) := by decide +kernel
theorem dL_text_135 : decode cL_text 135 = .ok (.aload_n 0, 1) := by decide +kernel
theorem dL_text_136 : decode cL_text 136 = .ok (.iconst 3, 1) := by decide +kernel
theorem dL_text_137 : decode cL_text 137 = .ok (.invokevirtual 11, 3) := by decide +kernel
theorem dL_text_140 : decode cL_text 140 = .ok (.iadd, 1) := by decide +kernel
theorem dL_text_141 : decode cL_text 141 = .ok (.istore_n 3, 1) := by decide +kernel
theorem dL_text_142 : decode cL_text 142 = .ok (.iconst 0, 1) := by decide +kernel
theorem dL_text_143 : decode cL_text 143 = .ok (.istore 4, 2) := by decide +kernel
theorem dL_text_145 : decode cL_text 145 = .ok (.iload 4, 2) := by decide +kernel
theorem dL_text_147 : decode cL_text 147 = .ok (.iload_n 3, 1) := by decide +kernel
theorem dL_text_148 : decode cL_text 148 = .ok (.if_icmp .ge 47, 3) := by decide +kernel
theorem dL_text_151 : decode cL_text 151 = .ok (.aload_n 1, 1) := by decide +kernel
theorem dL_text_152 : decode cL_text 152 = .ok (.ldc 34, 2) := by decide +kernel
theorem dL_text_154 : decode cL_text 154 = .ok (.invokevirtual 19, 3) := by decide +kernel
theorem dL_text_157 : decode cL_text 157 = .ok (.bipush 116, 2) := by decide +kernel
theorem dL_text_159 : decode cL_text 159 = .ok (.iload 4, 2) := by decide +kernel
theorem dL_text_161 : decode cL_text 161 = .ok (.iadd, 1) := by decide +kernel
theorem dL_text_162 : decode cL_text 162 = .ok (.i2c, 1) := by decide +kernel
theorem dL_text_163 : decode cL_text 163 = .ok (.invokevirtual 23, 3) := by decide +kernel
theorem dL_text_166 : decode cL_text 166 = .ok (.ldc 36, 2) := by decide +kernel
theorem dL_text_168 : decode cL_text 168 = .ok (.invokevirtual 19, 3) := by decide +kernel
theorem dL_text_171 : decode cL_text 171 = .ok (.iconst 1, 1) := by decide +kernel
theorem dL_text_172 : decode cL_text 172 = .ok (.aload_n 0, 1) := by decide +kernel
theorem dL_text_173 : decode cL_text 173 = .ok (.sipush 200, 3) := by decide +kernel
theorem dL_text_176 : decode cL_text 176 = .ok (.invokevirtual 11, 3) := by decide +kernel
theorem dL_text_179 : decode cL_text 179 = .ok (.iadd, 1) := by decide +kernel
theorem dL_text_180 : decode cL_text 180 = .ok (.invokevirtual 38, 3) := by decide +kernel
theorem dL_text_183 : decode cL_text 183 = .ok (.ldc 26, 2) := by decide +kernel
theorem dL_text_185 : decode cL_text 185 = .ok (.invokevirtual 19, 3) := by decide +kernel
theorem dL_text_188 : decode cL_text 188 = .ok (.pop, 1) := by decide +kernel
theorem dL_text_189 : decode cL_text 189 = .ok (.iinc 4 1, 3) := by decide +kernel
theorem dL_text_192 : decode cL_text 192 = .ok (.goto (-47), 3) := by decide +kernel
theorem dL_text_195 : decode cL_text 195 = .ok (.aload_n 1, 1) := by decide +kernel
theorem dL_text_196 : decode cL_text 196 = .ok (.ldc 41, 2) := by decide +kernel
theorem dL_text_198 : decode cL_text 198 = .ok (.invokevirtual 19, 3) := by decide +kernel
theorem dL_text_201 : decode cL_text 201 = .ok (.aload_n 0, 1) := by decide +kernel
theorem dL_text_202 : decode cL_text 202 = .ok (.sipush 500, 3) := by decide +kernel
theorem dL_text_205 : decode cL_text 205 = .ok (.invokevirtual 11, 3) := by decide +kernel
theorem dL_text_208 : decode cL_text 208 = .ok (.invokevirtual 38, 3) := by decide +kernel
theorem dL_text_211 : decode cL_text 211 = .ok (.ldc 26, 2) := by decide +kernel
theorem dL_text_213 : decode cL_text 213 = .ok (.invokevirtual 19, 3) := by decide +kernel
theorem dL_text_216 : decode cL_text 216 = .ok (.pop, 1) := by decide +kernel
theorem dL_text_217 : decode cL_text 217 = .ok (.aload_n 0, 1) := by decide +kernel
theorem dL_text_218 : decode cL_text 218 = .ok (.iconst 2, 1) := by decide +kernel
theorem dL_text_219 : decode cL_text 219 = .ok (.invokevirtual 11, 3) := by decide +kernel
theorem dL_text_222 : decode cL_text 222 = .ok (.ifCond .ne 25, 3) := by decide +kernel
theorem dL_text_225 : decode cL_text 225 = .ok (.aload_n 1, 1) := by decide +kernel
theorem dL_text_226 : decode cL_text 226 = .ok (.ldc 43, 2) := by decide +kernel
theorem dL_text_228 : decode cL_text 228 = .ok (.invokevirtual 19, 3) := by decide +kernel
theorem dL_text_231 : decode cL_text 231 = .ok (.aload_n 0, 1) := by decide +kernel
theorem dL_text_232 : decode cL_text 232 = .ok (.sipush 300, 3) := by decide +kernel
theorem dL_text_235 : decode cL_text 235 = .ok (.invokevirtual 11, 3) := by decide +kernel
theorem dL_text_238 : decode cL_text 238 = .ok (.invokevirtual 38, 3) := by decide +kernel
theorem dL_text_241 : decode cL_text 241 = .ok (.ldc 26, 2) := by decide +kernel
theorem dL_text_243 : decode cL_text 243 = .ok (.invokevirtual 19, 3) := by decide +kernel
theorem dL_text_246 : decode cL_text 246 = .ok (.pop, 1) := by decide +kernel
theorem dL_text_247 : decode cL_text 247 = .ok (.iconst 0, 1) := by decide +kernel
theorem dL_text_248 : decode cL_text 248 = .ok (.istore 4, 2) := by decide +kernel
theorem dL_text_250 : decode cL_text 250 = .ok (.iload 4, 2) := by decide +kernel
theorem dL_text_252 : decode cL_text 252 = .ok (.iload_n 3, 1) := by decide +kernel
theorem dL_text_253 : decode cL_text 253 = .ok (.if_icmp .ge 135, 3) := by decide +kernel
theorem dL_text_256 : decode cL_text 256 = .ok (.aload_n 0, 1) := by decide +kernel
theorem dL_text_257 : decode cL_text 257 = .ok (.iconst 3, 1) := by decide +kernel
theorem dL_text_258 : decode cL_text 258 = .ok (.invokevirtual 11, 3) := by decide +kernel
theorem dL_text_261 : decode cL_text 261 = .ok (.istore 5, 2) := by decide +kernel
theorem dL_text_263 : decode cL_text 263 = .ok (.iload 5, 2) := by decide +kernel
theorem dL_text_265 : decode cL_text 265 = .ok (.ifCond .ne 41, 3) := by decide +kernel
theorem dL_text_268 : decode cL_text 268 = .ok (.aload_n 1, 1) := by decide +kernel
theorem dL_text_269 : decode cL_text 269 = .ok (.ldc 45, 2) := by decide +kernel
theorem dL_text_271 : decode cL_text 271 = .ok (.invokevirtual 19, 3) := by decide +kernel
theorem dL_text_274 : decode cL_text 274 = .ok (.bipush 116, 2) := by decide +kernel
theorem dL_text_276 : decode cL_text 276 = .ok (.iload 4, 2) := by decide +kernel
theorem dL_text_278 : decode cL_text 278 = .ok (.iadd, 1) := by decide +kernel
theorem dL_text_279 : decode cL_text 279 = .ok (.i2c, 1) := by decide +kernel
theorem dL_text_280 : decode cL_text 280 = .ok (.invokevirtual 23, 3) := by decide +kernel
theorem dL_text_283 : decode cL_text 283 = .ok (.ldc 47, 2) := by decide +kernel
theorem dL_text_285 : decode cL_text 285 = .ok (.invokevirtual 19, 3) := by decide +kernel
theorem dL_text_288 : decode cL_text 288 = .ok (.bipush 97, 2) := by decide +kernel
theorem dL_text_290 : decode cL_text 290 = .ok (.aload_n 0, 1) := by decide +kernel
theorem dL_text_291 : decode cL_text 291 = .ok (.iload_n 2, 1) := by decide +kernel
theorem dL_text_292 : decode cL_text 292 = .ok (.invokevirtual 11, 3) := by decide +kernel
theorem dL_text_295 : decode cL_text 295 = .ok (.iadd, 1) := by decide +kernel
theorem dL_text_296 : decode cL_text 296 = .ok (.i2c, 1) := by decide +kernel
theorem dL_text_297 : decode cL_text 297 = .ok (.invokevirtual 23, 3) := by decide +kernel
theorem dL_text_300 : decode cL_text 300 = .ok (.ldc 26, 2) := by decide +kernel
theorem dL_text_302 : decode cL_text 302 = .ok (.invokevirtual 19, 3) := by decide +kernel
theorem dL_text_305 : decode cL_text 305 = .ok (.pop, 1) := by decide +kernel
theorem dL_text_306 : decode cL_text 306 = .ok (.iload 5, 2) := by decide +kernel
theorem dL_text_308 : decode cL_text 308 = .ok (.iconst 1, 1) := by decide +kernel
theorem dL_text_309 : decode cL_text 309 = .ok (.if_icmp .ne 73, 3) := by decide +kernel
theorem dL_text_312 : decode cL_text 312 = .ok (.aload_n 1, 1) := by decide +kernel
theorem dL_text_313 : decode cL_text 313 = .ok (.ldc 49, 2) := by decide +kernel
theorem dL_text_315 : decode cL_text 315 = .ok (.invokevirtual 19, 3) := by decide +kernel
theorem dL_text_318 : decode cL_text 318 = .ok (.bipush 116, 2) := by decide +kernel
theorem dL_text_320 : decode cL_text 320 = .ok (.iload 4, 2) := by decide +kernel
theorem dL_text_322 : decode cL_text 322 = .ok (.iadd, 1) := by decide +kernel
theorem dL_text_323 : decode cL_text 323 = .ok (.i2c, 1) := by decide +kernel
theorem dL_text_324 : decode cL_text 324 = .ok (.invokevirtual 23, 3) := by decide +kernel
theorem dL_text_327 : decode cL_text 327 = .ok (.ldc 36, 2) := by decide +kernel
theorem dL_text_329 : decode cL_text 329 = .ok (.invokevirtual 19, 3) := by decide +kernel
theorem dL_text_332 : decode cL_text 332 = .ok (.iconst 1, 1) := by decide +kernel
theorem dL_text_333 : decode cL_text 333 = .ok (.aload_n 0, 1) := by decide +kernel
theorem dL_text_334 : decode cL_text 334 = .ok (.sipush 200, 3) := by decide +kernel
theorem dL_text_337 : decode cL_text 337 = .ok (.invokevirtual 11, 3) := by decide +kernel
theorem dL_text_340 : decode cL_text 340 = .ok (.iadd, 1) := by decide +kernel
theorem dL_text_341 : decode cL_text 341 = .ok (.invokevirtual 38, 3) := by decide +kernel
theorem dL_text_344 : decode cL_text 344 = .ok (.ldc 47, 2) := by decide +kernel
theorem dL_text_346 : decode cL_text 346 = .ok (.invokevirtual 19, 3) := by decide +kernel
theorem dL_text_349 : decode cL_text 349 = .ok (.bipush 97, 2) := by decide +kernel
theorem dL_text_351 : decode cL_text 351 = .ok (.aload_n 0, 1) := by decide +kernel
theorem dL_text_352 : decode cL_text 352 = .ok (.iload_n 2, 1) := by decide +kernel
theorem dL_text_353 : decode cL_text 353 = .ok (.invokevirtual 11, 3) := by decide +kernel
theorem dL_text_356 : decode cL_text 356 = .ok (.iadd, 1) := by decide +kernel
theorem dL_text_357 : decode cL_text 357 = .ok (.i2c, 1) := by decide +kernel
theorem dL_text_358 : decode cL_text 358 = .ok (.invokevirtual 23, 3) := by decide +kernel
theorem dL_text_361 : decode cL_text 361 = .ok (.ldc 51, 2) := by decide +kernel
theorem dL_text_363 : decode cL_text 363 = .ok (.invokevirtual 19, 3) := by decide +kernel
theorem dL_text_366 : decode cL_text 366 = .ok (.iconst 1, 1) := by decide +kernel
theorem dL_text_367 : decode cL_text 367 = .ok (.aload_n 0, 1) := by decide +kernel
theorem dL_text_368 : decode cL_text 368 = .ok (.iconst 4, 1) := by decide +kernel
theorem dL_text_369 : decode cL_text 369 = .ok (.invokevirtual 11, 3) := by decide +kernel
theorem dL_text_372 : decode cL_text 372 = .ok (.iadd, 1) := by decide +kernel
theorem dL_text_373 : decode cL_text 373 = .ok (.invokevirtual 38, 3) := by decide +kernel
theorem dL_text_376 : decode cL_text 376 = .ok (.ldc 26, 2) := by decide +kernel
theorem dL_text_378 : decode cL_text 378 = .ok (.invokevirtual 19, 3) := by decide +kernel
theorem dL_text_381 : decode cL_text 381 = .ok (.pop, 1) := by decide +kernel
theorem dL_text_382 : decode cL_text 382 = .ok (.iinc 4 1, 3) := by decide +kernel
theorem dL_text_385 : decode cL_text 385 = .ok (.goto (-135), 3) := by decide +kernel
theorem dL_text_388 : decode cL_text 388 = .ok (.aload_n 0, 1) := by decide +kernel
theorem dL_text_389 : decode cL_text 389 = .ok (.iconst 4, 1) := by decide +kernel
theorem dL_text_390 : decode cL_text 390 = .ok (.invokevirtual 11, 3) := by decide +kernel
theorem dL_text_393 : decode cL_text 393 = .ok (.istore 4, 2) := by decide +kernel
theorem dL_text_395 : decode cL_text 395 = .ok (.iconst 0, 1) := by decide +kernel
theorem dL_text_396 : decode cL_text 396 = .ok (.istore 5, 2) := by decide +kernel
theorem dL_text_398 : decode cL_text 398 = .ok (.iload 5, 2) := by decide +kernel
theorem dL_text_400 : decode cL_text 400 = .ok (.iload 4, 2) := by decide +kernel
theorem dL_text_402 : decode cL_text 402 = .ok (.if_icmp .ge 63, 3) := by decide +kernel
theorem dL_text_405 : decode cL_text 405 = .ok (.aload_n 1, 1) := by decide +kernel
theorem dL_text_406 : decode cL_text 406 = .ok (.ldc 53, 2) := by decide +kernel
theorem dL_text_408 : decode cL_text 408 = .ok (.invokevirtual 19, 3) := by decide +kernel
theorem dL_text_411 : decode cL_text 411 = .ok (.iconst 1, 1) := by decide +kernel
theorem dL_text_412 : decode cL_text 412 = .ok (.aload_n 0, 1) := by decide +kernel
theorem dL_text_413 : decode cL_text 413 = .ok (.sipush 150, 3) := by decide +kernel
theorem dL_text_416 : decode cL_text 416 = .ok (.invokevirtual 11, 3) := by decide +kernel
theorem dL_text_419 : decode cL_text 419 = .ok (.iadd, 1) := by decide +kernel
theorem dL_text_420 : decode cL_text 420 = .ok (.invokevirtual 38, 3) := by decide +kernel
theorem dL_text_423 : decode cL_text 423 = .ok (.ldc 47, 2) := by decide +kernel
theorem dL_text_425 : decode cL_text 425 = .ok (.invokevirtual 19, 3) := by decide +kernel
theorem dL_text_428 : decode cL_text 428 = .ok (.bipush 97, 2) := by decide +kernel
theorem dL_text_430 : decode cL_text 430 = .ok (.aload_n 0, 1) := by decide +kernel
theorem dL_text_431 : decode cL_text 431 = .ok (.iload_n 2, 1) := by decide +kernel
theorem dL_text_432 : decode cL_text 432 = .ok (.invokevirtual 11, 3) := by decide +kernel
theorem dL_text_435 : decode cL_text 435 = .ok (.iadd, 1) := by decide +kernel
theorem dL_text_436 : decode cL_text 436 = .ok (.i2c, 1) := by decide +kernel
theorem dL_text_437 : decode cL_text 437 = .ok (.invokevirtual 23, 3) := by decide +kernel
theorem dL_text_440 : decode cL_text 440 = .ok (.aload_n 0, 1) := by decide +kernel
theorem dL_text_441 : decode cL_text 441 = .ok (.iconst 2, 1) := by decide +kernel
theorem dL_text_442 : decode cL_text 442 = .ok (.invokevirtual 11, 3) := by decide +kernel
theorem dL_text_445 : decode cL_text 445 = .ok (.ifCond .ne 8, 3) := by decide +kernel
theorem dL_text_448 : decode cL_text 448 = .ok (.ldc 55, 2) := by decide +kernel
theorem dL_text_450 : decode cL_text 450 = .ok (.goto 5, 3) := by decide +kernel
theorem dL_text_453 : decode cL_text 453 = .ok (.ldc 26, 2) := by decide +kernel
theorem dL_text_455 : decode cL_text 455 = .ok (.invokevirtual 19, 3) := by decide +kernel
theorem dL_text_458 : decode cL_text 458 = .ok (.pop, 1) := by decide +kernel
theorem dL_text_459 : decode cL_text 459 = .ok (.iinc 5 1, 3) := by decide +kernel
theorem dL_text_462 : decode cL_text 462 = .ok (.goto (-64), 3) := by decide +kernel
theorem dL_text_465 : decode cL_text 465 = .ok (.aload_n 0, 1) := by decide +kernel
theorem dL_text_466 : decode cL_text 466 = .ok (.iconst 3, 1) := by decide +kernel
theorem dL_text_467 : decode cL_text 467 = .ok (.invokevirtual 11, 3) := by decide +kernel
theorem dL_text_470 : decode cL_text 470 = .ok (.istore 5, 2) := by decide +kernel
theorem dL_text_472 : decode cL_text 472 = .ok (.iconst 0, 1) := by decide +kernel
theorem dL_text_473 : decode cL_text 473 = .ok (.istore 6, 2) := by decide +kernel
theorem dL_text_475 : decode cL_text 475 = .ok (.iload 6, 2) := by decide +kernel
theorem dL_text_477 : decode cL_text 477 = .ok (.iload 5, 2) := by decide +kernel
theorem dL_text_479 : decode cL_text 479 = .ok (.if_icmp .ge 49, 3) := by decide +kernel
theorem dL_text_482 : decode cL_text 482 = .ok (.aload_n 1, 1) := by decide +kernel
theorem dL_text_483 : decode cL_text 483 = .ok (.ldc 57, 2) := by decide +kernel
theorem dL_text_485 : decode cL_text 485 = .ok (.invokevirtual 19, 3) := by decide +kernel
theorem dL_text_488 : decode cL_text 488 = .ok (.iconst 1, 1) := by decide +kernel
theorem dL_text_489 : decode cL_text 489 = .ok (.aload_n 0, 1) := by decide +kernel
theorem dL_text_490 : decode cL_text 490 = .ok (.bipush 9, 2) := by decide +kernel
theorem dL_text_492 : decode cL_text 492 = .ok (.invokevirtual 11, 3) := by decide +kernel
theorem dL_text_495 : decode cL_text 495 = .ok (.iadd, 1) := by decide +kernel
theorem dL_text_496 : decode cL_text 496 = .ok (.invokevirtual 38, 3) := by decide +kernel
theorem dL_text_499 : decode cL_text 499 = .ok (.ldc 47, 2) := by decide +kernel
theorem dL_text_501 : decode cL_text 501 = .ok (.invokevirtual 19, 3) := by decide +kernel
theorem dL_text_504 : decode cL_text 504 = .ok (.bipush 97, 2) := by decide +kernel
theorem dL_text_506 : decode cL_text 506 = .ok (.aload_n 0, 1) := by decide +kernel
theorem dL_text_507 : decode cL_text 507 = .ok (.iload_n 2, 1) := by decide +kernel
theorem dL_text_508 : decode cL_text 508 = .ok (.invokevirtual 11, 3) := by decide +kernel
theorem dL_text_511 : decode cL_text 511 = .ok (.iadd, 1) := by decide +kernel
theorem dL_text_512 : decode cL_text 512 = .ok (.i2c, 1) := by decide +kernel
theorem dL_text_513 : decode cL_text 513 = .ok (.invokevirtual 23, 3) := by decide +kernel
theorem dL_text_516 : decode cL_text 516 = .ok (.ldc 26, 2) := by decide +kernel
theorem dL_text_518 : decode cL_text 518 = .ok (.invokevirtual 19, 3) := by decide +kernel
theorem dL_text_521 : decode cL_text 521 = .ok (.pop, 1) := by decide +kernel
theorem dL_text_522 : decode cL_text 522 = .ok (.iinc 6 1, 3) := by decide +kernel
theorem dL_text_525 : decode cL_text 525 = .ok (.goto (-50), 3) := by decide +kernel
theorem dL_text_528 : decode cL_text 528 = .ok (.aload_n 0, 1) := by decide +kernel
theorem dL_text_529 : decode cL_text 529 = .ok (.iconst 2, 1) := by decide +kernel
theorem dL_text_530 : decode cL_text 530 = .ok (.invokevirtual 11, 3) := by decide +kernel
theorem dL_text_533 : decode cL_text 533 = .ok (.ifCond .ne 10, 3) := by decide +kernel
theorem dL_text_536 : decode cL_text 536 = .ok (.aload_n 1, 1) := by decide +kernel
theorem dL_text_537 : decode cL_text 537 = .ok (.ldc 59, 2) := by decide +kernel
theorem dL_text_539 : decode cL_text 539 = .ok (.invokevirtual 19, 3) := by decide +kernel
theorem dL_text_542 : decode cL_text 542 = .ok (.pop, 1) := by decide +kernel
theorem dL_text_543 : decode cL_text 543 = .ok (.aload_n 0, 1) := by decide +kernel
theorem dL_text_544 : decode cL_text 544 = .ok (.iconst 3, 1) := by decide +kernel
theorem dL_text_545 : decode cL_text 545 = .ok (.invokevirtual 11, 3) := by decide +kernel
theorem dL_text_548 : decode cL_text 548 = .ok (.ifCond .ne 24, 3) := by decide +kernel
theorem dL_text_551 : decode cL_text 551 = .ok (.aload_n 1, 1) := by decide +kernel
theorem dL_text_552 : decode cL_text 552 = .ok (.ldc 61, 2) := by decide +kernel
theorem dL_text_554 : decode cL_text 554 = .ok (.invokevirtual 19, 3) := by decide +kernel
theorem dL_text_557 : decode cL_text 557 = .ok (.aload_n 0, 1) := by decide +kernel
theorem dL_text_558 : decode cL_text 558 = .ok (.bipush 90, 2) := by decide +kernel
theorem dL_text_560 : decode cL_text 560 = .ok (.invokevirtual 11, 3) := by decide +kernel
theorem dL_text_563 : decode cL_text 563 = .ok (.invokevirtual 38, 3) := by decide +kernel
theorem dL_text_566 : decode cL_text 566 = .ok (.ldc 26, 2) := by decide +kernel
theorem dL_text_568 : decode cL_text 568 = .ok (.invokevirtual 19, 3) := by decide +kernel
theorem dL_text_571 : decode cL_text 571 = .ok (.pop, 1) := by decide +kernel
theorem dL_text_572 : decode cL_text 572 = .ok (.aload_n 0, 1) := by decide +kernel
theorem dL_text_573 : decode cL_text 573 = .ok (.iconst 2, 1) := by decide +kernel
theorem dL_text_574 : decode cL_text 574 = .ok (.invokevirtual 11, 3) := by decide +kernel
theorem dL_text_577 : decode cL_text 577 = .ok (.ifCond .ne 24, 3) := by decide +kernel
theorem dL_text_580 : decode cL_text 580 = .ok (.aload_n 1, 1) := by decide +kernel
theorem dL_text_581 : decode cL_text 581 = .ok (.ldc 63, 2) := by decide +kernel
theorem dL_text_583 : decode cL_text 583 = .ok (.invokevirtual 19, 3) := by decide +kernel
theorem dL_text_586 : decode cL_text 586 = .ok (.aload_n 0, 1) := by decide +kernel
theorem dL_text_587 : decode cL_text 587 = .ok (.bipush 60, 2) := by decide +kernel
theorem dL_text_589 : decode cL_text 589 = .ok (.invokevirtual 11, 3) := by decide +kernel
theorem dL_text_592 : decode cL_text 592 = .ok (.invokevirtual 38, 3) := by decide +kernel
theorem dL_text_595 : decode cL_text 595 = .ok (.ldc 26, 2) := by decide +kernel
theorem dL_text_597 : decode cL_text 597 = .ok (.invokevirtual 19, 3) := by decide +kernel
theorem dL_text_600 : decode cL_text 600 = .ok (.pop, 1) := by decide +kernel
theorem dL_text_601 : decode cL_text 601 = .ok (.aload_n 0, 1) := by decide +kernel
theorem dL_text_602 : decode cL_text 602 = .ok (.iconst 2, 1) := by decide +kernel
theorem dL_text_603 : decode cL_text 603 = .ok (.invokevirtual 11, 3) := by decide +kernel
theorem dL_text_606 : decode cL_text 606 = .ok (.ifCond .ne 10, 3) := by decide +kernel
theorem dL_text_609 : decode cL_text 609 = .ok (.aload_n 1, 1) := by decide +kernel
theorem dL_text_610 : decode cL_text 610 = .ok (.ldc 65, 2) := by decide +kernel
theorem dL_text_612 : decode cL_text 612 = .ok (.invokevirtual 19, 3) := by decide +kernel
theorem dL_text_615 : decode cL_text 615 = .ok (.pop, 1) := by decide +kernel
theorem dL_text_616 : decode cL_text 616 = .ok (.aload_n 1, 1) := by decide +kernel
theorem dL_text_617 : decode cL_text 617 = .ok (.invokevirtual 67, 3) := by decide +kernel
theorem dL_text_620 : decode cL_text 620 = .ok (.areturn, 1) := by decide +kernel
theorem dL_house_0 : decode cL_house 0 = .ok (.new 71, 3) := by decide +kernel
theorem dL_house_3 : decode cL_house 3 = .ok (.dup, 1) := by decide +kernel
theorem dL_house_4 : decode cL_house 4 = .ok (.invokespecial 73, 3) := by decide +kernel
theorem dL_house_7 : decode cL_house 7 = .ok (.astore_n 1, 1) := by decide +kernel
theorem dL_house_8 : decode cL_house 8 = .ok (.new 12, 3) := by decide +kernel
theorem dL_house_11 : decode cL_house 11 = .ok (.dup, 1) := by decide +kernel
theorem dL_house_12 : decode cL_house 12 = .ok (.aload_n 0, 1) := by decide +kernel
theorem dL_house_13 : decode cL_house 13 = .ok (.iconst 0, 1) := by decide +kernel
theorem dL_house_14 : decode cL_house 14 = .ok (.invokestatic 74, 3) := by decide +kernel
theorem dL_house_17 : decode cL_house 17 = .ok (.bipush 31, 2) := by decide +kernel
theorem dL_house_19 : decode cL_house 19 = .ok (.imul, 1) := by decide +kernel
theorem dL_house_20 : decode cL_house 20 = .ok (.aload_n 0, 1) := by decide +kernel
theorem dL_house_21 : decode cL_house 21 = .ok (.iconst 1, 1) := by decide +kernel
theorem dL_house_22 : decode cL_house 22 = .ok (.invokestatic 74, 3) := by decide +kernel
theorem dL_house_25 : decode cL_house 25 = .ok (.iadd, 1) := by decide +kernel
theorem dL_house_26 : decode cL_house 26 = .ok (.invokespecial 80, 3) := by decide +kernel
theorem dL_house_29 : decode cL_house 29 = .ok (.invokestatic 83, 3) := by decide +kernel
theorem dL_house_32 : decode cL_house 32 = .ok (.astore_n 2, 1) := by decide +kernel
theorem dL_house_33 : decode cL_house 33 = .ok (.iconst 0, 1) := by decide +kernel
theorem dL_house_34 : decode cL_house 34 = .ok (.istore_n 3, 1) := by decide +kernel
theorem dL_house_35 : decode cL_house 35 = .ok (.iload_n 3, 1) := by decide +kernel
theorem dL_house_36 : decode cL_house 36 = .ok (.aload_n 2, 1) := by decide +kernel
theorem dL_house_37 : decode cL_house 37 = .ok (.invokevirtual 87, 3) := by decide +kernel
theorem dL_house_40 : decode cL_house 40 = .ok (.if_icmp .ge 96, 3) := by decide +kernel
theorem dL_house_43 : decode cL_house 43 = .ok (.iconst 5, 1) := by decide +kernel
theorem dL_house_44 : decode cL_house 44 = .ok (.newarray .int, 2) := by decide +kernel
theorem dL_house_46 : decode cL_house 46 = .ok (.astore 4, 2) := by decide +kernel
theorem dL_house_48 : decode cL_house 48 = .ok (.iconst 0, 1) := by decide +kernel
theorem dL_house_49 : decode cL_house 49 = .ok (.istore 5, 2) := by decide +kernel
theorem dL_house_51 : decode cL_house 51 = .ok (.iload 5, 2) := by decide +kernel
theorem dL_house_53 : decode cL_house 53 = .ok (.bipush 20, 2) := by decide +kernel
theorem dL_house_55 : decode cL_house 55 = .ok (.if_icmp .ge 49, 3) := by decide +kernel
theorem dL_house_58 : decode cL_house 58 = .ok (.iload_n 3, 1) := by decide +kernel
theorem dL_house_59 : decode cL_house 59 = .ok (.iload 5, 2) := by decide +kernel
theorem dL_house_61 : decode cL_house 61 = .ok (.iadd, 1) := by decide +kernel
theorem dL_house_62 : decode cL_house 62 = .ok (.aload_n 2, 1) := by decide +kernel
theorem dL_house_63 : decode cL_house 63 = .ok (.invokevirtual 87, 3) := by decide +kernel
theorem dL_house_66 : decode cL_house 66 = .ok (.if_icmp .ge 38, 3) := by decide +kernel
theorem dL_house_69 : decode cL_house 69 = .ok (.aload 4, 2) := by decide +kernel
theorem dL_house_71 : decode cL_house 71 = .ok (.iload 5, 2) := by decide +kernel
theorem dL_house_73 : decode cL_house 73 = .ok (.iconst 4, 1) := by decide +kernel
theorem dL_house_74 : decode cL_house 74 = .ok (.idiv, 1) := by decide +kernel
theorem dL_house_75 : decode cL_house 75 = .ok (.dup2, 1) := by decide +kernel
theorem dL_house_76 : decode cL_house 76 = .ok (.iaload, 1) := by decide +kernel
theorem dL_house_77 : decode cL_house 77 = .ok (.aload_n 2, 1) := by decide +kernel
theorem dL_house_78 : decode cL_house 78 = .ok (.iload_n 3, 1) := by decide +kernel
theorem dL_house_79 : decode cL_house 79 = .ok (.iload 5, 2) := by decide +kernel
theorem dL_house_81 : decode cL_house 81 = .ok (.iadd, 1) := by decide +kernel
theorem dL_house_82 : decode cL_house 82 = .ok (.invokevirtual 93, 3) := by decide +kernel
theorem dL_house_85 : decode cL_house 85 = .ok (.bipush 24, 2) := by decide +kernel
theorem dL_house_87 : decode cL_house 87 = .ok (.bipush 8, 2) := by decide +kernel
theorem dL_house_89 : decode cL_house 89 = .ok (.iload 5, 2) := by decide +kernel
theorem dL_house_91 : decode cL_house 91 = .ok (.iconst 4, 1) := by decide +kernel
theorem dL_house_92 : decode cL_house 92 = .ok (.irem, 1) := by decide +kernel
theorem dL_house_93 : decode cL_house 93 = .ok (.imul, 1) := by decide +kernel
theorem dL_house_94 : decode cL_house 94 = .ok (.isub, 1) := by decide +kernel
theorem dL_house_95 : decode cL_house 95 = .ok (.ishl, 1) := by decide +kernel
theorem dL_house_96 : decode cL_house 96 = .ok (.ior, 1) := by decide +kernel
theorem dL_house_97 : decode cL_house 97 = .ok (.iastore, 1) := by decide +kernel
theorem dL_house_98 : decode cL_house 98 = .ok (.iinc 5 1, 3) := by decide +kernel
theorem dL_house_101 : decode cL_house 101 = .ok (.goto (-50), 3) := by decide +kernel
theorem dL_house_104 : decode cL_house 104 = .ok (.aload_n 1, 1) := by decide +kernel
theorem dL_house_105 : decode cL_house 105 = .ok (.aload 4, 2) := by decide +kernel
theorem dL_house_107 : decode cL_house 107 = .ok (.iconst 0, 1) := by decide +kernel
theorem dL_house_108 : decode cL_house 108 = .ok (.iaload, 1) := by decide +kernel
theorem dL_house_109 : decode cL_house 109 = .ok (.aload 4, 2) := by decide +kernel
theorem dL_house_111 : decode cL_house 111 = .ok (.iconst 1, 1) := by decide +kernel
theorem dL_house_112 : decode cL_house 112 = .ok (.iaload, 1) := by decide +kernel
theorem dL_house_113 : decode cL_house 113 = .ok (.aload 4, 2) := by decide +kernel
theorem dL_house_115 : decode cL_house 115 = .ok (.iconst 2, 1) := by decide +kernel
theorem dL_house_116 : decode cL_house 116 = .ok (.iaload, 1) := by decide +kernel
theorem dL_house_117 : decode cL_house 117 = .ok (.aload 4, 2) := by decide +kernel
theorem dL_house_119 : decode cL_house 119 = .ok (.iconst 3, 1) := by decide +kernel
theorem dL_house_120 : decode cL_house 120 = .ok (.iaload, 1) := by decide +kernel
theorem dL_house_121 : decode cL_house 121 = .ok (.aload 4, 2) := by decide +kernel
theorem dL_house_123 : decode cL_house 123 = .ok (.iconst 4, 1) := by decide +kernel
theorem dL_house_124 : decode cL_house 124 = .ok (.iaload, 1) := by decide +kernel
theorem dL_house_125 : decode cL_house 125 = .ok (.invokevirtual 97, 3) := by decide +kernel
theorem dL_house_128 : decode cL_house 128 = .ok (.istore 5, 2) := by decide +kernel
theorem dL_house_130 : decode cL_house 130 = .ok (.iinc 3 20, 3) := by decide +kernel
theorem dL_house_133 : decode cL_house 133 = .ok (.goto (-98), 3) := by decide +kernel
theorem dL_house_136 : decode cL_house 136 = .ok (.aload_n 1, 1) := by decide +kernel
theorem dL_house_137 : decode cL_house 137 = .ok (.aload_n 2, 1) := by decide +kernel
theorem dL_house_138 : decode cL_house 138 = .ok (.invokevirtual 87, 3) := by decide +kernel
theorem dL_house_141 : decode cL_house 141 = .ok (.invokevirtual 101, 3) := by decide +kernel
theorem dL_house_144 : decode cL_house 144 = .ok (.istore_n 3, 1) := by decide +kernel
theorem dL_house_145 : decode cL_house 145 = .ok (.iload_n 3, 1) := by decide +kernel
theorem dL_house_146 : decode cL_house 146 = .ok (.ifCond .eq 10, 3) := by decide +kernel
theorem dL_house_149 : decode cL_house 149 = .ok (.aload_n 1, 1) := by decide +kernel
theorem dL_house_150 : decode cL_house 150 = .ok (.invokevirtual 105, 3) := by decide +kernel
theorem dL_house_153 : decode cL_house 153 = .ok (.goto 4, 3) := by decide +kernel
theorem dL_house_156 : decode cL_house 156 = .ok (.iconst 0, 1) := by decide +kernel
theorem dL_house_157 : decode cL_house 157 = .ok (.istore 4, 2) := by decide +kernel
theorem dL_house_159 : decode cL_house 159 = .ok (.aload_n 1, 1) := by decide +kernel
theorem dL_house_160 : decode cL_house 160 = .ok (.areturn, 1) := by decide +kernel
theorem dL_law_0 : decode cL_law 0 = .ok (.aload_n 0, 1) := by decide +kernel
theorem dL_law_1 : decode cL_law 1 = .ok (.invokestatic 108, 3) := by decide +kernel
theorem dL_law_4 : decode cL_law 4 = .ok (.astore_n 1, 1) := by decide +kernel
theorem dL_law_5 : decode cL_law 5 = .ok (.aload_n 1, 1) := by decide +kernel
theorem dL_law_6 : decode cL_law 6 = .ok (.bipush 6, 2) := by decide +kernel
theorem dL_law_8 : decode cL_law 8 = .ok (.invokevirtual 112, 3) := by decide +kernel
theorem dL_law_11 : decode cL_law 11 = .ok (.aload_n 1, 1) := by decide +kernel
theorem dL_law_12 : decode cL_law 12 = .ok (.iconst 3, 1) := by decide +kernel
theorem dL_law_13 : decode cL_law 13 = .ok (.invokevirtual 112, 3) := by decide +kernel
theorem dL_law_16 : decode cL_law 16 = .ok (.iadd, 1) := by decide +kernel
theorem dL_law_17 : decode cL_law 17 = .ok (.aload_n 1, 1) := by decide +kernel
theorem dL_law_18 : decode cL_law 18 = .ok (.iconst 1, 1) := by decide +kernel
theorem dL_law_19 : decode cL_law 19 = .ok (.invokevirtual 112, 3) := by decide +kernel
theorem dL_law_22 : decode cL_law 22 = .ok (.if_icmp .ne 28, 3) := by decide +kernel
theorem dL_law_25 : decode cL_law 25 = .ok (.aload_n 1, 1) := by decide +kernel
theorem dL_law_26 : decode cL_law 26 = .ok (.iconst 0, 1) := by decide +kernel
theorem dL_law_27 : decode cL_law 27 = .ok (.invokevirtual 112, 3) := by decide +kernel
theorem dL_law_30 : decode cL_law 30 = .ok (.aload_n 1, 1) := by decide +kernel
theorem dL_law_31 : decode cL_law 31 = .ok (.iconst 4, 1) := by decide +kernel
theorem dL_law_32 : decode cL_law 32 = .ok (.invokevirtual 115, 3) := by decide +kernel
theorem dL_law_35 : decode cL_law 35 = .ok (.isub, 1) := by decide +kernel
theorem dL_law_36 : decode cL_law 36 = .ok (.aload_n 1, 1) := by decide +kernel
theorem dL_law_37 : decode cL_law 37 = .ok (.iconst 1, 1) := by decide +kernel
theorem dL_law_38 : decode cL_law 38 = .ok (.invokevirtual 112, 3) := by decide +kernel
theorem dL_law_41 : decode cL_law 41 = .ok (.aload_n 1, 1) := by decide +kernel
theorem dL_law_42 : decode cL_law 42 = .ok (.iconst 2, 1) := by decide +kernel
theorem dL_law_43 : decode cL_law 43 = .ok (.invokevirtual 112, 3) := by decide +kernel
theorem dL_law_46 : decode cL_law 46 = .ok (.isub, 1) := by decide +kernel
theorem dL_law_47 : decode cL_law 47 = .ok (.if_icmp .eq 5, 3) := by decide +kernel
theorem dL_law_50 : decode cL_law 50 = .ok (.iconst 0, 1) := by decide +kernel
theorem dL_law_51 : decode cL_law 51 = .ok (.ireturn, 1) := by decide +kernel
theorem dL_law_52 : decode cL_law 52 = .ok (.iconst 0, 1) := by decide +kernel
theorem dL_law_53 : decode cL_law 53 = .ok (.istore_n 2, 1) := by decide +kernel
theorem dL_law_54 : decode cL_law 54 = .ok (.iconst 0, 1) := by decide +kernel
theorem dL_law_55 : decode cL_law 55 = .ok (.istore_n 3, 1) := by decide +kernel
theorem dL_law_56 : decode cL_law 56 = .ok (.iload_n 3, 1) := by decide +kernel
theorem dL_law_57 : decode cL_law 57 = .ok (.aload_n 1, 1) := by decide +kernel
theorem dL_law_58 : decode cL_law 58 = .ok (.iconst 1, 1) := by decide +kernel
theorem dL_law_59 : decode cL_law 59 = .ok (.invokevirtual 115, 3) := by decide +kernel
theorem dL_law_62 : decode cL_law 62 = .ok (.if_icmp .ge 18, 3) := by decide +kernel
theorem dL_law_65 : decode cL_law 65 = .ok (.iload_n 2, 1) := by decide +kernel
theorem dL_law_66 : decode cL_law 66 = .ok (.aload_n 1, 1) := by decide +kernel
theorem dL_law_67 : decode cL_law 67 = .ok (.iload_n 3, 1) := by decide +kernel
theorem dL_law_68 : decode cL_law 68 = .ok (.iconst 0, 1) := by decide +kernel
theorem dL_law_69 : decode cL_law 69 = .ok (.invokevirtual 118, 3) := by decide +kernel
theorem dL_law_72 : decode cL_law 72 = .ok (.iadd, 1) := by decide +kernel
theorem dL_law_73 : decode cL_law 73 = .ok (.istore_n 2, 1) := by decide +kernel
theorem dL_law_74 : decode cL_law 74 = .ok (.iinc 3 1, 3) := by decide +kernel
theorem dL_law_77 : decode cL_law 77 = .ok (.goto (-21), 3) := by decide +kernel
theorem dL_law_80 : decode cL_law 80 = .ok (.iload_n 2, 1) := by decide +kernel
theorem dL_law_81 : decode cL_law 81 = .ok (.aload_n 1, 1) := by decide +kernel
theorem dL_law_82 : decode cL_law 82 = .ok (.iconst 5, 1) := by decide +kernel
theorem dL_law_83 : decode cL_law 83 = .ok (.invokevirtual 112, 3) := by decide +kernel
theorem dL_law_86 : decode cL_law 86 = .ok (.iadd, 1) := by decide +kernel
theorem dL_law_87 : decode cL_law 87 = .ok (.aload_n 1, 1) := by decide +kernel
theorem dL_law_88 : decode cL_law 88 = .ok (.iconst 1, 1) := by decide +kernel
theorem dL_law_89 : decode cL_law 89 = .ok (.invokevirtual 112, 3) := by decide +kernel
theorem dL_law_92 : decode cL_law 92 = .ok (.if_icmp .eq 5, 3) := by decide +kernel
theorem dL_law_95 : decode cL_law 95 = .ok (.iconst 0, 1) := by decide +kernel
theorem dL_law_96 : decode cL_law 96 = .ok (.ireturn, 1) := by decide +kernel
theorem dL_law_97 : decode cL_law 97 = .ok (.iconst 0, 1) := by decide +kernel
theorem dL_law_98 : decode cL_law 98 = .ok (.istore_n 3, 1) := by decide +kernel
theorem dL_law_99 : decode cL_law 99 = .ok (.aload_n 1, 1) := by decide +kernel
theorem dL_law_100 : decode cL_law 100 = .ok (.bipush 7, 2) := by decide +kernel
theorem dL_law_102 : decode cL_law 102 = .ok (.invokevirtual 112, 3) := by decide +kernel
theorem dL_law_105 : decode cL_law 105 = .ok (.istore 4, 2) := by decide +kernel
theorem dL_law_107 : decode cL_law 107 = .ok (.iconst 0, 1) := by decide +kernel
theorem dL_law_108 : decode cL_law 108 = .ok (.istore 5, 2) := by decide +kernel
theorem dL_law_110 : decode cL_law 110 = .ok (.iload 5, 2) := by decide +kernel
theorem dL_law_112 : decode cL_law 112 = .ok (.bipush 6, 2) := by decide +kernel
theorem dL_law_114 : decode cL_law 114 = .ok (.if_icmp .ge 103, 3) := by decide +kernel
theorem dL_law_117 : decode cL_law 117 = .ok (.aload_n 1, 1) := by decide +kernel
theorem dL_law_118 : decode cL_law 118 = .ok (.iload 5, 2) := by decide +kernel
theorem dL_law_120 : decode cL_law 120 = .ok (.iconst 0, 1) := by decide +kernel
theorem dL_law_121 : decode cL_law 121 = .ok (.invokevirtual 122, 3) := by decide +kernel
theorem dL_law_124 : decode cL_law 124 = .ok (.istore 6, 2) := by decide +kernel
theorem dL_law_126 : decode cL_law 126 = .ok (.aload_n 1, 1) := by decide +kernel
theorem dL_law_127 : decode cL_law 127 = .ok (.iload 5, 2) := by decide +kernel
theorem dL_law_129 : decode cL_law 129 = .ok (.iconst 1, 1) := by decide +kernel
theorem dL_law_130 : decode cL_law 130 = .ok (.invokevirtual 122, 3) := by decide +kernel
theorem dL_law_133 : decode cL_law 133 = .ok (.istore 7, 2) := by decide +kernel
theorem dL_law_135 : decode cL_law 135 = .ok (.iload_n 3, 1) := by decide +kernel
theorem dL_law_136 : decode cL_law 136 = .ok (.iload 7, 2) := by decide +kernel
theorem dL_law_138 : decode cL_law 138 = .ok (.iadd, 1) := by decide +kernel
theorem dL_law_139 : decode cL_law 139 = .ok (.istore_n 3, 1) := by decide +kernel
theorem dL_law_140 : decode cL_law 140 = .ok (.iload 7, 2) := by decide +kernel
theorem dL_law_142 : decode cL_law 142 = .ok (.iload 6, 2) := by decide +kernel
theorem dL_law_144 : decode cL_law 144 = .ok (.if_icmp .gt 65, 3) := by decide +kernel
theorem dL_law_147 : decode cL_law 147 = .ok (.iload 4, 2) := by decide +kernel
theorem dL_law_149 : decode cL_law 149 = .ok (.ifCond .ge 10, 3) := by decide +kernel
theorem dL_law_152 : decode cL_law 152 = .ok (.iload 7, 2) := by decide +kernel
theorem dL_law_154 : decode cL_law 154 = .ok (.iload 6, 2) := by decide +kernel
theorem dL_law_156 : decode cL_law 156 = .ok (.if_icmp .ne 53, 3) := by decide +kernel
theorem dL_law_159 : decode cL_law 159 = .ok (.iload 4, 2) := by decide +kernel
theorem dL_law_161 : decode cL_law 161 = .ok (.ifCond .lt 17, 3) := by decide +kernel
theorem dL_law_164 : decode cL_law 164 = .ok (.iload 5, 2) := by decide +kernel
theorem dL_law_166 : decode cL_law 166 = .ok (.iload 4, 2) := by decide +kernel
theorem dL_law_168 : decode cL_law 168 = .ok (.if_icmp .ge 10, 3) := by decide +kernel
theorem dL_law_171 : decode cL_law 171 = .ok (.iload 7, 2) := by decide +kernel
theorem dL_law_173 : decode cL_law 173 = .ok (.iload 6, 2) := by decide +kernel
theorem dL_law_175 : decode cL_law 175 = .ok (.if_icmp .ne 34, 3) := by decide +kernel
theorem dL_law_178 : decode cL_law 178 = .ok (.iload 5, 2) := by decide +kernel
theorem dL_law_180 : decode cL_law 180 = .ok (.iload 4, 2) := by decide +kernel
theorem dL_law_182 : decode cL_law 182 = .ok (.if_icmp .ne 10, 3) := by decide +kernel
theorem dL_law_185 : decode cL_law 185 = .ok (.iload 7, 2) := by decide +kernel
theorem dL_law_187 : decode cL_law 187 = .ok (.iload 6, 2) := by decide +kernel
theorem dL_law_189 : decode cL_law 189 = .ok (.if_icmp .ge 20, 3) := by decide +kernel
theorem dL_law_192 : decode cL_law 192 = .ok (.iload 4, 2) := by decide +kernel
theorem dL_law_194 : decode cL_law 194 = .ok (.ifCond .lt 17, 3) := by decide +kernel
theorem dL_law_197 : decode cL_law 197 = .ok (.iload 5, 2) := by decide +kernel
theorem dL_law_199 : decode cL_law 199 = .ok (.iload 4, 2) := by decide +kernel
theorem dL_law_201 : decode cL_law 201 = .ok (.if_icmp .le 10, 3) := by decide +kernel
theorem dL_law_204 : decode cL_law 204 = .ok (.iload 7, 2) := by decide +kernel
theorem dL_law_206 : decode cL_law 206 = .ok (.ifCond .eq 5, 3) := by decide +kernel
theorem dL_law_209 : decode cL_law 209 = .ok (.iconst 0, 1) := by decide +kernel
theorem dL_law_210 : decode cL_law 210 = .ok (.ireturn, 1) := by decide +kernel
theorem dL_law_211 : decode cL_law 211 = .ok (.iinc 5 1, 3) := by decide +kernel
theorem dL_law_214 : decode cL_law 214 = .ok (.goto (-104), 3) := by decide +kernel
theorem dL_law_217 : decode cL_law 217 = .ok (.iload_n 3, 1) := by decide +kernel
theorem dL_law_218 : decode cL_law 218 = .ok (.aload_n 1, 1) := by decide +kernel
theorem dL_law_219 : decode cL_law 219 = .ok (.bipush 6, 2) := by decide +kernel
theorem dL_law_221 : decode cL_law 221 = .ok (.invokevirtual 112, 3) := by decide +kernel
theorem dL_law_224 : decode cL_law 224 = .ok (.if_icmp .ne 16, 3) := by decide +kernel
theorem dL_law_227 : decode cL_law 227 = .ok (.iload 4, 2) := by decide +kernel
theorem dL_law_229 : decode cL_law 229 = .ok (.ifCond .lt 13, 3) := by decide +kernel
theorem dL_law_232 : decode cL_law 232 = .ok (.aload_n 1, 1) := by decide +kernel
theorem dL_law_233 : decode cL_law 233 = .ok (.iconst 3, 1) := by decide +kernel
theorem dL_law_234 : decode cL_law 234 = .ok (.invokevirtual 112, 3) := by decide +kernel
theorem dL_law_237 : decode cL_law 237 = .ok (.ifCond .eq 5, 3) := by decide +kernel
theorem dL_law_240 : decode cL_law 240 = .ok (.iconst 0, 1) := by decide +kernel
theorem dL_law_241 : decode cL_law 241 = .ok (.ireturn, 1) := by decide +kernel
theorem dL_law_242 : decode cL_law 242 = .ok (.aload_n 1, 1) := by decide +kernel
theorem dL_law_243 : decode cL_law 243 = .ok (.iconst 4, 1) := by decide +kernel
theorem dL_law_244 : decode cL_law 244 = .ok (.invokevirtual 115, 3) := by decide +kernel
theorem dL_law_247 : decode cL_law 247 = .ok (.istore 5, 2) := by decide +kernel
theorem dL_law_249 : decode cL_law 249 = .ok (.iconst 0, 1) := by decide +kernel
theorem dL_law_250 : decode cL_law 250 = .ok (.istore 6, 2) := by decide +kernel
theorem dL_law_252 : decode cL_law 252 = .ok (.iload 6, 2) := by decide +kernel
theorem dL_law_254 : decode cL_law 254 = .ok (.iconst 5, 1) := by decide +kernel
theorem dL_law_255 : decode cL_law 255 = .ok (.if_icmp .ge 155, 3) := by decide +kernel
theorem dL_law_258 : decode cL_law 258 = .ok (.aload_n 1, 1) := by decide +kernel
theorem dL_law_259 : decode cL_law 259 = .ok (.iload 6, 2) := by decide +kernel
theorem dL_law_261 : decode cL_law 261 = .ok (.invokevirtual 125, 3) := by decide +kernel
theorem dL_law_264 : decode cL_law 264 = .ok (.istore 7, 2) := by decide +kernel
theorem dL_law_266 : decode cL_law 266 = .ok (.iload 7, 2) := by decide +kernel
theorem dL_law_268 : decode cL_law 268 = .ok (.ifCond .ge 7, 3) := by decide +kernel
theorem dL_law_271 : decode cL_law 271 = .ok (.iconst 1, 1) := by decide +kernel
theorem dL_law_272 : decode cL_law 272 = .ok (.goto 4, 3) := by decide +kernel
theorem dL_law_275 : decode cL_law 275 = .ok (.iconst 0, 1) := by decide +kernel
theorem dL_law_276 : decode cL_law 276 = .ok (.aload_n 1, 1) := by decide +kernel
theorem dL_law_277 : decode cL_law 277 = .ok (.iload 6, 2) := by decide +kernel
theorem dL_law_279 : decode cL_law 279 = .ok (.iconst 0, 1) := by decide +kernel
theorem dL_law_280 : decode cL_law 280 = .ok (.invokevirtual 122, 3) := by decide +kernel
theorem dL_law_283 : decode cL_law 283 = .ok (.ifCond .ne 7, 3) := by decide +kernel
theorem dL_law_286 : decode cL_law 286 = .ok (.iconst 1, 1) := by decide +kernel
theorem dL_law_287 : decode cL_law 287 = .ok (.goto 4, 3) := by decide +kernel
theorem dL_law_290 : decode cL_law 290 = .ok (.iconst 0, 1) := by decide +kernel
theorem dL_law_291 : decode cL_law 291 = .ok (.if_icmp .eq 5, 3) := by decide +kernel
theorem dL_law_294 : decode cL_law 294 = .ok (.iconst 0, 1) := by decide +kernel
theorem dL_law_295 : decode cL_law 295 = .ok (.ireturn, 1) := by decide +kernel
theorem dL_law_296 : decode cL_law 296 = .ok (.iload 7, 2) := by decide +kernel
theorem dL_law_298 : decode cL_law 298 = .ok (.ifCond .lt 106, 3) := by decide +kernel
theorem dL_law_301 : decode cL_law 301 = .ok (.iload 7, 2) := by decide +kernel
theorem dL_law_303 : decode cL_law 303 = .ok (.ldc 128, 2) := by decide +kernel
theorem dL_law_305 : decode cL_law 305 = .ok (.if_icmp .le 6, 3) := by decide +kernel
theorem dL_law_308 : decode cL_law 308 = .ok (.goto 96, 3) := by decide +kernel
theorem dL_law_311 : decode cL_law 311 = .ok (.aload_n 1, 1) := by decide +kernel
theorem dL_law_312 : decode cL_law 312 = .ok (.iconst 1, 1) := by decide +kernel
theorem dL_law_313 : decode cL_law 313 = .ok (.iload 7, 2) := by decide +kernel
theorem dL_law_315 : decode cL_law 315 = .ok (.invokevirtual 129, 3) := by decide +kernel
theorem dL_law_318 : decode cL_law 318 = .ok (.istore 8, 2) := by decide +kernel
theorem dL_law_320 : decode cL_law 320 = .ok (.aload_n 1, 1) := by decide +kernel
theorem dL_law_321 : decode cL_law 321 = .ok (.iload 6, 2) := by decide +kernel
theorem dL_law_323 : decode cL_law 323 = .ok (.iconst 1, 1) := by decide +kernel
theorem dL_law_324 : decode cL_law 324 = .ok (.invokevirtual 122, 3) := by decide +kernel
theorem dL_law_327 : decode cL_law 327 = .ok (.aload_n 1, 1) := by decide +kernel
theorem dL_law_328 : decode cL_law 328 = .ok (.iload 6, 2) := by decide +kernel
theorem dL_law_330 : decode cL_law 330 = .ok (.iconst 0, 1) := by decide +kernel
theorem dL_law_331 : decode cL_law 331 = .ok (.invokevirtual 122, 3) := by decide +kernel
theorem dL_law_334 : decode cL_law 334 = .ok (.if_icmp .lt 5, 3) := by decide +kernel
theorem dL_law_337 : decode cL_law 337 = .ok (.iconst 0, 1) := by decide +kernel
theorem dL_law_338 : decode cL_law 338 = .ok (.ireturn, 1) := by decide +kernel
theorem dL_law_339 : decode cL_law 339 = .ok (.aload_n 1, 1) := by decide +kernel
theorem dL_law_340 : decode cL_law 340 = .ok (.iconst 1, 1) := by decide +kernel
theorem dL_law_341 : decode cL_law 341 = .ok (.iconst 0, 1) := by decide +kernel
theorem dL_law_342 : decode cL_law 342 = .ok (.iload 7, 2) := by decide +kernel
theorem dL_law_344 : decode cL_law 344 = .ok (.iconst 1, 1) := by decide +kernel
theorem dL_law_345 : decode cL_law 345 = .ok (.isub, 1) := by decide +kernel
theorem dL_law_346 : decode cL_law 346 = .ok (.invokestatic 132, 3) := by decide +kernel
theorem dL_law_349 : decode cL_law 349 = .ok (.invokevirtual 129, 3) := by decide +kernel
theorem dL_law_352 : decode cL_law 352 = .ok (.istore 8, 2) := by decide +kernel
theorem dL_law_354 : decode cL_law 354 = .ok (.iload 7, 2) := by decide +kernel
theorem dL_law_356 : decode cL_law 356 = .ok (.ifCond .le 22, 3) := by decide +kernel
theorem dL_law_359 : decode cL_law 359 = .ok (.aload_n 1, 1) := by decide +kernel
theorem dL_law_360 : decode cL_law 360 = .ok (.iload 6, 2) := by decide +kernel
theorem dL_law_362 : decode cL_law 362 = .ok (.iconst 1, 1) := by decide +kernel
theorem dL_law_363 : decode cL_law 363 = .ok (.invokevirtual 122, 3) := by decide +kernel
theorem dL_law_366 : decode cL_law 366 = .ok (.aload_n 1, 1) := by decide +kernel
theorem dL_law_367 : decode cL_law 367 = .ok (.iload 6, 2) := by decide +kernel
theorem dL_law_369 : decode cL_law 369 = .ok (.iconst 0, 1) := by decide +kernel
theorem dL_law_370 : decode cL_law 370 = .ok (.invokevirtual 122, 3) := by decide +kernel
theorem dL_law_373 : decode cL_law 373 = .ok (.if_icmp .eq 5, 3) := by decide +kernel
theorem dL_law_376 : decode cL_law 376 = .ok (.iconst 0, 1) := by decide +kernel
theorem dL_law_377 : decode cL_law 377 = .ok (.ireturn, 1) := by decide +kernel
theorem dL_law_378 : decode cL_law 378 = .ok (.aload_n 1, 1) := by decide +kernel
theorem dL_law_379 : decode cL_law 379 = .ok (.invokevirtual 137, 3) := by decide +kernel
theorem dL_law_382 : decode cL_law 382 = .ok (.ifCond .lt 20, 3) := by decide +kernel
theorem dL_law_385 : decode cL_law 385 = .ok (.aload_n 1, 1) := by decide +kernel
theorem dL_law_386 : decode cL_law 386 = .ok (.invokevirtual 137, 3) := by decide +kernel
theorem dL_law_389 : decode cL_law 389 = .ok (.ifCond .lt 13, 3) := by decide +kernel
theorem dL_law_392 : decode cL_law 392 = .ok (.aload_n 1, 1) := by decide +kernel
theorem dL_law_393 : decode cL_law 393 = .ok (.iconst 4, 1) := by decide +kernel
theorem dL_law_394 : decode cL_law 394 = .ok (.invokevirtual 115, 3) := by decide +kernel
theorem dL_law_397 : decode cL_law 397 = .ok (.iload 5, 2) := by decide +kernel
theorem dL_law_399 : decode cL_law 399 = .ok (.if_icmp .eq 5, 3) := by decide +kernel
theorem dL_law_402 : decode cL_law 402 = .ok (.iconst 0, 1) := by decide +kernel
theorem dL_law_403 : decode cL_law 403 = .ok (.ireturn, 1) := by decide +kernel
theorem dL_law_404 : decode cL_law 404 = .ok (.iinc 6 1, 3) := by decide +kernel
theorem dL_law_407 : decode cL_law 407 = .ok (.goto (-155), 3) := by decide +kernel
theorem dL_law_410 : decode cL_law 410 = .ok (.iconst 1, 1) := by decide +kernel
theorem dL_law_411 : decode cL_law 411 = .ok (.ireturn, 1) := by decide +kernel

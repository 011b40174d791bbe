theorem dX9_deadLine_12 : decode cX9_deadLine 12 = .ok (.invokevirtual 110, 3) := by decide +kernel
theorem dX9_deadLine_15 : decode cX9_deadLine 15 = .ok (.pop, 1) := by decide +kernel
theorem dX9_deadLine_16 : decode cX9_deadLine 16 = .ok (.aload_n 0, 1) := by decide +kernel
theorem dX9_deadLine_17 : decode cX9_deadLine 17 = .ok (.getfield 104, 3) := by decide +kernel
theorem dX9_deadLine_20 : decode cX9_deadLine 20 = .ok (.istore_n 1, 1) := by decide +kernel
theorem dX9_deadLine_21 : decode cX9_deadLine 21 = .ok (.aload_n 0, 1) := by decide +kernel
theorem dX9_deadLine_22 : decode cX9_deadLine 22 = .ok (.invokevirtual 233, 3) := by decide +kernel
theorem dX9_deadLine_25 : decode cX9_deadLine 25 = .ok (.istore_n 2, 1) := by decide +kernel
theorem dX9_deadLine_26 : decode cX9_deadLine 26 = .ok (.aload_n 0, 1) := by decide +kernel
theorem dX9_deadLine_27 : decode cX9_deadLine 27 = .ok (.invokevirtual 114, 3) := by decide +kernel
theorem dX9_deadLine_30 : decode cX9_deadLine 30 = .ok (.ifCond .ne 21, 3) := by decide +kernel
theorem dX9_deadLine_33 : decode cX9_deadLine 33 = .ok (.aload_n 0, 1) := by decide +kernel
theorem dX9_deadLine_34 : decode cX9_deadLine 34 = .ok (.getfield 43, 3) := by decide +kernel
theorem dX9_deadLine_37 : decode cX9_deadLine 37 = .ok (.bipush 32, 2) := by decide +kernel
theorem dX9_deadLine_39 : decode cX9_deadLine 39 = .ok (.iload_n 2, 1) := by decide +kernel
theorem dX9_deadLine_40 : decode cX9_deadLine 40 = .ok (.iadd, 1) := by decide +kernel
theorem dX9_deadLine_41 : decode cX9_deadLine 41 = .ok (.iaload, 1) := by decide +kernel
theorem dX9_deadLine_42 : decode cX9_deadLine 42 = .ok (.iconst 1, 1) := by decide +kernel
theorem dX9_deadLine_43 : decode cX9_deadLine 43 = .ok (.if_icmp .ne 8, 3) := by decide +kernel
theorem dX9_deadLine_46 : decode cX9_deadLine 46 = .ok (.aload_n 0, 1) := by decide +kernel
theorem dX9_deadLine_47 : decode cX9_deadLine 47 = .ok (.iload_n 1, 1) := by decide +kernel
theorem dX9_deadLine_48 : decode cX9_deadLine 48 = .ok (.invokevirtual 137, 3) := by decide +kernel
theorem dX9_deadLine_51 : decode cX9_deadLine 51 = .ok (.aload_n 0, 1) := by decide +kernel
theorem dX9_deadLine_52 : decode cX9_deadLine 52 = .ok (.getfield 43, 3) := by decide +kernel
theorem dX9_deadLine_55 : decode cX9_deadLine 55 = .ok (.bipush 32, 2) := by decide +kernel
theorem dX9_deadLine_57 : decode cX9_deadLine 57 = .ok (.iload_n 2, 1) := by decide +kernel
theorem dX9_deadLine_58 : decode cX9_deadLine 58 = .ok (.iadd, 1) := by decide +kernel
theorem dX9_deadLine_59 : decode cX9_deadLine 59 = .ok (.aload_n 0, 1) := by decide +kernel
theorem dX9_deadLine_60 : decode cX9_deadLine 60 = .ok (.invokevirtual 114, 3) := by decide +kernel
theorem dX9_deadLine_63 : decode cX9_deadLine 63 = .ok (.ifCond .eq 15, 3) := by decide +kernel
theorem dX9_deadLine_66 : decode cX9_deadLine 66 = .ok (.aload_n 0, 1) := by decide +kernel
theorem dX9_deadLine_67 : decode cX9_deadLine 67 = .ok (.getfield 43, 3) := by decide +kernel
theorem dX9_deadLine_70 : decode cX9_deadLine 70 = .ok (.bipush 32, 2) := by decide +kernel
theorem dX9_deadLine_72 : decode cX9_deadLine 72 = .ok (.iload_n 2, 1) := by decide +kernel
theorem dX9_deadLine_73 : decode cX9_deadLine 73 = .ok (.iadd, 1) := by decide +kernel
theorem dX9_deadLine_74 : decode cX9_deadLine 74 = .ok (.iaload, 1) := by decide +kernel
theorem dX9_deadLine_75 : decode cX9_deadLine 75 = .ok (.goto 4, 3) := by decide +kernel
theorem dX9_deadLine_78 : decode cX9_deadLine 78 = .ok (.iconst 1, 1) := by decide +kernel
theorem dX9_deadLine_79 : decode cX9_deadLine 79 = .ok (.iastore, 1) := by decide +kernel
theorem dX9_deadLine_80 : decode cX9_deadLine 80 = .ok (.return_, 1) := by decide +kernel
theorem dX9_tells_0 : decode cX9_tells 0 = .ok (.aload_n 0, 1) := by decide +kernel
theorem dX9_tells_1 : decode cX9_tells 1 = .ok (.aload_n 1, 1) := by decide +kernel
theorem dX9_tells_2 : decode cX9_tells 2 = .ok (.invokevirtual 221, 3) := by decide +kernel
theorem dX9_tells_5 : decode cX9_tells 5 = .ok (.aload_n 0, 1) := by decide +kernel
theorem dX9_tells_6 : decode cX9_tells 6 = .ok (.iconst 0, 1) := by decide +kernel
theorem dX9_tells_7 : decode cX9_tells 7 = .ok (.iload_n 3, 1) := by decide +kernel
theorem dX9_tells_8 : decode cX9_tells 8 = .ok (.invokevirtual 229, 3) := by decide +kernel
theorem dX9_tells_11 : decode cX9_tells 11 = .ok (.istore 4, 2) := by decide +kernel
theorem dX9_tells_13 : decode cX9_tells 13 = .ok (.aload_n 0, 1) := by decide +kernel
theorem dX9_tells_14 : decode cX9_tells 14 = .ok (.getfield 43, 3) := by decide +kernel
theorem dX9_tells_17 : decode cX9_tells 17 = .ok (.iload_n 2, 1) := by decide +kernel
theorem dX9_tells_18 : decode cX9_tells 18 = .ok (.aload_n 0, 1) := by decide +kernel
theorem dX9_tells_19 : decode cX9_tells 19 = .ok (.invokevirtual 114, 3) := by decide +kernel
theorem dX9_tells_22 : decode cX9_tells 22 = .ok (.ifCond .eq 12, 3) := by decide +kernel
theorem dX9_tells_25 : decode cX9_tells 25 = .ok (.aload_n 0, 1) := by decide +kernel
theorem dX9_tells_26 : decode cX9_tells 26 = .ok (.getfield 43, 3) := by decide +kernel
theorem dX9_tells_29 : decode cX9_tells 29 = .ok (.iload_n 2, 1) := by decide +kernel
theorem dX9_tells_30 : decode cX9_tells 30 = .ok (.iaload, 1) := by decide +kernel
theorem dX9_tells_31 : decode cX9_tells 31 = .ok (.goto 5, 3) := by decide +kernel
theorem dX9_tells_34 : decode cX9_tells 34 = .ok (.iload 4, 2) := by decide +kernel
theorem dX9_tells_36 : decode cX9_tells 36 = .ok (.iastore, 1) := by decide +kernel
theorem dX9_tells_37 : decode cX9_tells 37 = .ok (.return_, 1) := by decide +kernel
theorem dX9_line_0 : decode cX9_line 0 = .ok (.aload_n 0, 1) := by decide +kernel
theorem dX9_line_1 : decode cX9_line 1 = .ok (.ldc 150, 2) := by decide +kernel
theorem dX9_line_3 : decode cX9_line 3 = .ok (.invokevirtual 130, 3) := by decide +kernel
theorem dX9_line_6 : decode cX9_line 6 = .ok (.ifCond .eq 10, 3) := by decide +kernel
theorem dX9_line_9 : decode cX9_line 9 = .ok (.aload_n 0, 1) := by decide +kernel
theorem dX9_line_10 : decode cX9_line 10 = .ok (.invokevirtual 241, 3) := by decide +kernel
theorem dX9_line_13 : decode cX9_line 13 = .ok (.goto 380, 3) := by decide +kernel
theorem dX9_line_16 : decode cX9_line 16 = .ok (.aload_n 0, 1) := by decide +kernel
theorem dX9_line_17 : decode cX9_line 17 = .ok (.ldc 152, 2) := by decide +kernel
theorem dX9_line_19 : decode cX9_line 19 = .ok (.invokevirtual 130, 3) := by decide +kernel
theorem dX9_line_22 : decode cX9_line 22 = .ok (.ifCond .eq 16, 3) := by decide +kernel
theorem dX9_line_25 : decode cX9_line 25 = .ok (.aload_n 0, 1) := by decide +kernel
theorem dX9_line_26 : decode cX9_line 26 = .ok (.ldc 152, 2) := by decide +kernel
theorem dX9_line_28 : decode cX9_line 28 = .ok (.bipush 56, 2) := by decide +kernel
theorem dX9_line_30 : decode cX9_line 30 = .ok (.ldc 240, 2) := by decide +kernel
theorem dX9_line_32 : decode cX9_line 32 = .ok (.invokevirtual 244, 3) := by decide +kernel
theorem dX9_line_35 : decode cX9_line 35 = .ok (.goto 358, 3) := by decide +kernel
theorem dX9_line_38 : decode cX9_line 38 = .ok (.aload_n 0, 1) := by decide +kernel
theorem dX9_line_39 : decode cX9_line 39 = .ok (.ldc 154, 2) := by decide +kernel
theorem dX9_line_41 : decode cX9_line 41 = .ok (.invokevirtual 130, 3) := by decide +kernel
theorem dX9_line_44 : decode cX9_line 44 = .ok (.ifCond .eq 16, 3) := by decide +kernel
theorem dX9_line_47 : decode cX9_line 47 = .ok (.aload_n 0, 1) := by decide +kernel
theorem dX9_line_48 : decode cX9_line 48 = .ok (.ldc 154, 2) := by decide +kernel
theorem dX9_line_50 : decode cX9_line 50 = .ok (.bipush 57, 2) := by decide +kernel
theorem dX9_line_52 : decode cX9_line 52 = .ok (.ldc 240, 2) := by decide +kernel
theorem dX9_line_54 : decode cX9_line 54 = .ok (.invokevirtual 244, 3) := by decide +kernel
theorem dX9_line_57 : decode cX9_line 57 = .ok (.goto 336, 3) := by decide +kernel
theorem dX9_line_60 : decode cX9_line 60 = .ok (.aload_n 0, 1) := by decide +kernel
theorem dX9_line_61 : decode cX9_line 61 = .ok (.ldc 188, 2) := by decide +kernel
theorem dX9_line_63 : decode cX9_line 63 = .ok (.invokevirtual 130, 3) := by decide +kernel
theorem dX9_line_66 : decode cX9_line 66 = .ok (.ifCond .eq 17, 3) := by decide +kernel
theorem dX9_line_69 : decode cX9_line 69 = .ok (.aload_n 0, 1) := by decide +kernel
theorem dX9_line_70 : decode cX9_line 70 = .ok (.ldc 188, 2) := by decide +kernel
theorem dX9_line_72 : decode cX9_line 72 = .ok (.bipush 58, 2) := by decide +kernel
theorem dX9_line_74 : decode cX9_line 74 = .ok (.sipush 240, 3) := by decide +kernel
theorem dX9_line_77 : decode cX9_line 77 = .ok (.invokevirtual 244, 3) := by decide +kernel
theorem dX9_line_80 : decode cX9_line 80 = .ok (.goto 313, 3) := by decide +kernel
theorem dX9_line_83 : decode cX9_line 83 = .ok (.aload_n 0, 1) := by decide +kernel
theorem dX9_line_84 : decode cX9_line 84 = .ok (.ldc 190, 2) := by decide +kernel
theorem dX9_line_86 : decode cX9_line 86 = .ok (.invokevirtual 130, 3) := by decide +kernel
theorem dX9_line_89 : decode cX9_line 89 = .ok (.ifCond .eq 16, 3) := by decide +kernel
theorem dX9_line_92 : decode cX9_line 92 = .ok (.aload_n 0, 1) := by decide +kernel
theorem dX9_line_93 : decode cX9_line 93 = .ok (.ldc 190, 2) := by decide +kernel
theorem dX9_line_95 : decode cX9_line 95 = .ok (.bipush 59, 2) := by decide +kernel
theorem dX9_line_97 : decode cX9_line 97 = .ok (.bipush 99, 2) := by decide +kernel
theorem dX9_line_99 : decode cX9_line 99 = .ok (.invokevirtual 244, 3) := by decide +kernel
theorem dX9_line_102 : decode cX9_line 102 = .ok (.goto 291, 3) := by decide +kernel
theorem dX9_line_105 : decode cX9_line 105 = .ok (.aload_n 0, 1) := by decide +kernel
theorem dX9_line_106 : decode cX9_line 106 = .ok (.ldc 156, 2) := by decide +kernel
theorem dX9_line_108 : decode cX9_line 108 = .ok (.invokevirtual 130, 3) := by decide +kernel
theorem dX9_line_111 : decode cX9_line 111 = .ok (.ifCond .ne 21, 3) := by decide +kernel
theorem dX9_line_114 : decode cX9_line 114 = .ok (.aload_n 0, 1) := by decide +kernel
theorem dX9_line_115 : decode cX9_line 115 = .ok (.ldc 158, 2) := by decide +kernel
theorem dX9_line_117 : decode cX9_line 117 = .ok (.invokevirtual 130, 3) := by decide +kernel
theorem dX9_line_120 : decode cX9_line 120 = .ok (.ifCond .ne 12, 3) := by decide +kernel
theorem dX9_line_123 : decode cX9_line 123 = .ok (.aload_n 0, 1) := by decide +kernel
theorem dX9_line_124 : decode cX9_line 124 = .ok (.ldc 160, 2) := by decide +kernel
theorem dX9_line_126 : decode cX9_line 126 = .ok (.invokevirtual 130, 3) := by decide +kernel
theorem dX9_line_129 : decode cX9_line 129 = .ok (.ifCond .eq 37, 3) := by decide +kernel
theorem dX9_line_132 : decode cX9_line 132 = .ok (.aload_n 0, 1) := by decide +kernel
theorem dX9_line_133 : decode cX9_line 133 = .ok (.aload_n 0, 1) := by decide +kernel
theorem dX9_line_134 : decode cX9_line 134 = .ok (.ldc 156, 2) := by decide +kernel
theorem dX9_line_136 : decode cX9_line 136 = .ok (.invokevirtual 130, 3) := by decide +kernel
theorem dX9_line_139 : decode cX9_line 139 = .ok (.ifCond .eq 7, 3) := by decide +kernel
theorem dX9_line_142 : decode cX9_line 142 = .ok (.iconst 0, 1) := by decide +kernel
theorem dX9_line_143 : decode cX9_line 143 = .ok (.goto 17, 3) := by decide +kernel
theorem dX9_line_146 : decode cX9_line 146 = .ok (.aload_n 0, 1) := by decide +kernel
theorem dX9_line_147 : decode cX9_line 147 = .ok (.ldc 158, 2) := by decide +kernel
theorem dX9_line_149 : decode cX9_line 149 = .ok (.invokevirtual 130, 3) := by decide +kernel
theorem dX9_line_152 : decode cX9_line 152 = .ok (.ifCond .eq 7, 3) := by decide +kernel
theorem dX9_line_155 : decode cX9_line 155 = .ok (.iconst 1, 1) := by decide +kernel
theorem dX9_line_156 : decode cX9_line 156 = .ok (.goto 4, 3) := by decide +kernel
theorem dX9_line_159 : decode cX9_line 159 = .ok (.iconst 2, 1) := by decide +kernel
theorem dX9_line_160 : decode cX9_line 160 = .ok (.invokevirtual 248, 3) := by decide +kernel
theorem dX9_line_163 : decode cX9_line 163 = .ok (.goto 230, 3) := by decide +kernel
theorem dX9_line_166 : decode cX9_line 166 = .ok (.aload_n 0, 1) := by decide +kernel
theorem dX9_line_167 : decode cX9_line 167 = .ok (.ldc 164, 2) := by decide +kernel
theorem dX9_line_169 : decode cX9_line 169 = .ok (.invokevirtual 130, 3) := by decide +kernel
theorem dX9_line_172 : decode cX9_line 172 = .ok (.ifCond .ne 30, 3) := by decide +kernel
theorem dX9_line_175 : decode cX9_line 175 = .ok (.aload_n 0, 1) := by decide +kernel
theorem dX9_line_176 : decode cX9_line 176 = .ok (.ldc 168, 2) := by decide +kernel
theorem dX9_line_178 : decode cX9_line 178 = .ok (.invokevirtual 130, 3) := by decide +kernel
theorem dX9_line_181 : decode cX9_line 181 = .ok (.ifCond .ne 21, 3) := by decide +kernel
theorem dX9_line_184 : decode cX9_line 184 = .ok (.aload_n 0, 1) := by decide +kernel
theorem dX9_line_185 : decode cX9_line 185 = .ok (.ldc 172, 2) := by decide +kernel
theorem dX9_line_187 : decode cX9_line 187 = .ok (.invokevirtual 130, 3) := by decide +kernel
theorem dX9_line_190 : decode cX9_line 190 = .ok (.ifCond .ne 12, 3) := by decide +kernel
theorem dX9_line_193 : decode cX9_line 193 = .ok (.aload_n 0, 1) := by decide +kernel
theorem dX9_line_194 : decode cX9_line 194 = .ok (.ldc 174, 2) := by decide +kernel
theorem dX9_line_196 : decode cX9_line 196 = .ok (.invokevirtual 130, 3) := by decide +kernel
theorem dX9_line_199 : decode cX9_line 199 = .ok (.ifCond .eq 50, 3) := by decide +kernel
theorem dX9_line_202 : decode cX9_line 202 = .ok (.aload_n 0, 1) := by decide +kernel
theorem dX9_line_203 : decode cX9_line 203 = .ok (.aload_n 0, 1) := by decide +kernel
theorem dX9_line_204 : decode cX9_line 204 = .ok (.ldc 164, 2) := by decide +kernel
theorem dX9_line_206 : decode cX9_line 206 = .ok (.invokevirtual 130, 3) := by decide +kernel
theorem dX9_line_209 : decode cX9_line 209 = .ok (.ifCond .eq 7, 3) := by decide +kernel
theorem dX9_line_212 : decode cX9_line 212 = .ok (.iconst 0, 1) := by decide +kernel
theorem dX9_line_213 : decode cX9_line 213 = .ok (.goto 30, 3) := by decide +kernel
theorem dX9_line_216 : decode cX9_line 216 = .ok (.aload_n 0, 1) := by decide +kernel
theorem dX9_line_217 : decode cX9_line 217 = .ok (.ldc 168, 2) := by decide +kernel
theorem dX9_line_219 : decode cX9_line 219 = .ok (.invokevirtual 130, 3) := by decide +kernel
theorem dX9_line_222 : decode cX9_line 222 = .ok (.ifCond .eq 7, 3) := by decide +kernel
theorem dX9_line_225 : decode cX9_line 225 = .ok (.iconst 1, 1) := by decide +kernel
theorem dX9_line_226 : decode cX9_line 226 = .ok (.goto 17, 3) := by decide +kernel
theorem dX9_line_229 : decode cX9_line 229 = .ok (.aload_n 0, 1) := by decide +kernel
theorem dX9_line_230 : decode cX9_line 230 = .ok (.ldc 172, 2) := by decide +kernel
theorem dX9_line_232 : decode cX9_line 232 = .ok (.invokevirtual 130, 3) := by decide +kernel
theorem dX9_line_235 : decode cX9_line 235 = .ok (.ifCond .eq 7, 3) := by decide +kernel
theorem dX9_line_238 : decode cX9_line 238 = .ok (.iconst 2, 1) := by decide +kernel
theorem dX9_line_239 : decode cX9_line 239 = .ok (.goto 4, 3) := by decide +kernel
theorem dX9_line_242 : decode cX9_line 242 = .ok (.iconst 3, 1) := by decide +kernel
theorem dX9_line_243 : decode cX9_line 243 = .ok (.invokevirtual 251, 3) := by decide +kernel
theorem dX9_line_246 : decode cX9_line 246 = .ok (.goto 147, 3) := by decide +kernel
theorem dX9_line_249 : decode cX9_line 249 = .ok (.aload_n 0, 1) := by decide +kernel
theorem dX9_line_250 : decode cX9_line 250 = .ok (.ldc 176, 2) := by decide +kernel
theorem dX9_line_252 : decode cX9_line 252 = .ok (.invokevirtual 130, 3) := by decide +kernel
theorem dX9_line_255 : decode cX9_line 255 = .ok (.ifCond .eq 10, 3) := by decide +kernel
theorem dX9_line_258 : decode cX9_line 258 = .ok (.aload_n 0, 1) := by decide +kernel
theorem dX9_line_259 : decode cX9_line 259 = .ok (.invokevirtual 254, 3) := by decide +kernel
theorem dX9_line_262 : decode cX9_line 262 = .ok (.goto 131, 3) := by decide +kernel
theorem dX9_line_265 : decode cX9_line 265 = .ok (.aload_n 0, 1) := by decide +kernel
theorem dX9_line_266 : decode cX9_line 266 = .ok (.ldc 180, 2) := by decide +kernel
theorem dX9_line_268 : decode cX9_line 268 = .ok (.invokevirtual 134, 3) := by decide +kernel
theorem dX9_line_271 : decode cX9_line 271 = .ok (.ifCond .eq 56, 3) := by decide +kernel
theorem dX9_line_274 : decode cX9_line 274 = .ok (.aload_n 0, 1) := by decide +kernel
theorem dX9_line_275 : decode cX9_line 275 = .ok (.iconst 3, 1) := by decide +kernel
theorem dX9_line_276 : decode cX9_line 276 = .ok (.invokevirtual 236, 3) := by decide +kernel
theorem dX9_line_279 : decode cX9_line 279 = .ok (.istore_n 1, 1) := by decide +kernel
theorem dX9_line_280 : decode cX9_line 280 = .ok (.aload_n 0, 1) := by decide +kernel
theorem dX9_line_281 : decode cX9_line 281 = .ok (.iconst 1, 1) := by decide +kernel
theorem dX9_line_282 : decode cX9_line 282 = .ok (.sipush 9999, 3) := by decide +kernel
theorem dX9_line_285 : decode cX9_line 285 = .ok (.invokevirtual 229, 3) := by decide +kernel
theorem dX9_line_288 : decode cX9_line 288 = .ok (.istore_n 2, 1) := by decide +kernel
theorem dX9_line_289 : decode cX9_line 289 = .ok (.aload_n 0, 1) := by decide +kernel
theorem dX9_line_290 : decode cX9_line 290 = .ok (.getfield 43, 3) := by decide +kernel
theorem dX9_line_293 : decode cX9_line 293 = .ok (.iconst 0, 1) := by decide +kernel
theorem dX9_line_294 : decode cX9_line 294 = .ok (.iconst 4, 1) := by decide +kernel
theorem dX9_line_295 : decode cX9_line 295 = .ok (.iload_n 1, 1) := by decide +kernel
theorem dX9_line_296 : decode cX9_line 296 = .ok (.imul, 1) := by decide +kernel
theorem dX9_line_297 : decode cX9_line 297 = .ok (.iadd, 1) := by decide +kernel
theorem dX9_line_298 : decode cX9_line 298 = .ok (.iconst 0, 1) := by decide +kernel
theorem dX9_line_299 : decode cX9_line 299 = .ok (.iadd, 1) := by decide +kernel
theorem dX9_line_300 : decode cX9_line 300 = .ok (.aload_n 0, 1) := by decide +kernel
theorem dX9_line_301 : decode cX9_line 301 = .ok (.invokevirtual 114, 3) := by decide +kernel
theorem dX9_line_304 : decode cX9_line 304 = .ok (.ifCond .eq 18, 3) := by decide +kernel
theorem dX9_line_307 : decode cX9_line 307 = .ok (.aload_n 0, 1) := by decide +kernel
theorem dX9_line_308 : decode cX9_line 308 = .ok (.getfield 43, 3) := by decide +kernel
theorem dX9_line_311 : decode cX9_line 311 = .ok (.iconst 0, 1) := by decide +kernel
theorem dX9_line_312 : decode cX9_line 312 = .ok (.iconst 4, 1) := by decide +kernel
theorem dX9_line_313 : decode cX9_line 313 = .ok (.iload_n 1, 1) := by decide +kernel
theorem dX9_line_314 : decode cX9_line 314 = .ok (.imul, 1) := by decide +kernel
theorem dX9_line_315 : decode cX9_line 315 = .ok (.iadd, 1) := by decide +kernel
theorem dX9_line_316 : decode cX9_line 316 = .ok (.iconst 0, 1) := by decide +kernel
theorem dX9_line_317 : decode cX9_line 317 = .ok (.iadd, 1) := by decide +kernel
theorem dX9_line_318 : decode cX9_line 318 = .ok (.iaload, 1) := by decide +kernel
theorem dX9_line_319 : decode cX9_line 319 = .ok (.goto 4, 3) := by decide +kernel
theorem dX9_line_322 : decode cX9_line 322 = .ok (.iload_n 2, 1) := by decide +kernel
theorem dX9_line_323 : decode cX9_line 323 = .ok (.iastore, 1) := by decide +kernel
theorem dX9_line_324 : decode cX9_line 324 = .ok (.goto 69, 3) := by decide +kernel
theorem dX9_line_327 : decode cX9_line 327 = .ok (.aload_n 0, 1) := by decide +kernel
theorem dX9_line_328 : decode cX9_line 328 = .ok (.ldc 182, 2) := by decide +kernel
theorem dX9_line_330 : decode cX9_line 330 = .ok (.invokevirtual 130, 3) := by decide +kernel
theorem dX9_line_333 : decode cX9_line 333 = .ok (.ifCond .eq 10, 3) := by decide +kernel
theorem dX9_line_336 : decode cX9_line 336 = .ok (.aload_n 0, 1) := by decide +kernel
theorem dX9_line_337 : decode cX9_line 337 = .ok (.invokevirtual 257, 3) := by decide +kernel
theorem dX9_line_340 : decode cX9_line 340 = .ok (.goto 53, 3) := by decide +kernel
theorem dX9_line_343 : decode cX9_line 343 = .ok (.aload_n 0, 1) := by decide +kernel
theorem dX9_line_344 : decode cX9_line 344 = .ok (.ldc 186, 2) := by decide +kernel
theorem dX9_line_346 : decode cX9_line 346 = .ok (.invokevirtual 130, 3) := by decide +kernel
theorem dX9_line_349 : decode cX9_line 349 = .ok (.ifCond .eq 10, 3) := by decide +kernel
theorem dX9_line_352 : decode cX9_line 352 = .ok (.aload_n 0, 1) := by decide +kernel
theorem dX9_line_353 : decode cX9_line 353 = .ok (.invokevirtual 260, 3) := by decide +kernel
theorem dX9_line_356 : decode cX9_line 356 = .ok (.goto 37, 3) := by decide +kernel
theorem dX9_line_359 : decode cX9_line 359 = .ok (.aload_n 0, 1) := by decide +kernel
theorem dX9_line_360 : decode cX9_line 360 = .ok (.ldc 192, 2) := by decide +kernel
theorem dX9_line_362 : decode cX9_line 362 = .ok (.invokevirtual 134, 3) := by decide +kernel
theorem dX9_line_365 : decode cX9_line 365 = .ok (.ifCond .eq 20, 3) := by decide +kernel
theorem dX9_line_368 : decode cX9_line 368 = .ok (.aload_n 0, 1) := by decide +kernel
theorem dX9_line_369 : decode cX9_line 369 = .ok (.ldc 194, 2) := by decide +kernel
theorem dX9_line_371 : decode cX9_line 371 = .ok (.invokevirtual 221, 3) := by decide +kernel
theorem dX9_line_374 : decode cX9_line 374 = .ok (.aload_n 0, 1) := by decide +kernel
theorem dX9_line_375 : decode cX9_line 375 = .ok (.getfield 43, 3) := by decide +kernel
theorem dX9_line_378 : decode cX9_line 378 = .ok (.bipush 60, 2) := by decide +kernel
theorem dX9_line_380 : decode cX9_line 380 = .ok (.iconst 1, 1) := by decide +kernel
theorem dX9_line_381 : decode cX9_line 381 = .ok (.iastore, 1) := by decide +kernel
theorem dX9_line_382 : decode cX9_line 382 = .ok (.goto 11, 3) := by decide +kernel
theorem dX9_line_385 : decode cX9_line 385 = .ok (.aload_n 0, 1) := by decide +kernel
theorem dX9_line_386 : decode cX9_line 386 = .ok (.aload_n 0, 1) := by decide +kernel
theorem dX9_line_387 : decode cX9_line 387 = .ok (.getfield 104, 3) := by decide +kernel
theorem dX9_line_390 : decode cX9_line 390 = .ok (.invokevirtual 137, 3) := by decide +kernel
theorem dX9_line_393 : decode cX9_line 393 = .ok (.aload_n 0, 1) := by decide +kernel
theorem dX9_line_394 : decode cX9_line 394 = .ok (.invokevirtual 263, 3) := by decide +kernel
theorem dX9_line_397 : decode cX9_line 397 = .ok (.return_, 1) := by decide +kernel
theorem dX9_read_0 : decode cX9_read 0 = .ok (.aload_n 0, 1) := by decide +kernel
theorem dX9_read_1 : decode cX9_read 1 = .ok (.iconst 0, 1) := by decide +kernel
theorem dX9_read_2 : decode cX9_read 2 = .ok (.putfield 98, 3) := by decide +kernel
theorem dX9_read_5 : decode cX9_read 5 = .ok (.aload_n 0, 1) := by decide +kernel
theorem dX9_read_6 : decode cX9_read 6 = .ok (.aload_n 0, 1) := by decide +kernel
theorem dX9_read_7 : decode cX9_read 7 = .ok (.getfield 101, 3) := by decide +kernel
theorem dX9_read_10 : decode cX9_read 10 = .ok (.putfield 107, 3) := by decide +kernel
theorem dX9_read_13 : decode cX9_read 13 = .ok (.aload_n 0, 1) := by decide +kernel
theorem dX9_read_14 : decode cX9_read 14 = .ok (.iconst 0, 1) := by decide +kernel
theorem dX9_read_15 : decode cX9_read 15 = .ok (.putfield 101, 3) := by decide +kernel
theorem dX9_read_18 : decode cX9_read 18 = .ok (.aload_n 0, 1) := by decide +kernel
theorem dX9_read_19 : decode cX9_read 19 = .ok (.iconst 0, 1) := by decide +kernel
theorem dX9_read_20 : decode cX9_read 20 = .ok (.putfield 104, 3) := by decide +kernel
theorem dX9_read_23 : decode cX9_read 23 = .ok (.aload_n 0, 1) := by decide +kernel
theorem dX9_read_24 : decode cX9_read 24 = .ok (.iconst (-1), 1) := by decide +kernel
theorem dX9_read_25 : decode cX9_read 25 = .ok (.putfield 39, 3) := by decide +kernel
theorem dX9_read_28 : decode cX9_read 28 = .ok (.aload_n 0, 1) := by decide +kernel
theorem dX9_read_29 : decode cX9_read 29 = .ok (.iconst 0, 1) := by decide +kernel
theorem dX9_read_30 : decode cX9_read 30 = .ok (.putfield 211, 3) := by decide +kernel
theorem dX9_read_33 : decode cX9_read 33 = .ok (.aload_n 0, 1) := by decide +kernel
theorem dX9_read_34 : decode cX9_read 34 = .ok (.iconst 0, 1) := by decide +kernel
theorem dX9_read_35 : decode cX9_read 35 = .ok (.putfield 204, 3) := by decide +kernel
theorem dX9_read_38 : decode cX9_read 38 = .ok (.aload_n 0, 1) := by decide +kernel
theorem dX9_read_39 : decode cX9_read 39 = .ok (.iconst 0, 1) := by decide +kernel
theorem dX9_read_40 : decode cX9_read 40 = .ok (.putfield 214, 3) := by decide +kernel
theorem dX9_read_43 : decode cX9_read 43 = .ok (.iconst 0, 1) := by decide +kernel
theorem dX9_read_44 : decode cX9_read 44 = .ok (.istore_n 1, 1) := by decide +kernel
theorem dX9_read_45 : decode cX9_read 45 = .ok (.iload_n 1, 1) := by decide +kernel
theorem dX9_read_46 : decode cX9_read 46 = .ok (.bipush 61, 2) := by decide +kernel
theorem dX9_read_48 : decode cX9_read 48 = .ok (.if_icmp .ge 16, 3) := by decide +kernel
theorem dX9_read_51 : decode cX9_read 51 = .ok (.aload_n 0, 1) := by decide +kernel
theorem dX9_read_52 : decode cX9_read 52 = .ok (.getfield 43, 3) := by decide +kernel
theorem dX9_read_55 : decode cX9_read 55 = .ok (.iload_n 1, 1) := by decide +kernel
theorem dX9_read_56 : decode cX9_read 56 = .ok (.iconst 0, 1) := by decide +kernel
theorem dX9_read_57 : decode cX9_read 57 = .ok (.iastore, 1) := by decide +kernel
theorem dX9_read_58 : decode cX9_read 58 = .ok (.iinc 1 1, 3) := by decide +kernel
theorem dX9_read_61 : decode cX9_read 61 = .ok (.goto (-16), 3) := by decide +kernel
theorem dX9_read_64 : decode cX9_read 64 = .ok (.aload_n 0, 1) := by decide +kernel
theorem dX9_read_65 : decode cX9_read 65 = .ok (.getfield 43, 3) := by decide +kernel
theorem dX9_read_68 : decode cX9_read 68 = .ok (.bipush 59, 2) := by decide +kernel
theorem dX9_read_70 : decode cX9_read 70 = .ok (.iconst 5, 1) := by decide +kernel
theorem dX9_read_71 : decode cX9_read 71 = .ok (.iastore, 1) := by decide +kernel
theorem dX9_read_72 : decode cX9_read 72 = .ok (.aload_n 0, 1) := by decide +kernel
theorem dX9_read_73 : decode cX9_read 73 = .ok (.invokevirtual 114, 3) := by decide +kernel
theorem dX9_read_76 : decode cX9_read 76 = .ok (.ifCond .ne 18, 3) := by decide +kernel
theorem dX9_read_79 : decode cX9_read 79 = .ok (.aload_n 0, 1) := by decide +kernel
theorem dX9_read_80 : decode cX9_read 80 = .ok (.invokevirtual 110, 3) := by decide +kernel
theorem dX9_read_83 : decode cX9_read 83 = .ok (.iconst (-1), 1) := by decide +kernel
theorem dX9_read_84 : decode cX9_read 84 = .ok (.if_icmp .eq 10, 3) := by decide +kernel
theorem dX9_read_87 : decode cX9_read 87 = .ok (.aload_n 0, 1) := by decide +kernel
theorem dX9_read_88 : decode cX9_read 88 = .ok (.invokevirtual 266, 3) := by decide +kernel
theorem dX9_read_91 : decode cX9_read 91 = .ok (.goto (-19), 3) := by decide +kernel
theorem dX9_read_94 : decode cX9_read 94 = .ok (.aload_n 0, 1) := by decide +kernel
theorem dX9_read_95 : decode cX9_read 95 = .ok (.invokevirtual 114, 3) := by decide +kernel
theorem dX9_read_98 : decode cX9_read 98 = .ok (.ifCond .eq 9, 3) := by decide +kernel
theorem dX9_read_101 : decode cX9_read 101 = .ok (.aload_n 0, 1) := by decide +kernel
theorem dX9_read_102 : decode cX9_read 102 = .ok (.iconst 1, 1) := by decide +kernel
theorem dX9_read_103 : decode cX9_read 103 = .ok (.invokevirtual 269, 3) := by decide +kernel
theorem dX9_read_106 : decode cX9_read 106 = .ok (.ireturn, 1) := by decide +kernel
theorem dX9_read_107 : decode cX9_read 107 = .ok (.aload_n 0, 1) := by decide +kernel
theorem dX9_read_108 : decode cX9_read 108 = .ok (.invokevirtual 272, 3) := by decide +kernel
theorem dX9_read_111 : decode cX9_read 111 = .ok (.aload_n 0, 1) := by decide +kernel
theorem dX9_read_112 : decode cX9_read 112 = .ok (.getfield 275, 3) := by decide +kernel
theorem dX9_read_115 : decode cX9_read 115 = .ok (.ireturn, 1) := by decide +kernel
theorem dX9_takesAll_0 : decode cX9_takesAll 0 = .ok (.aload_n 0, 1) := by decide +kernel
theorem dX9_takesAll_1 : decode cX9_takesAll 1 = .ok (.aload_n 0, 1) := by decide +kernel
theorem dX9_takesAll_2 : decode cX9_takesAll 2 = .ok (.getfield 211, 3) := by decide +kernel
theorem dX9_takesAll_5 : decode cX9_takesAll 5 = .ok (.putfield 278, 3) := by decide +kernel
theorem dX9_takesAll_8 : decode cX9_takesAll 8 = .ok (.aload_n 0, 1) := by decide +kernel
theorem dX9_takesAll_9 : decode cX9_takesAll 9 = .ok (.aload_n 0, 1) := by decide +kernel
theorem dX9_takesAll_10 : decode cX9_takesAll 10 = .ok (.getfield 204, 3) := by decide +kernel
theorem dX9_takesAll_13 : decode cX9_takesAll 13 = .ok (.putfield 281, 3) := by decide +kernel
theorem dX9_takesAll_16 : decode cX9_takesAll 16 = .ok (.aload_n 0, 1) := by decide +kernel
theorem dX9_takesAll_17 : decode cX9_takesAll 17 = .ok (.aload_n 0, 1) := by decide +kernel
theorem dX9_takesAll_18 : decode cX9_takesAll 18 = .ok (.getfield 214, 3) := by decide +kernel
theorem dX9_takesAll_21 : decode cX9_takesAll 21 = .ok (.putfield 275, 3) := by decide +kernel
theorem dX9_takesAll_24 : decode cX9_takesAll 24 = .ok (.iconst 0, 1) := by decide +kernel
theorem dX9_takesAll_25 : decode cX9_takesAll 25 = .ok (.istore_n 1, 1) := by decide +kernel
theorem dX9_takesAll_26 : decode cX9_takesAll 26 = .ok (.iload_n 1, 1) := by decide +kernel
theorem dX9_takesAll_27 : decode cX9_takesAll 27 = .ok (.bipush 61, 2) := by decide +kernel
theorem dX9_takesAll_29 : decode cX9_takesAll 29 = .ok (.if_icmp .ge 21, 3) := by decide +kernel
theorem dX9_takesAll_32 : decode cX9_takesAll 32 = .ok (.aload_n 0, 1) := by decide +kernel
theorem dX9_takesAll_33 : decode cX9_takesAll 33 = .ok (.getfield 7, 3) := by decide +kernel
theorem dX9_takesAll_36 : decode cX9_takesAll 36 = .ok (.iload_n 1, 1) := by decide +kernel
theorem dX9_takesAll_37 : decode cX9_takesAll 37 = .ok (.aload_n 0, 1) := by decide +kernel
theorem dX9_takesAll_38 : decode cX9_takesAll 38 = .ok (.getfield 43, 3) := by decide +kernel
theorem dX9_takesAll_41 : decode cX9_takesAll 41 = .ok (.iload_n 1, 1) := by decide +kernel
theorem dX9_takesAll_42 : decode cX9_takesAll 42 = .ok (.iaload, 1) := by decide +kernel
theorem dX9_takesAll_43 : decode cX9_takesAll 43 = .ok (.iastore, 1) := by decide +kernel
theorem dX9_takesAll_44 : decode cX9_takesAll 44 = .ok (.iinc 1 1, 3) := by decide +kernel
theorem dX9_takesAll_47 : decode cX9_takesAll 47 = .ok (.goto (-21), 3) := by decide +kernel
theorem dX9_takesAll_50 : decode cX9_takesAll 50 = .ok (.iconst 0, 1) := by decide +kernel
theorem dX9_takesAll_51 : decode cX9_takesAll 51 = .ok (.istore_n 1, 1) := by decide +kernel
theorem dX9_takesAll_52 : decode cX9_takesAll 52 = .ok (.iload_n 1, 1) := by decide +kernel
theorem dX9_takesAll_53 : decode cX9_takesAll 53 = .ok (.bipush 8, 2) := by decide +kernel
theorem dX9_takesAll_55 : decode cX9_takesAll 55 = .ok (.if_icmp .ge 21, 3) := by decide +kernel
theorem dX9_takesAll_58 : decode cX9_takesAll 58 = .ok (.aload_n 0, 1) := by decide +kernel
theorem dX9_takesAll_59 : decode cX9_takesAll 59 = .ok (.getfield 19, 3) := by decide +kernel
theorem dX9_takesAll_62 : decode cX9_takesAll 62 = .ok (.iload_n 1, 1) := by decide +kernel
theorem dX9_takesAll_63 : decode cX9_takesAll 63 = .ok (.aload_n 0, 1) := by decide +kernel
theorem dX9_takesAll_64 : decode cX9_takesAll 64 = .ok (.getfield 46, 3) := by decide +kernel
theorem dX9_takesAll_67 : decode cX9_takesAll 67 = .ok (.iload_n 1, 1) := by decide +kernel
theorem dX9_takesAll_68 : decode cX9_takesAll 68 = .ok (.iaload, 1) := by decide +kernel
theorem dX9_takesAll_69 : decode cX9_takesAll 69 = .ok (.iastore, 1) := by decide +kernel
theorem dX9_takesAll_70 : decode cX9_takesAll 70 = .ok (.iinc 1 1, 3) := by decide +kernel
theorem dX9_takesAll_73 : decode cX9_takesAll 73 = .ok (.goto (-21), 3) := by decide +kernel
theorem dX9_takesAll_76 : decode cX9_takesAll 76 = .ok (.iconst 0, 1) := by decide +kernel
theorem dX9_takesAll_77 : decode cX9_takesAll 77 = .ok (.istore_n 1, 1) := by decide +kernel
theorem dX9_takesAll_78 : decode cX9_takesAll 78 = .ok (.iload_n 1, 1) := by decide +kernel
theorem dX9_takesAll_79 : decode cX9_takesAll 79 = .ok (.bipush 12, 2) := by decide +kernel
theorem dX9_takesAll_81 : decode cX9_takesAll 81 = .ok (.if_icmp .ge 45, 3) := by decide +kernel
theorem dX9_takesAll_84 : decode cX9_takesAll 84 = .ok (.aload_n 0, 1) := by decide +kernel
theorem dX9_takesAll_85 : decode cX9_takesAll 85 = .ok (.getfield 22, 3) := by decide +kernel
theorem dX9_takesAll_88 : decode cX9_takesAll 88 = .ok (.iload_n 1, 1) := by decide +kernel
theorem dX9_takesAll_89 : decode cX9_takesAll 89 = .ok (.aload_n 0, 1) := by decide +kernel
theorem dX9_takesAll_90 : decode cX9_takesAll 90 = .ok (.getfield 49, 3) := by decide +kernel
theorem dX9_takesAll_93 : decode cX9_takesAll 93 = .ok (.iload_n 1, 1) := by decide +kernel
theorem dX9_takesAll_94 : decode cX9_takesAll 94 = .ok (.iaload, 1) := by decide +kernel
theorem dX9_takesAll_95 : decode cX9_takesAll 95 = .ok (.iastore, 1) := by decide +kernel
theorem dX9_takesAll_96 : decode cX9_takesAll 96 = .ok (.aload_n 0, 1) := by decide +kernel
theorem dX9_takesAll_97 : decode cX9_takesAll 97 = .ok (.getfield 25, 3) := by decide +kernel
theorem dX9_takesAll_100 : decode cX9_takesAll 100 = .ok (.iload_n 1, 1) := by decide +kernel
theorem dX9_takesAll_101 : decode cX9_takesAll 101 = .ok (.aload_n 0, 1) := by decide +kernel
theorem dX9_takesAll_102 : decode cX9_takesAll 102 = .ok (.getfield 52, 3) := by decide +kernel
theorem dX9_takesAll_105 : decode cX9_takesAll 105 = .ok (.iload_n 1, 1) := by decide +kernel
theorem dX9_takesAll_106 : decode cX9_takesAll 106 = .ok (.iaload, 1) := by decide +kernel
theorem dX9_takesAll_107 : decode cX9_takesAll 107 = .ok (.iastore, 1) := by decide +kernel
theorem dX9_takesAll_108 : decode cX9_takesAll 108 = .ok (.aload_n 0, 1) := by decide +kernel
theorem dX9_takesAll_109 : decode cX9_takesAll 109 = .ok (.getfield 28, 3) := by decide +kernel
theorem dX9_takesAll_112 : decode cX9_takesAll 112 = .ok (.iload_n 1, 1) := by decide +kernel
theorem dX9_takesAll_113 : decode cX9_takesAll 113 = .ok (.aload_n 0, 1) := by decide +kernel
theorem dX9_takesAll_114 : decode cX9_takesAll 114 = .ok (.getfield 55, 3) := by decide +kernel
theorem dX9_takesAll_117 : decode cX9_takesAll 117 = .ok (.iload_n 1, 1) := by decide +kernel
theorem dX9_takesAll_118 : decode cX9_takesAll 118 = .ok (.baload, 1) := by decide +kernel
theorem dX9_takesAll_119 : decode cX9_takesAll 119 = .ok (.bastore, 1) := by decide +kernel
theorem dX9_takesAll_120 : decode cX9_takesAll 120 = .ok (.iinc 1 1, 3) := by decide +kernel
theorem dX9_takesAll_123 : decode cX9_takesAll 123 = .ok (.goto (-45), 3) := by decide +kernel
theorem dX9_takesAll_126 : decode cX9_takesAll 126 = .ok (.iconst 0, 1) := by decide +kernel
theorem dX9_takesAll_127 : decode cX9_takesAll 127 = .ok (.istore_n 1, 1) := by decide +kernel
theorem dX9_takesAll_128 : decode cX9_takesAll 128 = .ok (.iload_n 1, 1) := by decide +kernel
theorem dX9_takesAll_129 : decode cX9_takesAll 129 = .ok (.bipush 60, 2) := by decide +kernel
theorem dX9_takesAll_131 : decode cX9_takesAll 131 = .ok (.if_icmp .ge 21, 3) := by decide +kernel
theorem dX9_takesAll_134 : decode cX9_takesAll 134 = .ok (.aload_n 0, 1) := by decide +kernel
theorem dX9_takesAll_135 : decode cX9_takesAll 135 = .ok (.getfield 32, 3) := by decide +kernel
theorem dX9_takesAll_138 : decode cX9_takesAll 138 = .ok (.iload_n 1, 1) := by decide +kernel
theorem dX9_takesAll_139 : decode cX9_takesAll 139 = .ok (.aload_n 0, 1) := by decide +kernel
theorem dX9_takesAll_140 : decode cX9_takesAll 140 = .ok (.getfield 58, 3) := by decide +kernel
theorem dX9_takesAll_143 : decode cX9_takesAll 143 = .ok (.iload_n 1, 1) := by decide +kernel
theorem dX9_takesAll_144 : decode cX9_takesAll 144 = .ok (.iaload, 1) := by decide +kernel
theorem dX9_takesAll_145 : decode cX9_takesAll 145 = .ok (.iastore, 1) := by decide +kernel
theorem dX9_takesAll_146 : decode cX9_takesAll 146 = .ok (.iinc 1 1, 3) := by decide +kernel
theorem dX9_takesAll_149 : decode cX9_takesAll 149 = .ok (.goto (-21), 3) := by decide +kernel
theorem dX9_takesAll_152 : decode cX9_takesAll 152 = .ok (.aload_n 0, 1) := by decide +kernel
theorem dX9_takesAll_153 : decode cX9_takesAll 153 = .ok (.iconst 0, 1) := by decide +kernel
theorem dX9_takesAll_154 : decode cX9_takesAll 154 = .ok (.putfield 284, 3) := by decide +kernel
theorem dX9_takesAll_157 : decode cX9_takesAll 157 = .ok (.return_, 1) := by decide +kernel
theorem dX9_fault_0 : decode cX9_fault 0 = .ok (.aload_n 0, 1) := by decide +kernel
theorem dX9_fault_1 : decode cX9_fault 1 = .ok (.iconst 0, 1) := by decide +kernel
theorem dX9_fault_2 : decode cX9_fault 2 = .ok (.putfield 98, 3) := by decide +kernel
theorem dX9_fault_5 : decode cX9_fault 5 = .ok (.aload_n 0, 1) := by decide +kernel
theorem dX9_fault_6 : decode cX9_fault 6 = .ok (.getfield 39, 3) := by decide +kernel
theorem dX9_fault_9 : decode cX9_fault 9 = .ok (.ireturn, 1) := by decide +kernel
theorem dX9_isThing_0 : decode cX9_isThing 0 = .ok (.iload_n 1, 1) := by decide +kernel
theorem dX9_isThing_1 : decode cX9_isThing 1 = .ok (.i2l, 1) := by decide +kernel
theorem dX9_isThing_2 : decode cX9_isThing 2 = .ok (.lconst 0, 1) := by decide +kernel
theorem dX9_isThing_3 : decode cX9_isThing 3 = .ok (.aload_n 0, 1) := by decide +kernel
theorem dX9_isThing_4 : decode cX9_isThing 4 = .ok (.getfield 278, 3) := by decide +kernel
theorem dX9_isThing_7 : decode cX9_isThing 7 = .ok (.iconst 1, 1) := by decide +kernel
theorem dX9_isThing_8 : decode cX9_isThing 8 = .ok (.isub, 1) := by decide +kernel
theorem dX9_isThing_9 : decode cX9_isThing 9 = .ok (.i2l, 1) := by decide +kernel
theorem dX9_isThing_10 : decode cX9_isThing 10 = .ok (.invokestatic 143, 3) := by decide +kernel
theorem dX9_isThing_13 : decode cX9_isThing 13 = .ok (.ireturn, 1) := by decide +kernel
theorem dX9_isPerson_0 : decode cX9_isPerson 0 = .ok (.iload_n 1, 1) := by decide +kernel
theorem dX9_isPerson_1 : decode cX9_isPerson 1 = .ok (.i2l, 1) := by decide +kernel
theorem dX9_isPerson_2 : decode cX9_isPerson 2 = .ok (.lconst 0, 1) := by decide +kernel
theorem dX9_isPerson_3 : decode cX9_isPerson 3 = .ok (.aload_n 0, 1) := by decide +kernel
theorem dX9_isPerson_4 : decode cX9_isPerson 4 = .ok (.getfield 281, 3) := by decide +kernel
theorem dX9_isPerson_7 : decode cX9_isPerson 7 = .ok (.iconst 1, 1) := by decide +kernel
theorem dX9_isPerson_8 : decode cX9_isPerson 8 = .ok (.isub, 1) := by decide +kernel
theorem dX9_isPerson_9 : decode cX9_isPerson 9 = .ok (.i2l, 1) := by decide +kernel
theorem dX9_isPerson_10 : decode cX9_isPerson 10 = .ok (.invokestatic 143, 3) := by decide +kernel
theorem dX9_isPerson_13 : decode cX9_isPerson 13 = .ok (.ireturn, 1) := by decide +kernel
theorem dX9_isGift_0 : decode cX9_isGift 0 = .ok (.iload_n 1, 1) := by decide +kernel
theorem dX9_isGift_1 : decode cX9_isGift 1 = .ok (.i2l, 1) := by decide +kernel
theorem dX9_isGift_2 : decode cX9_isGift 2 = .ok (.lconst 0, 1) := by decide +kernel
theorem dX9_isGift_3 : decode cX9_isGift 3 = .ok (.aload_n 0, 1) := by decide +kernel
theorem dX9_isGift_4 : decode cX9_isGift 4 = .ok (.getfield 275, 3) := by decide +kernel
theorem dX9_isGift_7 : decode cX9_isGift 7 = .ok (.iconst 1, 1) := by decide +kernel
theorem dX9_isGift_8 : decode cX9_isGift 8 = .ok (.isub, 1) := by decide +kernel
theorem dX9_isGift_9 : decode cX9_isGift 9 = .ok (.i2l, 1) := by decide +kernel
theorem dX9_isGift_10 : decode cX9_isGift 10 = .ok (.invokestatic 143, 3) := by decide +kernel
theorem dX9_isGift_13 : decode cX9_isGift 13 = .ok (.ireturn, 1) := by decide +kernel
theorem dX9_lettersOf_0 : decode cX9_lettersOf 0 = .ok (.iconst 0, 1) := by decide +kernel
theorem dX9_lettersOf_1 : decode cX9_lettersOf 1 = .ok (.istore_n 1, 1) := by decide +kernel
theorem dX9_lettersOf_2 : decode cX9_lettersOf 2 = .ok (.iload_n 0, 1) := by decide +kernel
theorem dX9_lettersOf_3 : decode cX9_lettersOf 3 = .ok (.istore_n 2, 1) := by decide +kernel
theorem dX9_lettersOf_4 : decode cX9_lettersOf 4 = .ok (.iload_n 2, 1) := by decide +kernel
theorem dX9_lettersOf_5 : decode cX9_lettersOf 5 = .ok (.ifCond .le 13, 3) := by decide +kernel
theorem dX9_lettersOf_8 : decode cX9_lettersOf 8 = .ok (.iinc 1 1, 3) := by decide +kernel
theorem dX9_lettersOf_11 : decode cX9_lettersOf 11 = .ok (.iload_n 2, 1) := by decide +kernel
theorem dX9_lettersOf_12 : decode cX9_lettersOf 12 = .ok (.iconst 5, 1) := by decide +kernel
theorem dX9_lettersOf_13 : decode cX9_lettersOf 13 = .ok (.ishr, 1) := by decide +kernel
theorem dX9_lettersOf_14 : decode cX9_lettersOf 14 = .ok (.istore_n 2, 1) := by decide +kernel
theorem dX9_lettersOf_15 : decode cX9_lettersOf 15 = .ok (.goto (-11), 3) := by decide +kernel
theorem dX9_lettersOf_18 : decode cX9_lettersOf 18 = .ok (.iload_n 1, 1) := by decide +kernel
theorem dX9_lettersOf_19 : decode cX9_lettersOf 19 = .ok (.ireturn, 1) := by decide +kernel
theorem dX9_letter_0 : decode cX9_letter 0 = .ok (.iload_n 0, 1) := by decide +kernel
theorem dX9_letter_1 : decode cX9_letter 1 = .ok (.invokestatic 287, 3) := by decide +kernel
theorem dX9_letter_4 : decode cX9_letter 4 = .ok (.istore_n 2, 1) := by decide +kernel
theorem dX9_letter_5 : decode cX9_letter 5 = .ok (.iload_n 1, 1) := by decide +kernel
theorem dX9_letter_6 : decode cX9_letter 6 = .ok (.i2l, 1) := by decide +kernel
theorem dX9_letter_7 : decode cX9_letter 7 = .ok (.lconst 0, 1) := by decide +kernel
theorem dX9_letter_8 : decode cX9_letter 8 = .ok (.iload_n 2, 1) := by decide +kernel
theorem dX9_letter_9 : decode cX9_letter 9 = .ok (.iconst 1, 1) := by decide +kernel
theorem dX9_letter_10 : decode cX9_letter 10 = .ok (.isub, 1) := by decide +kernel
theorem dX9_letter_11 : decode cX9_letter 11 = .ok (.i2l, 1) := by decide +kernel
theorem dX9_letter_12 : decode cX9_letter 12 = .ok (.invokestatic 143, 3) := by decide +kernel
theorem dX9_letter_15 : decode cX9_letter 15 = .ok (.ifCond .eq 21, 3) := by decide +kernel
theorem dX9_letter_18 : decode cX9_letter 18 = .ok (.bipush 96, 2) := by decide +kernel
theorem dX9_letter_20 : decode cX9_letter 20 = .ok (.iload_n 0, 1) := by decide +kernel
theorem dX9_letter_21 : decode cX9_letter 21 = .ok (.iconst 5, 1) := by decide +kernel
theorem dX9_letter_22 : decode cX9_letter 22 = .ok (.iload_n 2, 1) := by decide +kernel
theorem dX9_letter_23 : decode cX9_letter 23 = .ok (.iconst 1, 1) := by decide +kernel
theorem dX9_letter_24 : decode cX9_letter 24 = .ok (.isub, 1) := by decide +kernel
theorem dX9_letter_25 : decode cX9_letter 25 = .ok (.iload_n 1, 1) := by decide +kernel
theorem dX9_letter_26 : decode cX9_letter 26 = .ok (.isub, 1) := by decide +kernel
theorem dX9_letter_27 : decode cX9_letter 27 = .ok (.imul, 1) := by decide +kernel
theorem dX9_letter_28 : decode cX9_letter 28 = .ok (.ishr, 1) := by decide +kernel
theorem dX9_letter_29 : decode cX9_letter 29 = .ok (.bipush 31, 2) := by decide +kernel
theorem dX9_letter_31 : decode cX9_letter 31 = .ok (.iand, 1) := by decide +kernel
theorem dX9_letter_32 : decode cX9_letter 32 = .ok (.iadd, 1) := by decide +kernel
theorem dX9_letter_33 : decode cX9_letter 33 = .ok (.goto 4, 3) := by decide +kernel
theorem dX9_letter_36 : decode cX9_letter 36 = .ok (.iconst (-1), 1) := by decide +kernel
theorem dX9_letter_37 : decode cX9_letter 37 = .ok (.ireturn, 1) := by decide +kernel
theorem dX9_name_0 : decode cX9_name 0 = .ok (.aload_n 0, 1) := by decide +kernel
theorem dX9_name_1 : decode cX9_name 1 = .ok (.iload_n 1, 1) := by decide +kernel
theorem dX9_name_2 : decode cX9_name 2 = .ok (.ifCond .eq 14, 3) := by decide +kernel
theorem dX9_name_5 : decode cX9_name 5 = .ok (.aload_n 0, 1) := by decide +kernel
theorem dX9_name_6 : decode cX9_name 6 = .ok (.iload_n 2, 1) := by decide +kernel
theorem dX9_name_7 : decode cX9_name 7 = .ok (.invokevirtual 290, 3) := by decide +kernel
theorem dX9_name_10 : decode cX9_name 10 = .ok (.ifCond .eq 18, 3) := by decide +kernel
theorem dX9_name_13 : decode cX9_name 13 = .ok (.goto 11, 3) := by decide +kernel
theorem dX9_name_16 : decode cX9_name 16 = .ok (.aload_n 0, 1) := by decide +kernel
theorem dX9_name_17 : decode cX9_name 17 = .ok (.iload_n 2, 1) := by decide +kernel
theorem dX9_name_18 : decode cX9_name 18 = .ok (.invokevirtual 294, 3) := by decide +kernel
theorem dX9_name_21 : decode cX9_name 21 = .ok (.ifCond .eq 7, 3) := by decide +kernel
theorem dX9_name_24 : decode cX9_name 24 = .ok (.iconst 0, 1) := by decide +kernel
theorem dX9_name_25 : decode cX9_name 25 = .ok (.goto 4, 3) := by decide +kernel
theorem dX9_name_28 : decode cX9_name 28 = .ok (.iconst 1, 1) := by decide +kernel
theorem dX9_name_29 : decode cX9_name 29 = .ok (.putfield 98, 3) := by decide +kernel
theorem dX9_name_32 : decode cX9_name 32 = .ok (.aload_n 0, 1) := by decide +kernel
theorem dX9_name_33 : decode cX9_name 33 = .ok (.getfield 98, 3) := by decide +kernel
theorem dX9_name_36 : decode cX9_name 36 = .ok (.ifCond .le 7, 3) := by decide +kernel
theorem dX9_name_39 : decode cX9_name 39 = .ok (.iconst 0, 1) := by decide +kernel
theorem dX9_name_40 : decode cX9_name 40 = .ok (.goto 26, 3) := by decide +kernel
theorem dX9_name_43 : decode cX9_name 43 = .ok (.iload_n 1, 1) := by decide +kernel
theorem dX9_name_44 : decode cX9_name 44 = .ok (.ifCond .eq 12, 3) := by decide +kernel
theorem dX9_name_47 : decode cX9_name 47 = .ok (.aload_n 0, 1) := by decide +kernel
theorem dX9_name_48 : decode cX9_name 48 = .ok (.getfield 22, 3) := by decide +kernel
theorem dX9_name_51 : decode cX9_name 51 = .ok (.iload_n 2, 1) := by decide +kernel
theorem dX9_name_52 : decode cX9_name 52 = .ok (.iaload, 1) := by decide +kernel
theorem dX9_name_53 : decode cX9_name 53 = .ok (.goto 9, 3) := by decide +kernel
theorem dX9_name_56 : decode cX9_name 56 = .ok (.aload_n 0, 1) := by decide +kernel
theorem dX9_name_57 : decode cX9_name 57 = .ok (.getfield 19, 3) := by decide +kernel
theorem dX9_name_60 : decode cX9_name 60 = .ok (.iload_n 2, 1) := by decide +kernel
theorem dX9_name_61 : decode cX9_name 61 = .ok (.iaload, 1) := by decide +kernel
theorem dX9_name_62 : decode cX9_name 62 = .ok (.iload_n 3, 1) := by decide +kernel
theorem dX9_name_63 : decode cX9_name 63 = .ok (.invokestatic 297, 3) := by decide +kernel
theorem dX9_name_66 : decode cX9_name 66 = .ok (.ireturn, 1) := by decide +kernel
theorem dX9_ofThing_0 : decode cX9_ofThing 0 = .ok (.aload_n 0, 1) := by decide +kernel
theorem dX9_ofThing_1 : decode cX9_ofThing 1 = .ok (.getfield 7, 3) := by decide +kernel
theorem dX9_ofThing_4 : decode cX9_ofThing 4 = .ok (.iconst 0, 1) := by decide +kernel
theorem dX9_ofThing_5 : decode cX9_ofThing 5 = .ok (.iconst 4, 1) := by decide +kernel
theorem dX9_ofThing_6 : decode cX9_ofThing 6 = .ok (.iload_n 1, 1) := by decide +kernel
theorem dX9_ofThing_7 : decode cX9_ofThing 7 = .ok (.imul, 1) := by decide +kernel
theorem dX9_ofThing_8 : decode cX9_ofThing 8 = .ok (.iadd, 1) := by decide +kernel
theorem dX9_ofThing_9 : decode cX9_ofThing 9 = .ok (.iload_n 2, 1) := by decide +kernel
theorem dX9_ofThing_10 : decode cX9_ofThing 10 = .ok (.iadd, 1) := by decide +kernel
theorem dX9_ofThing_11 : decode cX9_ofThing 11 = .ok (.iaload, 1) := by decide +kernel
theorem dX9_ofThing_12 : decode cX9_ofThing 12 = .ok (.ireturn, 1) := by decide +kernel
theorem dX9_bringsOf_0 : decode cX9_bringsOf 0 = .ok (.aload_n 0, 1) := by decide +kernel
theorem dX9_bringsOf_1 : decode cX9_bringsOf 1 = .ok (.iload_n 1, 1) := by decide +kernel
theorem dX9_bringsOf_2 : decode cX9_bringsOf 2 = .ok (.iconst 1, 1) := by decide +kernel
theorem dX9_bringsOf_3 : decode cX9_bringsOf 3 = .ok (.invokevirtual 300, 3) := by decide +kernel
theorem dX9_bringsOf_6 : decode cX9_bringsOf 6 = .ok (.ifCond .ne 12, 3) := by decide +kernel
theorem dX9_bringsOf_9 : decode cX9_bringsOf 9 = .ok (.aload_n 0, 1) := by decide +kernel
theorem dX9_bringsOf_10 : decode cX9_bringsOf 10 = .ok (.iload_n 1, 1) := by decide +kernel
theorem dX9_bringsOf_11 : decode cX9_bringsOf 11 = .ok (.iconst 0, 1) := by decide +kernel
theorem dX9_bringsOf_12 : decode cX9_bringsOf 12 = .ok (.invokevirtual 300, 3) := by decide +kernel
theorem dX9_bringsOf_15 : decode cX9_bringsOf 15 = .ok (.goto 9, 3) := by decide +kernel
theorem dX9_bringsOf_18 : decode cX9_bringsOf 18 = .ok (.aload_n 0, 1) := by decide +kernel
theorem dX9_bringsOf_19 : decode cX9_bringsOf 19 = .ok (.iload_n 1, 1) := by decide +kernel
theorem dX9_bringsOf_20 : decode cX9_bringsOf 20 = .ok (.iconst 3, 1) := by decide +kernel
theorem dX9_bringsOf_21 : decode cX9_bringsOf 21 = .ok (.invokevirtual 300, 3) := by decide +kernel
theorem dX9_bringsOf_24 : decode cX9_bringsOf 24 = .ok (.ireturn, 1) := by decide +kernel
theorem dX9_thing_0 : decode cX9_thing 0 = .ok (.aload_n 0, 1) := by decide +kernel
theorem dX9_thing_1 : decode cX9_thing 1 = .ok (.aload_n 0, 1) := by decide +kernel
theorem dX9_thing_2 : decode cX9_thing 2 = .ok (.iload_n 1, 1) := by decide +kernel
theorem dX9_thing_3 : decode cX9_thing 3 = .ok (.invokevirtual 294, 3) := by decide +kernel
theorem dX9_thing_6 : decode cX9_thing 6 = .ok (.ifCond .ne 7, 3) := by decide +kernel
theorem dX9_thing_9 : decode cX9_thing 9 = .ok (.iconst 1, 1) := by decide +kernel
theorem dX9_thing_10 : decode cX9_thing 10 = .ok (.goto 20, 3) := by decide +kernel
theorem dX9_thing_13 : decode cX9_thing 13 = .ok (.iload_n 2, 1) := by decide +kernel
theorem dX9_thing_14 : decode cX9_thing 14 = .ok (.i2l, 1) := by decide +kernel
theorem dX9_thing_15 : decode cX9_thing 15 = .ok (.lconst 0, 1) := by decide +kernel
theorem dX9_thing_16 : decode cX9_thing 16 = .ok (.ldc2_w 303, 3) := by decide +kernel
theorem dX9_thing_19 : decode cX9_thing 19 = .ok (.invokestatic 143, 3) := by decide +kernel
theorem dX9_thing_22 : decode cX9_thing 22 = .ok (.ifCond .eq 7, 3) := by decide +kernel
theorem dX9_thing_25 : decode cX9_thing 25 = .ok (.iconst 0, 1) := by decide +kernel
theorem dX9_thing_26 : decode cX9_thing 26 = .ok (.goto 4, 3) := by decide +kernel
theorem dX9_thing_29 : decode cX9_thing 29 = .ok (.iconst 2, 1) := by decide +kernel
theorem dX9_thing_30 : decode cX9_thing 30 = .ok (.putfield 98, 3) := by decide +kernel
theorem dX9_thing_33 : decode cX9_thing 33 = .ok (.aload_n 0, 1) := by decide +kernel
theorem dX9_thing_34 : decode cX9_thing 34 = .ok (.getfield 98, 3) := by decide +kernel
theorem dX9_thing_37 : decode cX9_thing 37 = .ok (.ifCond .le 5, 3) := by decide +kernel
theorem dX9_thing_40 : decode cX9_thing 40 = .ok (.iconst 0, 1) := by decide +kernel
theorem dX9_thing_41 : decode cX9_thing 41 = .ok (.ireturn, 1) := by decide +kernel
theorem dX9_thing_42 : decode cX9_thing 42 = .ok (.aload_n 0, 1) := by decide +kernel
theorem dX9_thing_43 : decode cX9_thing 43 = .ok (.iload_n 1, 1) := by decide +kernel
theorem dX9_thing_44 : decode cX9_thing 44 = .ok (.iconst 1, 1) := by decide +kernel
theorem dX9_thing_45 : decode cX9_thing 45 = .ok (.invokevirtual 300, 3) := by decide +kernel
theorem dX9_thing_48 : decode cX9_thing 48 = .ok (.istore_n 3, 1) := by decide +kernel
theorem dX9_thing_49 : decode cX9_thing 49 = .ok (.iload_n 2, 1) := by decide +kernel
theorem dX9_thing_50 : decode cX9_thing 50 = .ok (.tableswitch 70 0 3 #[30, 37, 39, 55], 30) := by decide +kernel
theorem dX9_thing_80 : decode cX9_thing 80 = .ok (.aload_n 0, 1) := by decide +kernel
theorem dX9_thing_81 : decode cX9_thing 81 = .ok (.iload_n 1, 1) := by decide +kernel
theorem dX9_thing_82 : decode cX9_thing 82 = .ok (.iconst 0, 1) := by decide +kernel
theorem dX9_thing_83 : decode cX9_thing 83 = .ok (.invokevirtual 300, 3) := by decide +kernel
theorem dX9_thing_86 : decode cX9_thing 86 = .ok (.ireturn, 1) := by decide +kernel
theorem dX9_thing_87 : decode cX9_thing 87 = .ok (.iload_n 3, 1) := by decide +kernel
theorem dX9_thing_88 : decode cX9_thing 88 = .ok (.ireturn, 1) := by decide +kernel
theorem dX9_thing_89 : decode cX9_thing 89 = .ok (.iload_n 3, 1) := by decide +kernel
theorem dX9_thing_90 : decode cX9_thing 90 = .ok (.iconst 1, 1) := by decide +kernel
theorem dX9_thing_91 : decode cX9_thing 91 = .ok (.if_icmp .ne 12, 3) := by decide +kernel
theorem dX9_thing_94 : decode cX9_thing 94 = .ok (.aload_n 0, 1) := by decide +kernel
theorem dX9_thing_95 : decode cX9_thing 95 = .ok (.iload_n 1, 1) := by decide +kernel
theorem dX9_thing_96 : decode cX9_thing 96 = .ok (.iconst 2, 1) := by decide +kernel
theorem dX9_thing_97 : decode cX9_thing 97 = .ok (.invokevirtual 300, 3) := by decide +kernel
theorem dX9_thing_100 : decode cX9_thing 100 = .ok (.goto 4, 3) := by decide +kernel
theorem dX9_thing_103 : decode cX9_thing 103 = .ok (.iconst (-1), 1) := by decide +kernel
theorem dX9_thing_104 : decode cX9_thing 104 = .ok (.ireturn, 1) := by decide +kernel
theorem dX9_thing_105 : decode cX9_thing 105 = .ok (.iload_n 3, 1) := by decide +kernel
theorem dX9_thing_106 : decode cX9_thing 106 = .ok (.ifCond .ne 7, 3) := by decide +kernel
theorem dX9_thing_109 : decode cX9_thing 109 = .ok (.iconst (-1), 1) := by decide +kernel
theorem dX9_thing_110 : decode cX9_thing 110 = .ok (.goto 9, 3) := by decide +kernel
theorem dX9_thing_113 : decode cX9_thing 113 = .ok (.aload_n 0, 1) := by decide +kernel
theorem dX9_thing_114 : decode cX9_thing 114 = .ok (.iload_n 1, 1) := by decide +kernel
theorem dX9_thing_115 : decode cX9_thing 115 = .ok (.iconst 3, 1) := by decide +kernel
theorem dX9_thing_116 : decode cX9_thing 116 = .ok (.invokevirtual 300, 3) := by decide +kernel
theorem dX9_thing_119 : decode cX9_thing 119 = .ok (.ireturn, 1) := by decide +kernel
theorem dX9_thing_120 : decode cX9_thing 120 = .ok (.aload_n 0, 1) := by decide +kernel
theorem dX9_thing_121 : decode cX9_thing 121 = .ok (.iload_n 1, 1) := by decide +kernel
theorem dX9_thing_122 : decode cX9_thing 122 = .ok (.invokevirtual 305, 3) := by decide +kernel
theorem dX9_thing_125 : decode cX9_thing 125 = .ok (.ireturn, 1) := by decide +kernel
theorem dX9_isDead_0 : decode cX9_isDead 0 = .ok (.aload_n 0, 1) := by decide +kernel
theorem dX9_isDead_1 : decode cX9_isDead 1 = .ok (.getfield 7, 3) := by decide +kernel
theorem dX9_isDead_4 : decode cX9_isDead 4 = .ok (.bipush 32, 2) := by decide +kernel
theorem dX9_isDead_6 : decode cX9_isDead 6 = .ok (.iload_n 1, 1) := by decide +kernel
theorem dX9_isDead_7 : decode cX9_isDead 7 = .ok (.iadd, 1) := by decide +kernel
theorem dX9_isDead_8 : decode cX9_isDead 8 = .ok (.iaload, 1) := by decide +kernel
theorem dX9_isDead_9 : decode cX9_isDead 9 = .ok (.iconst 1, 1) := by decide +kernel
theorem dX9_isDead_10 : decode cX9_isDead 10 = .ok (.if_icmp .ne 7, 3) := by decide +kernel
theorem dX9_isDead_13 : decode cX9_isDead 13 = .ok (.iconst 1, 1) := by decide +kernel
theorem dX9_isDead_14 : decode cX9_isDead 14 = .ok (.goto 4, 3) := by decide +kernel
theorem dX9_isDead_17 : decode cX9_isDead 17 = .ok (.iconst 0, 1) := by decide +kernel
theorem dX9_isDead_18 : decode cX9_isDead 18 = .ok (.ireturn, 1) := by decide +kernel
theorem dX9_isKin_0 : decode cX9_isKin 0 = .ok (.iload_n 1, 1) := by decide +kernel
theorem dX9_isKin_1 : decode cX9_isKin 1 = .ok (.istore_n 2, 1) := by decide +kernel
theorem dX9_isKin_2 : decode cX9_isKin 2 = .ok (.aload_n 0, 1) := by decide +kernel
theorem dX9_isKin_3 : decode cX9_isKin 3 = .ok (.getfield 25, 3) := by decide +kernel
theorem dX9_isKin_6 : decode cX9_isKin 6 = .ok (.iload_n 2, 1) := by decide +kernel
theorem dX9_isKin_7 : decode cX9_isKin 7 = .ok (.iaload, 1) := by decide +kernel
theorem dX9_isKin_8 : decode cX9_isKin 8 = .ok (.iconst (-1), 1) := by decide +kernel
theorem dX9_isKin_9 : decode cX9_isKin 9 = .ok (.if_icmp .eq 13, 3) := by decide +kernel
theorem dX9_isKin_12 : decode cX9_isKin 12 = .ok (.aload_n 0, 1) := by decide +kernel
theorem dX9_isKin_13 : decode cX9_isKin 13 = .ok (.getfield 25, 3) := by decide +kernel
theorem dX9_isKin_16 : decode cX9_isKin 16 = .ok (.iload_n 2, 1) := by decide +kernel
theorem dX9_isKin_17 : decode cX9_isKin 17 = .ok (.iaload, 1) := by decide +kernel
theorem dX9_isKin_18 : decode cX9_isKin 18 = .ok (.istore_n 2, 1) := by decide +kernel
theorem dX9_isKin_19 : decode cX9_isKin 19 = .ok (.goto (-17), 3) := by decide +kernel
theorem dX9_isKin_22 : decode cX9_isKin 22 = .ok (.aload_n 0, 1) := by decide +kernel
theorem dX9_isKin_23 : decode cX9_isKin 23 = .ok (.getfield 28, 3) := by decide +kernel
theorem dX9_isKin_26 : decode cX9_isKin 26 = .ok (.iload_n 2, 1) := by decide +kernel
theorem dX9_isKin_27 : decode cX9_isKin 27 = .ok (.baload, 1) := by decide +kernel
theorem dX9_isKin_28 : decode cX9_isKin 28 = .ok (.ireturn, 1) := by decide +kernel
theorem dX9_laysStocks_0 : decode cX9_laysStocks 0 = .ok (.aload_n 0, 1) := by decide +kernel
theorem dX9_laysStocks_1 : decode cX9_laysStocks 1 = .ok (.getfield 281, 3) := by decide +kernel
theorem dX9_laysStocks_4 : decode cX9_laysStocks 4 = .ok (.iconst 1, 1) := by decide +kernel
theorem dX9_laysStocks_5 : decode cX9_laysStocks 5 = .ok (.isub, 1) := by decide +kernel
theorem dX9_laysStocks_6 : decode cX9_laysStocks 6 = .ok (.istore_n 1, 1) := by decide +kernel
theorem dX9_laysStocks_7 : decode cX9_laysStocks 7 = .ok (.iload_n 1, 1) := by decide +kernel
theorem dX9_laysStocks_8 : decode cX9_laysStocks 8 = .ok (.ifCond .lt 83, 3) := by decide +kernel
theorem dX9_laysStocks_11 : decode cX9_laysStocks 11 = .ok (.aload_n 0, 1) := by decide +kernel
theorem dX9_laysStocks_12 : decode cX9_laysStocks 12 = .ok (.getfield 61, 3) := by decide +kernel
theorem dX9_laysStocks_15 : decode cX9_laysStocks 15 = .ok (.iload_n 1, 1) := by decide +kernel
theorem dX9_laysStocks_16 : decode cX9_laysStocks 16 = .ok (.aload_n 0, 1) := by decide +kernel
theorem dX9_laysStocks_17 : decode cX9_laysStocks 17 = .ok (.iload_n 1, 1) := by decide +kernel
theorem dX9_laysStocks_18 : decode cX9_laysStocks 18 = .ok (.invokevirtual 308, 3) := by decide +kernel
theorem dX9_laysStocks_21 : decode cX9_laysStocks 21 = .ok (.ifCond .eq 7, 3) := by decide +kernel
theorem dX9_laysStocks_24 : decode cX9_laysStocks 24 = .ok (.iconst 0, 1) := by decide +kernel
theorem dX9_laysStocks_25 : decode cX9_laysStocks 25 = .ok (.goto 4, 3) := by decide +kernel
theorem dX9_laysStocks_28 : decode cX9_laysStocks 28 = .ok (.iconst 1, 1) := by decide +kernel
theorem dX9_laysStocks_29 : decode cX9_laysStocks 29 = .ok (.iastore, 1) := by decide +kernel
theorem dX9_laysStocks_30 : decode cX9_laysStocks 30 = .ok (.iload_n 1, 1) := by decide +kernel
theorem dX9_laysStocks_31 : decode cX9_laysStocks 31 = .ok (.iconst 1, 1) := by decide +kernel
theorem dX9_laysStocks_32 : decode cX9_laysStocks 32 = .ok (.iadd, 1) := by decide +kernel
theorem dX9_laysStocks_33 : decode cX9_laysStocks 33 = .ok (.istore_n 2, 1) := by decide +kernel
theorem dX9_laysStocks_34 : decode cX9_laysStocks 34 = .ok (.iload_n 2, 1) := by decide +kernel
theorem dX9_laysStocks_35 : decode cX9_laysStocks 35 = .ok (.aload_n 0, 1) := by decide +kernel
theorem dX9_laysStocks_36 : decode cX9_laysStocks 36 = .ok (.getfield 281, 3) := by decide +kernel
theorem dX9_laysStocks_39 : decode cX9_laysStocks 39 = .ok (.if_icmp .ge 46, 3) := by decide +kernel
theorem dX9_laysStocks_42 : decode cX9_laysStocks 42 = .ok (.aload_n 0, 1) := by decide +kernel
theorem dX9_laysStocks_43 : decode cX9_laysStocks 43 = .ok (.iload_n 1, 1) := by decide +kernel
theorem dX9_laysStocks_44 : decode cX9_laysStocks 44 = .ok (.invokevirtual 308, 3) := by decide +kernel
theorem dX9_laysStocks_47 : decode cX9_laysStocks 47 = .ok (.ifCond .eq 38, 3) := by decide +kernel
theorem dX9_laysStocks_50 : decode cX9_laysStocks 50 = .ok (.aload_n 0, 1) := by decide +kernel
theorem dX9_laysStocks_51 : decode cX9_laysStocks 51 = .ok (.getfield 61, 3) := by decide +kernel
theorem dX9_laysStocks_54 : decode cX9_laysStocks 54 = .ok (.iload_n 1, 1) := by decide +kernel
theorem dX9_laysStocks_55 : decode cX9_laysStocks 55 = .ok (.dup2, 1) := by decide +kernel
theorem dX9_laysStocks_56 : decode cX9_laysStocks 56 = .ok (.iaload, 1) := by decide +kernel
theorem dX9_laysStocks_57 : decode cX9_laysStocks 57 = .ok (.aload_n 0, 1) := by decide +kernel
theorem dX9_laysStocks_58 : decode cX9_laysStocks 58 = .ok (.getfield 25, 3) := by decide +kernel
theorem dX9_laysStocks_61 : decode cX9_laysStocks 61 = .ok (.iload_n 2, 1) := by decide +kernel
theorem dX9_laysStocks_62 : decode cX9_laysStocks 62 = .ok (.iaload, 1) := by decide +kernel
theorem dX9_laysStocks_63 : decode cX9_laysStocks 63 = .ok (.iload_n 1, 1) := by decide +kernel
theorem dX9_laysStocks_64 : decode cX9_laysStocks 64 = .ok (.if_icmp .ne 12, 3) := by decide +kernel
theorem dX9_laysStocks_67 : decode cX9_laysStocks 67 = .ok (.aload_n 0, 1) := by decide +kernel
theorem dX9_laysStocks_68 : decode cX9_laysStocks 68 = .ok (.getfield 61, 3) := by decide +kernel
theorem dX9_laysStocks_71 : decode cX9_laysStocks 71 = .ok (.iload_n 2, 1) := by decide +kernel
theorem dX9_laysStocks_72 : decode cX9_laysStocks 72 = .ok (.iaload, 1) := by decide +kernel
theorem dX9_laysStocks_73 : decode cX9_laysStocks 73 = .ok (.goto 4, 3) := by decide +kernel
theorem dX9_laysStocks_76 : decode cX9_laysStocks 76 = .ok (.iconst 0, 1) := by decide +kernel
theorem dX9_laysStocks_77 : decode cX9_laysStocks 77 = .ok (.iadd, 1) := by decide +kernel
theorem dX9_laysStocks_78 : decode cX9_laysStocks 78 = .ok (.iastore, 1) := by decide +kernel
theorem dX9_laysStocks_79 : decode cX9_laysStocks 79 = .ok (.iinc 2 1, 3) := by decide +kernel
theorem dX9_laysStocks_82 : decode cX9_laysStocks 82 = .ok (.goto (-48), 3) := by decide +kernel
theorem dX9_laysStocks_85 : decode cX9_laysStocks 85 = .ok (.iinc 1 (-1), 3) := by decide +kernel
theorem dX9_laysStocks_88 : decode cX9_laysStocks 88 = .ok (.goto (-81), 3) := by decide +kernel
theorem dX9_laysStocks_91 : decode cX9_laysStocks 91 = .ok (.return_, 1) := by decide +kernel
theorem dX9_laysStock_0 : decode cX9_laysStock 0 = .ok (.iconst 0, 1) := by decide +kernel
theorem dX9_laysStock_1 : decode cX9_laysStock 1 = .ok (.istore_n 2, 1) := by decide +kernel
theorem dX9_laysStock_2 : decode cX9_laysStock 2 = .ok (.iload_n 2, 1) := by decide +kernel
theorem dX9_laysStock_3 : decode cX9_laysStock 3 = .ok (.aload_n 0, 1) := by decide +kernel
theorem dX9_laysStock_4 : decode cX9_laysStock 4 = .ok (.getfield 281, 3) := by decide +kernel
theorem dX9_laysStock_7 : decode cX9_laysStock 7 = .ok (.if_icmp .ge 77, 3) := by decide +kernel
theorem dX9_laysStock_10 : decode cX9_laysStock 10 = .ok (.iload_n 2, 1) := by decide +kernel
theorem dX9_laysStock_11 : decode cX9_laysStock 11 = .ok (.iload_n 1, 1) := by decide +kernel
theorem dX9_laysStock_12 : decode cX9_laysStock 12 = .ok (.if_icmp .le 44, 3) := by decide +kernel
theorem dX9_laysStock_15 : decode cX9_laysStock 15 = .ok (.aload_n 0, 1) := by decide +kernel
theorem dX9_laysStock_16 : decode cX9_laysStock 16 = .ok (.getfield 25, 3) := by decide +kernel
theorem dX9_laysStock_19 : decode cX9_laysStock 19 = .ok (.iload_n 2, 1) := by decide +kernel
theorem dX9_laysStock_20 : decode cX9_laysStock 20 = .ok (.iaload, 1) := by decide +kernel
theorem dX9_laysStock_21 : decode cX9_laysStock 21 = .ok (.iconst (-1), 1) := by decide +kernel
theorem dX9_laysStock_22 : decode cX9_laysStock 22 = .ok (.if_icmp .eq 34, 3) := by decide +kernel
theorem dX9_laysStock_25 : decode cX9_laysStock 25 = .ok (.aload_n 0, 1) := by decide +kernel
theorem dX9_laysStock_26 : decode cX9_laysStock 26 = .ok (.getfield 64, 3) := by decide +kernel
theorem dX9_laysStock_29 : decode cX9_laysStock 29 = .ok (.aload_n 0, 1) := by decide +kernel
theorem dX9_laysStock_30 : decode cX9_laysStock 30 = .ok (.getfield 25, 3) := by decide +kernel
theorem dX9_laysStock_33 : decode cX9_laysStock 33 = .ok (.iload_n 2, 1) := by decide +kernel
theorem dX9_laysStock_34 : decode cX9_laysStock 34 = .ok (.iaload, 1) := by decide +kernel
theorem dX9_laysStock_35 : decode cX9_laysStock 35 = .ok (.baload, 1) := by decide +kernel
theorem dX9_laysStock_36 : decode cX9_laysStock 36 = .ok (.ifCond .eq 20, 3) := by decide +kernel
theorem dX9_laysStock_39 : decode cX9_laysStock 39 = .ok (.aload_n 0, 1) := by decide +kernel
theorem dX9_laysStock_40 : decode cX9_laysStock 40 = .ok (.aload_n 0, 1) := by decide +kernel
theorem dX9_laysStock_41 : decode cX9_laysStock 41 = .ok (.getfield 25, 3) := by decide +kernel
theorem dX9_laysStock_44 : decode cX9_laysStock 44 = .ok (.iload_n 2, 1) := by decide +kernel
theorem dX9_laysStock_45 : decode cX9_laysStock 45 = .ok (.iaload, 1) := by decide +kernel
theorem dX9_laysStock_46 : decode cX9_laysStock 46 = .ok (.invokevirtual 308, 3) := by decide +kernel
theorem dX9_laysStock_49 : decode cX9_laysStock 49 = .ok (.ifCond .eq 7, 3) := by decide +kernel
theorem dX9_laysStock_52 : decode cX9_laysStock 52 = .ok (.iconst 1, 1) := by decide +kernel
theorem dX9_laysStock_53 : decode cX9_laysStock 53 = .ok (.goto 4, 3) := by decide +kernel
theorem dX9_laysStock_56 : decode cX9_laysStock 56 = .ok (.iconst 0, 1) := by decide +kernel
theorem dX9_laysStock_57 : decode cX9_laysStock 57 = .ok (.istore_n 3, 1) := by decide +kernel
theorem dX9_laysStock_58 : decode cX9_laysStock 58 = .ok (.aload_n 0, 1) := by decide +kernel
theorem dX9_laysStock_59 : decode cX9_laysStock 59 = .ok (.getfield 64, 3) := by decide +kernel
theorem dX9_laysStock_62 : decode cX9_laysStock 62 = .ok (.iload_n 2, 1) := by decide +kernel
theorem dX9_laysStock_63 : decode cX9_laysStock 63 = .ok (.iload_n 2, 1) := by decide +kernel
theorem dX9_laysStock_64 : decode cX9_laysStock 64 = .ok (.iload_n 1, 1) := by decide +kernel
theorem dX9_laysStock_65 : decode cX9_laysStock 65 = .ok (.if_icmp .eq 7, 3) := by decide +kernel
theorem dX9_laysStock_68 : decode cX9_laysStock 68 = .ok (.iload_n 3, 1) := by decide +kernel
theorem dX9_laysStock_69 : decode cX9_laysStock 69 = .ok (.ifCond .eq 7, 3) := by decide +kernel
theorem dX9_laysStock_72 : decode cX9_laysStock 72 = .ok (.iconst 1, 1) := by decide +kernel
theorem dX9_laysStock_73 : decode cX9_laysStock 73 = .ok (.goto 4, 3) := by decide +kernel
theorem dX9_laysStock_76 : decode cX9_laysStock 76 = .ok (.iconst 0, 1) := by decide +kernel
theorem dX9_laysStock_77 : decode cX9_laysStock 77 = .ok (.bastore, 1) := by decide +kernel
theorem dX9_laysStock_78 : decode cX9_laysStock 78 = .ok (.iinc 2 1, 3) := by decide +kernel
theorem dX9_laysStock_81 : decode cX9_laysStock 81 = .ok (.goto (-79), 3) := by decide +kernel
theorem dX9_laysStock_84 : decode cX9_laysStock 84 = .ok (.return_, 1) := by decide +kernel
theorem dX9_person_0 : decode cX9_person 0 = .ok (.aload_n 0, 1) := by decide +kernel
theorem dX9_person_1 : decode cX9_person 1 = .ok (.aload_n 0, 1) := by decide +kernel
theorem dX9_person_2 : decode cX9_person 2 = .ok (.iload_n 1, 1) := by decide +kernel
theorem dX9_person_3 : decode cX9_person 3 = .ok (.invokevirtual 290, 3) := by decide +kernel
theorem dX9_person_6 : decode cX9_person 6 = .ok (.ifCond .ne 7, 3) := by decide +kernel
theorem dX9_person_9 : decode cX9_person 9 = .ok (.iconst 1, 1) := by decide +kernel
theorem dX9_person_10 : decode cX9_person 10 = .ok (.goto 20, 3) := by decide +kernel
theorem dX9_person_13 : decode cX9_person 13 = .ok (.iload_n 2, 1) := by decide +kernel
theorem dX9_person_14 : decode cX9_person 14 = .ok (.i2l, 1) := by decide +kernel
theorem dX9_person_15 : decode cX9_person 15 = .ok (.lconst 0, 1) := by decide +kernel
theorem dX9_person_16 : decode cX9_person 16 = .ok (.ldc2_w 141, 3) := by decide +kernel
theorem dX9_person_19 : decode cX9_person 19 = .ok (.invokestatic 143, 3) := by decide +kernel
theorem dX9_person_22 : decode cX9_person 22 = .ok (.ifCond .eq 7, 3) := by decide +kernel
theorem dX9_person_25 : decode cX9_person 25 = .ok (.iconst 0, 1) := by decide +kernel
theorem dX9_person_26 : decode cX9_person 26 = .ok (.goto 4, 3) := by decide +kernel
theorem dX9_person_29 : decode cX9_person 29 = .ok (.iconst 2, 1) := by decide +kernel
theorem dX9_person_30 : decode cX9_person 30 = .ok (.putfield 98, 3) := by decide +kernel
theorem dX9_person_33 : decode cX9_person 33 = .ok (.aload_n 0, 1) := by decide +kernel
theorem dX9_person_34 : decode cX9_person 34 = .ok (.getfield 98, 3) := by decide +kernel
theorem dX9_person_37 : decode cX9_person 37 = .ok (.ifCond .le 5, 3) := by decide +kernel
theorem dX9_person_40 : decode cX9_person 40 = .ok (.iconst 0, 1) := by decide +kernel
theorem dX9_person_41 : decode cX9_person 41 = .ok (.ireturn, 1) := by decide +kernel
theorem dX9_person_42 : decode cX9_person 42 = .ok (.aload_n 0, 1) := by decide +kernel
theorem dX9_person_43 : decode cX9_person 43 = .ok (.invokevirtual 311, 3) := by decide +kernel
theorem dX9_person_46 : decode cX9_person 46 = .ok (.iload_n 2, 1) := by decide +kernel
theorem dX9_person_47 : decode cX9_person 47 = .ok (.tableswitch 98 0 4 #[33, 40, 55, 69, 83], 33) := by decide +kernel
theorem dX9_person_80 : decode cX9_person 80 = .ok (.aload_n 0, 1) := by decide +kernel
theorem dX9_person_81 : decode cX9_person 81 = .ok (.getfield 25, 3) := by decide +kernel
theorem dX9_person_84 : decode cX9_person 84 = .ok (.iload_n 1, 1) := by decide +kernel
theorem dX9_person_85 : decode cX9_person 85 = .ok (.iaload, 1) := by decide +kernel
theorem dX9_person_86 : decode cX9_person 86 = .ok (.ireturn, 1) := by decide +kernel
theorem dX9_person_87 : decode cX9_person 87 = .ok (.aload_n 0, 1) := by decide +kernel
theorem dX9_person_88 : decode cX9_person 88 = .ok (.getfield 28, 3) := by decide +kernel
theorem dX9_person_91 : decode cX9_person 91 = .ok (.iload_n 1, 1) := by decide +kernel
theorem dX9_person_92 : decode cX9_person 92 = .ok (.baload, 1) := by decide +kernel
theorem dX9_person_93 : decode cX9_person 93 = .ok (.ifCond .eq 7, 3) := by decide +kernel
theorem dX9_person_96 : decode cX9_person 96 = .ok (.iconst 1, 1) := by decide +kernel
theorem dX9_person_97 : decode cX9_person 97 = .ok (.goto 4, 3) := by decide +kernel
theorem dX9_person_100 : decode cX9_person 100 = .ok (.iconst 0, 1) := by decide +kernel
theorem dX9_person_101 : decode cX9_person 101 = .ok (.ireturn, 1) := by decide +kernel
theorem dX9_person_102 : decode cX9_person 102 = .ok (.aload_n 0, 1) := by decide +kernel
theorem dX9_person_103 : decode cX9_person 103 = .ok (.iload_n 1, 1) := by decide +kernel
theorem dX9_person_104 : decode cX9_person 104 = .ok (.invokevirtual 314, 3) := by decide +kernel
theorem dX9_person_107 : decode cX9_person 107 = .ok (.ifCond .eq 7, 3) := by decide +kernel
theorem dX9_person_110 : decode cX9_person 110 = .ok (.iconst 1, 1) := by decide +kernel
theorem dX9_person_111 : decode cX9_person 111 = .ok (.goto 4, 3) := by decide +kernel
theorem dX9_person_114 : decode cX9_person 114 = .ok (.iconst 0, 1) := by decide +kernel
theorem dX9_person_115 : decode cX9_person 115 = .ok (.ireturn, 1) := by decide +kernel
theorem dX9_person_116 : decode cX9_person 116 = .ok (.aload_n 0, 1) := by decide +kernel
theorem dX9_person_117 : decode cX9_person 117 = .ok (.iload_n 1, 1) := by decide +kernel
theorem dX9_person_118 : decode cX9_person 118 = .ok (.invokevirtual 308, 3) := by decide +kernel
theorem dX9_person_121 : decode cX9_person 121 = .ok (.ifCond .eq 7, 3) := by decide +kernel
theorem dX9_person_124 : decode cX9_person 124 = .ok (.iconst 1, 1) := by decide +kernel
theorem dX9_person_125 : decode cX9_person 125 = .ok (.goto 4, 3) := by decide +kernel
theorem dX9_person_128 : decode cX9_person 128 = .ok (.iconst 0, 1) := by decide +kernel
theorem dX9_person_129 : decode cX9_person 129 = .ok (.ireturn, 1) := by decide +kernel
theorem dX9_person_130 : decode cX9_person 130 = .ok (.aload_n 0, 1) := by decide +kernel
theorem dX9_person_131 : decode cX9_person 131 = .ok (.getfield 61, 3) := by decide +kernel
theorem dX9_person_134 : decode cX9_person 134 = .ok (.iload_n 1, 1) := by decide +kernel
theorem dX9_person_135 : decode cX9_person 135 = .ok (.iaload, 1) := by decide +kernel
theorem dX9_person_136 : decode cX9_person 136 = .ok (.ifCond .ne 7, 3) := by decide +kernel
theorem dX9_person_139 : decode cX9_person 139 = .ok (.iconst 1, 1) := by decide +kernel
theorem dX9_person_140 : decode cX9_person 140 = .ok (.goto 4, 3) := by decide +kernel
theorem dX9_person_143 : decode cX9_person 143 = .ok (.iconst 0, 1) := by decide +kernel
theorem dX9_person_144 : decode cX9_person 144 = .ok (.ireturn, 1) := by decide +kernel
theorem dX9_person_145 : decode cX9_person 145 = .ok (.aload_n 0, 1) := by decide +kernel
theorem dX9_person_146 : decode cX9_person 146 = .ok (.getfield 61, 3) := by decide +kernel
theorem dX9_person_149 : decode cX9_person 149 = .ok (.iload_n 1, 1) := by decide +kernel
theorem dX9_person_150 : decode cX9_person 150 = .ok (.iaload, 1) := by decide +kernel
theorem dX9_person_151 : decode cX9_person 151 = .ok (.ireturn, 1) := by decide +kernel
theorem dX9_of_0 : decode cX9_of 0 = .ok (.aload_n 0, 1) := by decide +kernel
theorem dX9_of_1 : decode cX9_of 1 = .ok (.getfield 32, 3) := by decide +kernel
theorem dX9_of_4 : decode cX9_of 4 = .ok (.iconst 5, 1) := by decide +kernel
theorem dX9_of_5 : decode cX9_of 5 = .ok (.iload_n 1, 1) := by decide +kernel
theorem dX9_of_6 : decode cX9_of 6 = .ok (.imul, 1) := by decide +kernel
theorem dX9_of_7 : decode cX9_of 7 = .ok (.iload_n 2, 1) := by decide +kernel
theorem dX9_of_8 : decode cX9_of 8 = .ok (.iadd, 1) := by decide +kernel
theorem dX9_of_9 : decode cX9_of 9 = .ok (.iaload, 1) := by decide +kernel
theorem dX9_of_10 : decode cX9_of 10 = .ok (.ireturn, 1) := by decide +kernel
theorem dX9_lapses_0 : decode cX9_lapses 0 = .ok (.aload_n 0, 1) := by decide +kernel
theorem dX9_lapses_1 : decode cX9_lapses 1 = .ok (.iload_n 1, 1) := by decide +kernel
theorem dX9_lapses_2 : decode cX9_lapses 2 = .ok (.iconst 1, 1) := by decide +kernel
theorem dX9_lapses_3 : decode cX9_lapses 3 = .ok (.invokevirtual 317, 3) := by decide +kernel
theorem dX9_lapses_6 : decode cX9_lapses 6 = .ok (.istore_n 2, 1) := by decide +kernel
theorem dX9_lapses_7 : decode cX9_lapses 7 = .ok (.aload_n 0, 1) := by decide +kernel
theorem dX9_lapses_8 : decode cX9_lapses 8 = .ok (.invokevirtual 311, 3) := by decide +kernel
theorem dX9_lapses_11 : decode cX9_lapses 11 = .ok (.aload_n 0, 1) := by decide +kernel
theorem dX9_lapses_12 : decode cX9_lapses 12 = .ok (.getfield 7, 3) := by decide +kernel
theorem dX9_lapses_15 : decode cX9_lapses 15 = .ok (.bipush 44, 2) := by decide +kernel
theorem dX9_lapses_17 : decode cX9_lapses 17 = .ok (.iload_n 1, 1) := by decide +kernel
theorem dX9_lapses_18 : decode cX9_lapses 18 = .ok (.iadd, 1) := by decide +kernel
theorem dX9_lapses_19 : decode cX9_lapses 19 = .ok (.iaload, 1) := by decide +kernel
theorem dX9_lapses_20 : decode cX9_lapses 20 = .ok (.iconst 1, 1) := by decide +kernel
theorem dX9_lapses_21 : decode cX9_lapses 21 = .ok (.if_icmp .eq 28, 3) := by decide +kernel
theorem dX9_lapses_24 : decode cX9_lapses 24 = .ok (.aload_n 0, 1) := by decide +kernel
theorem dX9_lapses_25 : decode cX9_lapses 25 = .ok (.iload_n 2, 1) := by decide +kernel
theorem dX9_lapses_26 : decode cX9_lapses 26 = .ok (.invokevirtual 308, 3) := by decide +kernel
theorem dX9_lapses_29 : decode cX9_lapses 29 = .ok (.ifCond .eq 11, 3) := by decide +kernel
theorem dX9_lapses_32 : decode cX9_lapses 32 = .ok (.aload_n 0, 1) := by decide +kernel
theorem dX9_lapses_33 : decode cX9_lapses 33 = .ok (.iload_n 2, 1) := by decide +kernel
theorem dX9_lapses_34 : decode cX9_lapses 34 = .ok (.invokevirtual 314, 3) := by decide +kernel
theorem dX9_lapses_37 : decode cX9_lapses 37 = .ok (.ifCond .eq 12, 3) := by decide +kernel
theorem dX9_lapses_40 : decode cX9_lapses 40 = .ok (.aload_n 0, 1) := by decide +kernel
theorem dX9_lapses_41 : decode cX9_lapses 41 = .ok (.getfield 61, 3) := by decide +kernel
theorem dX9_lapses_44 : decode cX9_lapses 44 = .ok (.iload_n 2, 1) := by decide +kernel
theorem dX9_lapses_45 : decode cX9_lapses 45 = .ok (.iaload, 1) := by decide +kernel
theorem dX9_lapses_46 : decode cX9_lapses 46 = .ok (.ifCond .ne 7, 3) := by decide +kernel
theorem dX9_lapses_49 : decode cX9_lapses 49 = .ok (.iconst 1, 1) := by decide +kernel
theorem dX9_lapses_50 : decode cX9_lapses 50 = .ok (.goto 4, 3) := by decide +kernel
theorem dX9_lapses_53 : decode cX9_lapses 53 = .ok (.iconst 0, 1) := by decide +kernel
theorem dX9_lapses_54 : decode cX9_lapses 54 = .ok (.ireturn, 1) := by decide +kernel
theorem dX9_adeemed_0 : decode cX9_adeemed 0 = .ok (.aload_n 0, 1) := by decide +kernel
theorem dX9_adeemed_1 : decode cX9_adeemed 1 = .ok (.iload_n 1, 1) := by decide +kernel
theorem dX9_adeemed_2 : decode cX9_adeemed 2 = .ok (.iconst 2, 1) := by decide +kernel
theorem dX9_adeemed_3 : decode cX9_adeemed 3 = .ok (.invokevirtual 317, 3) := by decide +kernel
theorem dX9_adeemed_6 : decode cX9_adeemed 6 = .ok (.istore_n 2, 1) := by decide +kernel
theorem dX9_adeemed_7 : decode cX9_adeemed 7 = .ok (.aload_n 0, 1) := by decide +kernel
theorem dX9_adeemed_8 : decode cX9_adeemed 8 = .ok (.iload_n 1, 1) := by decide +kernel
theorem dX9_adeemed_9 : decode cX9_adeemed 9 = .ok (.iconst 0, 1) := by decide +kernel
theorem dX9_adeemed_10 : decode cX9_adeemed 10 = .ok (.invokevirtual 317, 3) := by decide +kernel
theorem dX9_adeemed_13 : decode cX9_adeemed 13 = .ok (.ifCond .ne 12, 3) := by decide +kernel
theorem dX9_adeemed_16 : decode cX9_adeemed 16 = .ok (.aload_n 0, 1) := by decide +kernel
theorem dX9_adeemed_17 : decode cX9_adeemed 17 = .ok (.iload_n 2, 1) := by decide +kernel
theorem dX9_adeemed_18 : decode cX9_adeemed 18 = .ok (.iconst 1, 1) := by decide +kernel
theorem dX9_adeemed_19 : decode cX9_adeemed 19 = .ok (.invokevirtual 300, 3) := by decide +kernel
theorem dX9_adeemed_22 : decode cX9_adeemed 22 = .ok (.ifCond .ne 7, 3) := by decide +kernel
theorem dX9_adeemed_25 : decode cX9_adeemed 25 = .ok (.iconst 0, 1) := by decide +kernel
theorem dX9_adeemed_26 : decode cX9_adeemed 26 = .ok (.goto 16, 3) := by decide +kernel
theorem dX9_adeemed_29 : decode cX9_adeemed 29 = .ok (.aload_n 0, 1) := by decide +kernel
theorem dX9_adeemed_30 : decode cX9_adeemed 30 = .ok (.iload_n 2, 1) := by decide +kernel
theorem dX9_adeemed_31 : decode cX9_adeemed 31 = .ok (.invokevirtual 305, 3) := by decide +kernel
theorem dX9_adeemed_34 : decode cX9_adeemed 34 = .ok (.ifCond .ne 7, 3) := by decide +kernel
theorem dX9_adeemed_37 : decode cX9_adeemed 37 = .ok (.iconst 2, 1) := by decide +kernel
theorem dX9_adeemed_38 : decode cX9_adeemed 38 = .ok (.goto 4, 3) := by decide +kernel
theorem dX9_adeemed_41 : decode cX9_adeemed 41 = .ok (.iconst 1, 1) := by decide +kernel
theorem dX9_adeemed_42 : decode cX9_adeemed 42 = .ok (.ireturn, 1) := by decide +kernel
theorem dX9_gift_0 : decode cX9_gift 0 = .ok (.aload_n 0, 1) := by decide +kernel
theorem dX9_gift_1 : decode cX9_gift 1 = .ok (.aload_n 0, 1) := by decide +kernel
theorem dX9_gift_2 : decode cX9_gift 2 = .ok (.iload_n 1, 1) := by decide +kernel
theorem dX9_gift_3 : decode cX9_gift 3 = .ok (.invokevirtual 319, 3) := by decide +kernel
theorem dX9_gift_6 : decode cX9_gift 6 = .ok (.ifCond .ne 7, 3) := by decide +kernel
theorem dX9_gift_9 : decode cX9_gift 9 = .ok (.iconst 1, 1) := by decide +kernel
theorem dX9_gift_10 : decode cX9_gift 10 = .ok (.goto 20, 3) := by decide +kernel
theorem dX9_gift_13 : decode cX9_gift 13 = .ok (.iload_n 2, 1) := by decide +kernel
theorem dX9_gift_14 : decode cX9_gift 14 = .ok (.i2l, 1) := by decide +kernel
theorem dX9_gift_15 : decode cX9_gift 15 = .ok (.lconst 0, 1) := by decide +kernel
theorem dX9_gift_16 : decode cX9_gift 16 = .ok (.ldc2_w 196, 3) := by decide +kernel
theorem dX9_gift_19 : decode cX9_gift 19 = .ok (.invokestatic 143, 3) := by decide +kernel
theorem dX9_gift_22 : decode cX9_gift 22 = .ok (.ifCond .eq 7, 3) := by decide +kernel
theorem dX9_gift_25 : decode cX9_gift 25 = .ok (.iconst 0, 1) := by decide +kernel
theorem dX9_gift_26 : decode cX9_gift 26 = .ok (.goto 4, 3) := by decide +kernel
theorem dX9_gift_29 : decode cX9_gift 29 = .ok (.iconst 2, 1) := by decide +kernel
theorem dX9_gift_30 : decode cX9_gift 30 = .ok (.putfield 98, 3) := by decide +kernel
theorem dX9_gift_33 : decode cX9_gift 33 = .ok (.aload_n 0, 1) := by decide +kernel
theorem dX9_gift_34 : decode cX9_gift 34 = .ok (.getfield 98, 3) := by decide +kernel
theorem dX9_gift_37 : decode cX9_gift 37 = .ok (.ifCond .le 5, 3) := by decide +kernel
theorem dX9_gift_40 : decode cX9_gift 40 = .ok (.iconst 0, 1) := by decide +kernel
theorem dX9_gift_41 : decode cX9_gift 41 = .ok (.ireturn, 1) := by decide +kernel
theorem dX9_gift_42 : decode cX9_gift 42 = .ok (.iload_n 2, 1) := by decide +kernel
theorem dX9_gift_43 : decode cX9_gift 43 = .ok (.iconst 5, 1) := by decide +kernel
theorem dX9_gift_44 : decode cX9_gift 44 = .ok (.if_icmp .ge 12, 3) := by decide +kernel
theorem dX9_gift_47 : decode cX9_gift 47 = .ok (.aload_n 0, 1) := by decide +kernel
theorem dX9_gift_48 : decode cX9_gift 48 = .ok (.iload_n 1, 1) := by decide +kernel
theorem dX9_gift_49 : decode cX9_gift 49 = .ok (.iload_n 2, 1) := by decide +kernel
theorem dX9_gift_50 : decode cX9_gift 50 = .ok (.invokevirtual 317, 3) := by decide +kernel
theorem dX9_gift_53 : decode cX9_gift 53 = .ok (.goto 29, 3) := by decide +kernel
theorem dX9_gift_56 : decode cX9_gift 56 = .ok (.iload_n 2, 1) := by decide +kernel
theorem dX9_gift_57 : decode cX9_gift 57 = .ok (.iconst 5, 1) := by decide +kernel
theorem dX9_gift_58 : decode cX9_gift 58 = .ok (.if_icmp .ne 19, 3) := by decide +kernel
theorem dX9_gift_61 : decode cX9_gift 61 = .ok (.aload_n 0, 1) := by decide +kernel
theorem dX9_gift_62 : decode cX9_gift 62 = .ok (.iload_n 1, 1) := by decide +kernel
theorem dX9_gift_63 : decode cX9_gift 63 = .ok (.invokevirtual 322, 3) := by decide +kernel
theorem dX9_gift_66 : decode cX9_gift 66 = .ok (.ifCond .eq 7, 3) := by decide +kernel
theorem dX9_gift_69 : decode cX9_gift 69 = .ok (.iconst 1, 1) := by decide +kernel
theorem dX9_gift_70 : decode cX9_gift 70 = .ok (.goto 12, 3) := by decide +kernel
theorem dX9_gift_73 : decode cX9_gift 73 = .ok (.iconst 0, 1) := by decide +kernel
theorem dX9_gift_74 : decode cX9_gift 74 = .ok (.goto 8, 3) := by decide +kernel
theorem dX9_gift_77 : decode cX9_gift 77 = .ok (.aload_n 0, 1) := by decide +kernel
theorem dX9_gift_78 : decode cX9_gift 78 = .ok (.iload_n 1, 1) := by decide +kernel
theorem dX9_gift_79 : decode cX9_gift 79 = .ok (.invokevirtual 325, 3) := by decide +kernel
theorem dX9_gift_82 : decode cX9_gift 82 = .ok (.ireturn, 1) := by decide +kernel
theorem dX9_remembers_0 : decode cX9_remembers 0 = .ok (.aload_n 0, 1) := by decide +kernel
theorem dX9_remembers_1 : decode cX9_remembers 1 = .ok (.getfield 284, 3) := by decide +kernel
theorem dX9_remembers_4 : decode cX9_remembers 4 = .ok (.bipush 16, 2) := by decide +kernel
theorem dX9_remembers_6 : decode cX9_remembers 6 = .ok (.if_icmp .ne 44, 3) := by decide +kernel
theorem dX9_remembers_9 : decode cX9_remembers 9 = .ok (.bipush 61, 2) := by decide +kernel
theorem dX9_remembers_11 : decode cX9_remembers 11 = .ok (.istore_n 1, 1) := by decide +kernel
theorem dX9_remembers_12 : decode cX9_remembers 12 = .ok (.iload_n 1, 1) := by decide +kernel
theorem dX9_remembers_13 : decode cX9_remembers 13 = .ok (.sipush 976, 3) := by decide +kernel
theorem dX9_remembers_16 : decode cX9_remembers 16 = .ok (.if_icmp .ge 24, 3) := by decide +kernel
theorem dX9_remembers_19 : decode cX9_remembers 19 = .ok (.aload_n 0, 1) := by decide +kernel
theorem dX9_remembers_20 : decode cX9_remembers 20 = .ok (.getfield 16, 3) := by decide +kernel
theorem dX9_remembers_23 : decode cX9_remembers 23 = .ok (.iload_n 1, 1) := by decide +kernel
theorem dX9_remembers_24 : decode cX9_remembers 24 = .ok (.bipush 61, 2) := by decide +kernel
theorem dX9_remembers_26 : decode cX9_remembers 26 = .ok (.isub, 1) := by decide +kernel
theorem dX9_remembers_27 : decode cX9_remembers 27 = .ok (.aload_n 0, 1) := by decide +kernel
theorem dX9_remembers_28 : decode cX9_remembers 28 = .ok (.getfield 16, 3) := by decide +kernel
theorem dX9_remembers_31 : decode cX9_remembers 31 = .ok (.iload_n 1, 1) := by decide +kernel
theorem dX9_remembers_32 : decode cX9_remembers 32 = .ok (.iaload, 1) := by decide +kernel
theorem dX9_remembers_33 : decode cX9_remembers 33 = .ok (.iastore, 1) := by decide +kernel
theorem dX9_remembers_34 : decode cX9_remembers 34 = .ok (.iinc 1 1, 3) := by decide +kernel
theorem dX9_remembers_37 : decode cX9_remembers 37 = .ok (.goto (-25), 3) := by decide +kernel
theorem dX9_remembers_40 : decode cX9_remembers 40 = .ok (.aload_n 0, 1) := by decide +kernel
theorem dX9_remembers_41 : decode cX9_remembers 41 = .ok (.dup, 1) := by decide +kernel
theorem dX9_remembers_42 : decode cX9_remembers 42 = .ok (.getfield 284, 3) := by decide +kernel
theorem dX9_remembers_45 : decode cX9_remembers 45 = .ok (.iconst 1, 1) := by decide +kernel
theorem dX9_remembers_46 : decode cX9_remembers 46 = .ok (.isub, 1) := by decide +kernel
theorem dX9_remembers_47 : decode cX9_remembers 47 = .ok (.putfield 284, 3) := by decide +kernel
theorem dX9_remembers_50 : decode cX9_remembers 50 = .ok (.iconst 0, 1) := by decide +kernel
theorem dX9_remembers_51 : decode cX9_remembers 51 = .ok (.istore_n 1, 1) := by decide +kernel
theorem dX9_remembers_52 : decode cX9_remembers 52 = .ok (.iload_n 1, 1) := by decide +kernel
theorem dX9_remembers_53 : decode cX9_remembers 53 = .ok (.bipush 61, 2) := by decide +kernel
theorem dX9_remembers_55 : decode cX9_remembers 55 = .ok (.if_icmp .ge 29, 3) := by decide +kernel
theorem dX9_remembers_58 : decode cX9_remembers 58 = .ok (.aload_n 0, 1) := by decide +kernel
theorem dX9_remembers_59 : decode cX9_remembers 59 = .ok (.getfield 16, 3) := by decide +kernel
theorem dX9_remembers_62 : decode cX9_remembers 62 = .ok (.bipush 61, 2) := by decide +kernel
theorem dX9_remembers_64 : decode cX9_remembers 64 = .ok (.aload_n 0, 1) := by decide +kernel
theorem dX9_remembers_65 : decode cX9_remembers 65 = .ok (.getfield 284, 3) := by decide +kernel
theorem dX9_remembers_68 : decode cX9_remembers 68 = .ok (.imul, 1) := by decide +kernel
theorem dX9_remembers_69 : decode cX9_remembers 69 = .ok (.iload_n 1, 1) := by decide +kernel
theorem dX9_remembers_70 : decode cX9_remembers 70 = .ok (.iadd, 1) := by decide +kernel
theorem dX9_remembers_71 : decode cX9_remembers 71 = .ok (.aload_n 0, 1) := by decide +kernel
theorem dX9_remembers_72 : decode cX9_remembers 72 = .ok (.getfield 7, 3) := by decide +kernel
theorem dX9_remembers_75 : decode cX9_remembers 75 = .ok (.iload_n 1, 1) := by decide +kernel
theorem dX9_remembers_76 : decode cX9_remembers 76 = .ok (.iaload, 1) := by decide +kernel
theorem dX9_remembers_77 : decode cX9_remembers 77 = .ok (.iastore, 1) := by decide +kernel
theorem dX9_remembers_78 : decode cX9_remembers 78 = .ok (.iinc 1 1, 3) := by decide +kernel
theorem dX9_remembers_81 : decode cX9_remembers 81 = .ok (.goto (-29), 3) := by decide +kernel
theorem dX9_remembers_84 : decode cX9_remembers 84 = .ok (.aload_n 0, 1) := by decide +kernel
theorem dX9_remembers_85 : decode cX9_remembers 85 = .ok (.dup, 1) := by decide +kernel
theorem dX9_remembers_86 : decode cX9_remembers 86 = .ok (.getfield 284, 3) := by decide +kernel
theorem dX9_remembers_89 : decode cX9_remembers 89 = .ok (.iconst 1, 1) := by decide +kernel
theorem dX9_remembers_90 : decode cX9_remembers 90 = .ok (.iadd, 1) := by decide +kernel
theorem dX9_remembers_91 : decode cX9_remembers 91 = .ok (.putfield 284, 3) := by decide +kernel
theorem dX9_remembers_94 : decode cX9_remembers 94 = .ok (.return_, 1) := by decide +kernel
theorem dX9_whyNotSold_0 : decode cX9_whyNotSold 0 = .ok (.iload_n 2, 1) := by decide +kernel
theorem dX9_whyNotSold_1 : decode cX9_whyNotSold 1 = .ok (.i2l, 1) := by decide +kernel
theorem dX9_whyNotSold_2 : decode cX9_whyNotSold 2 = .ok (.lconst 1, 1) := by decide +kernel
theorem dX9_whyNotSold_3 : decode cX9_whyNotSold 3 = .ok (.ldc2_w 328, 3) := by decide +kernel
theorem dX9_whyNotSold_6 : decode cX9_whyNotSold 6 = .ok (.invokestatic 143, 3) := by decide +kernel
theorem dX9_whyNotSold_9 : decode cX9_whyNotSold 9 = .ok (.ifCond .eq 14, 3) := by decide +kernel
theorem dX9_whyNotSold_12 : decode cX9_whyNotSold 12 = .ok (.iload_n 3, 1) := by decide +kernel
theorem dX9_whyNotSold_13 : decode cX9_whyNotSold 13 = .ok (.i2l, 1) := by decide +kernel
theorem dX9_whyNotSold_14 : decode cX9_whyNotSold 14 = .ok (.lconst 0, 1) := by decide +kernel
theorem dX9_whyNotSold_15 : decode cX9_whyNotSold 15 = .ok (.iload_n 2, 1) := by decide +kernel
theorem dX9_whyNotSold_16 : decode cX9_whyNotSold 16 = .ok (.i2l, 1) := by decide +kernel
theorem dX9_whyNotSold_17 : decode cX9_whyNotSold 17 = .ok (.invokestatic 143, 3) := by decide +kernel
theorem dX9_whyNotSold_20 : decode cX9_whyNotSold 20 = .ok (.ifCond .ne 5, 3) := by decide +kernel
theorem dX9_whyNotSold_23 : decode cX9_whyNotSold 23 = .ok (.iconst 2, 1) := by decide +kernel
theorem dX9_whyNotSold_24 : decode cX9_whyNotSold 24 = .ok (.ireturn, 1) := by decide +kernel
theorem dX9_whyNotSold_25 : decode cX9_whyNotSold 25 = .ok (.aload_n 0, 1) := by decide +kernel
theorem dX9_whyNotSold_26 : decode cX9_whyNotSold 26 = .ok (.iload_n 1, 1) := by decide +kernel
theorem dX9_whyNotSold_27 : decode cX9_whyNotSold 27 = .ok (.iconst 1, 1) := by decide +kernel
theorem dX9_whyNotSold_28 : decode cX9_whyNotSold 28 = .ok (.invokevirtual 300, 3) := by decide +kernel
theorem dX9_whyNotSold_31 : decode cX9_whyNotSold 31 = .ok (.ifCond .ne 19, 3) := by decide +kernel
theorem dX9_whyNotSold_34 : decode cX9_whyNotSold 34 = .ok (.aload_n 0, 1) := by decide +kernel
theorem dX9_whyNotSold_35 : decode cX9_whyNotSold 35 = .ok (.getfield 7, 3) := by decide +kernel
theorem dX9_whyNotSold_38 : decode cX9_whyNotSold 38 = .ok (.bipush 56, 2) := by decide +kernel
theorem dX9_whyNotSold_40 : decode cX9_whyNotSold 40 = .ok (.iaload, 1) := by decide +kernel
theorem dX9_whyNotSold_41 : decode cX9_whyNotSold 41 = .ok (.iload_n 2, 1) := by decide +kernel
theorem dX9_whyNotSold_42 : decode cX9_whyNotSold 42 = .ok (.iadd, 1) := by decide +kernel
theorem dX9_whyNotSold_43 : decode cX9_whyNotSold 43 = .ok (.iload_n 3, 1) := by decide +kernel
theorem dX9_whyNotSold_44 : decode cX9_whyNotSold 44 = .ok (.isub, 1) := by decide +kernel
theorem dX9_whyNotSold_45 : decode cX9_whyNotSold 45 = .ok (.ldc 240, 2) := by decide +kernel
theorem dX9_whyNotSold_47 : decode cX9_whyNotSold 47 = .ok (.if_icmp .le 7, 3) := by decide +kernel
theorem dX9_whyNotSold_50 : decode cX9_whyNotSold 50 = .ok (.iconst 3, 1) := by decide +kernel
theorem dX9_whyNotSold_51 : decode cX9_whyNotSold 51 = .ok (.goto 4, 3) := by decide +kernel
theorem dX9_whyNotSold_54 : decode cX9_whyNotSold 54 = .ok (.iconst 0, 1) := by decide +kernel
theorem dX9_whyNotSold_55 : decode cX9_whyNotSold 55 = .ok (.ireturn, 1) := by decide +kernel
theorem dX9_sells_0 : decode cX9_sells 0 = .ok (.aload_n 0, 1) := by decide +kernel
theorem dX9_sells_1 : decode cX9_sells 1 = .ok (.getfield 7, 3) := by decide +kernel
theorem dX9_sells_4 : decode cX9_sells 4 = .ok (.bipush 56, 2) := by decide +kernel
theorem dX9_sells_6 : decode cX9_sells 6 = .ok (.dup2, 1) := by decide +kernel
theorem dX9_sells_7 : decode cX9_sells 7 = .ok (.iaload, 1) := by decide +kernel
theorem dX9_sells_8 : decode cX9_sells 8 = .ok (.iload_n 2, 1) := by decide +kernel
theorem dX9_sells_9 : decode cX9_sells 9 = .ok (.iload_n 3, 1) := by decide +kernel
theorem dX9_sells_10 : decode cX9_sells 10 = .ok (.isub, 1) := by decide +kernel
theorem dX9_sells_11 : decode cX9_sells 11 = .ok (.iadd, 1) := by decide +kernel
theorem dX9_sells_12 : decode cX9_sells 12 = .ok (.iastore, 1) := by decide +kernel
theorem dX9_sells_13 : decode cX9_sells 13 = .ok (.aload_n 0, 1) := by decide +kernel
theorem dX9_sells_14 : decode cX9_sells 14 = .ok (.getfield 7, 3) := by decide +kernel
theorem dX9_sells_17 : decode cX9_sells 17 = .ok (.iconst 0, 1) := by decide +kernel
theorem dX9_sells_18 : decode cX9_sells 18 = .ok (.iconst 4, 1) := by decide +kernel
theorem dX9_sells_19 : decode cX9_sells 19 = .ok (.iload_n 1, 1) := by decide +kernel
theorem dX9_sells_20 : decode cX9_sells 20 = .ok (.imul, 1) := by decide +kernel
theorem dX9_sells_21 : decode cX9_sells 21 = .ok (.iadd, 1) := by decide +kernel
theorem dX9_sells_22 : decode cX9_sells 22 = .ok (.iconst 1, 1) := by decide +kernel
theorem dX9_sells_23 : decode cX9_sells 23 = .ok (.iadd, 1) := by decide +kernel
theorem dX9_sells_24 : decode cX9_sells 24 = .ok (.iconst 1, 1) := by decide +kernel
theorem dX9_sells_25 : decode cX9_sells 25 = .ok (.iastore, 1) := by decide +kernel
theorem dX9_sells_26 : decode cX9_sells 26 = .ok (.aload_n 0, 1) := by decide +kernel
theorem dX9_sells_27 : decode cX9_sells 27 = .ok (.getfield 7, 3) := by decide +kernel
theorem dX9_sells_30 : decode cX9_sells 30 = .ok (.iconst 0, 1) := by decide +kernel
theorem dX9_sells_31 : decode cX9_sells 31 = .ok (.iconst 4, 1) := by decide +kernel
theorem dX9_sells_32 : decode cX9_sells 32 = .ok (.iload_n 1, 1) := by decide +kernel
theorem dX9_sells_33 : decode cX9_sells 33 = .ok (.imul, 1) := by decide +kernel
theorem dX9_sells_34 : decode cX9_sells 34 = .ok (.iadd, 1) := by decide +kernel
theorem dX9_sells_35 : decode cX9_sells 35 = .ok (.iconst 2, 1) := by decide +kernel
theorem dX9_sells_36 : decode cX9_sells 36 = .ok (.iadd, 1) := by decide +kernel
theorem dX9_sells_37 : decode cX9_sells 37 = .ok (.iload_n 2, 1) := by decide +kernel
theorem dX9_sells_38 : decode cX9_sells 38 = .ok (.iastore, 1) := by decide +kernel
theorem dX9_sells_39 : decode cX9_sells 39 = .ok (.aload_n 0, 1) := by decide +kernel
theorem dX9_sells_40 : decode cX9_sells 40 = .ok (.getfield 7, 3) := by decide +kernel
theorem dX9_sells_43 : decode cX9_sells 43 = .ok (.iconst 0, 1) := by decide +kernel
theorem dX9_sells_44 : decode cX9_sells 44 = .ok (.iconst 4, 1) := by decide +kernel
theorem dX9_sells_45 : decode cX9_sells 45 = .ok (.iload_n 1, 1) := by decide +kernel
theorem dX9_sells_46 : decode cX9_sells 46 = .ok (.imul, 1) := by decide +kernel
theorem dX9_sells_47 : decode cX9_sells 47 = .ok (.iadd, 1) := by decide +kernel
theorem dX9_sells_48 : decode cX9_sells 48 = .ok (.iconst 3, 1) := by decide +kernel
theorem dX9_sells_49 : decode cX9_sells 49 = .ok (.iadd, 1) := by decide +kernel
theorem dX9_sells_50 : decode cX9_sells 50 = .ok (.iload_n 3, 1) := by decide +kernel
theorem dX9_sells_51 : decode cX9_sells 51 = .ok (.iastore, 1) := by decide +kernel
theorem dX9_sells_52 : decode cX9_sells 52 = .ok (.return_, 1) := by decide +kernel
theorem dX9_sell_0 : decode cX9_sell 0 = .ok (.aload_n 0, 1) := by decide +kernel
theorem dX9_sell_1 : decode cX9_sell 1 = .ok (.aload_n 0, 1) := by decide +kernel
theorem dX9_sell_2 : decode cX9_sell 2 = .ok (.iload_n 1, 1) := by decide +kernel
theorem dX9_sell_3 : decode cX9_sell 3 = .ok (.invokevirtual 294, 3) := by decide +kernel
theorem dX9_sell_6 : decode cX9_sell 6 = .ok (.ifCond .eq 13, 3) := by decide +kernel
theorem dX9_sell_9 : decode cX9_sell 9 = .ok (.aload_n 0, 1) := by decide +kernel
theorem dX9_sell_10 : decode cX9_sell 10 = .ok (.iload_n 1, 1) := by decide +kernel
theorem dX9_sell_11 : decode cX9_sell 11 = .ok (.iload_n 2, 1) := by decide +kernel
theorem dX9_sell_12 : decode cX9_sell 12 = .ok (.iload_n 3, 1) := by decide +kernel
theorem dX9_sell_13 : decode cX9_sell 13 = .ok (.invokevirtual 330, 3) := by decide +kernel
theorem dX9_sell_16 : decode cX9_sell 16 = .ok (.goto 4, 3) := by decide +kernel
theorem dX9_sell_19 : decode cX9_sell 19 = .ok (.iconst 1, 1) := by decide +kernel
theorem dX9_sell_20 : decode cX9_sell 20 = .ok (.putfield 98, 3) := by decide +kernel
theorem dX9_sell_23 : decode cX9_sell 23 = .ok (.aload_n 0, 1) := by decide +kernel
theorem dX9_sell_24 : decode cX9_sell 24 = .ok (.getfield 98, 3) := by decide +kernel
theorem dX9_sell_27 : decode cX9_sell 27 = .ok (.ifCond .le 5, 3) := by decide +kernel
theorem dX9_sell_30 : decode cX9_sell 30 = .ok (.iconst 0, 1) := by decide +kernel
theorem dX9_sell_31 : decode cX9_sell 31 = .ok (.ireturn, 1) := by decide +kernel
theorem dX9_sell_32 : decode cX9_sell 32 = .ok (.aload_n 0, 1) := by decide +kernel
theorem dX9_sell_33 : decode cX9_sell 33 = .ok (.invokevirtual 334, 3) := by decide +kernel
theorem dX9_sell_36 : decode cX9_sell 36 = .ok (.aload_n 0, 1) := by decide +kernel
theorem dX9_sell_37 : decode cX9_sell 37 = .ok (.iload_n 1, 1) := by decide +kernel
theorem dX9_sell_38 : decode cX9_sell 38 = .ok (.iload_n 2, 1) := by decide +kernel
theorem dX9_sell_39 : decode cX9_sell 39 = .ok (.iload_n 3, 1) := by decide +kernel
theorem dX9_sell_40 : decode cX9_sell 40 = .ok (.invokevirtual 337, 3) := by decide +kernel
theorem dX9_sell_43 : decode cX9_sell 43 = .ok (.aload_n 0, 1) := by decide +kernel
theorem dX9_sell_44 : decode cX9_sell 44 = .ok (.getfield 7, 3) := by decide +kernel
theorem dX9_sell_47 : decode cX9_sell 47 = .ok (.bipush 56, 2) := by decide +kernel
theorem dX9_sell_49 : decode cX9_sell 49 = .ok (.iaload, 1) := by decide +kernel
theorem dX9_sell_50 : decode cX9_sell 50 = .ok (.ireturn, 1) := by decide +kernel
theorem dX9_change_0 : decode cX9_change 0 = .ok (.aload_n 0, 1) := by decide +kernel
theorem dX9_change_1 : decode cX9_change 1 = .ok (.aload_n 0, 1) := by decide +kernel
theorem dX9_change_2 : decode cX9_change 2 = .ok (.iload_n 1, 1) := by decide +kernel
theorem dX9_change_3 : decode cX9_change 3 = .ok (.invokevirtual 294, 3) := by decide +kernel
theorem dX9_change_6 : decode cX9_change 6 = .ok (.ifCond .ne 7, 3) := by decide +kernel
theorem dX9_change_9 : decode cX9_change 9 = .ok (.iconst 1, 1) := by decide +kernel
theorem dX9_change_10 : decode cX9_change 10 = .ok (.goto 33, 3) := by decide +kernel
theorem dX9_change_13 : decode cX9_change 13 = .ok (.iload_n 2, 1) := by decide +kernel
theorem dX9_change_14 : decode cX9_change 14 = .ok (.i2l, 1) := by decide +kernel
theorem dX9_change_15 : decode cX9_change 15 = .ok (.lconst 1, 1) := by decide +kernel
theorem dX9_change_16 : decode cX9_change 16 = .ok (.ldc2_w 328, 3) := by decide +kernel
theorem dX9_change_19 : decode cX9_change 19 = .ok (.invokestatic 143, 3) := by decide +kernel
theorem dX9_change_22 : decode cX9_change 22 = .ok (.ifCond .ne 7, 3) := by decide +kernel
theorem dX9_change_25 : decode cX9_change 25 = .ok (.iconst 2, 1) := by decide +kernel
theorem dX9_change_26 : decode cX9_change 26 = .ok (.goto 17, 3) := by decide +kernel
theorem dX9_change_29 : decode cX9_change 29 = .ok (.aload_n 0, 1) := by decide +kernel
theorem dX9_change_30 : decode cX9_change 30 = .ok (.iload_n 1, 1) := by decide +kernel
theorem dX9_change_31 : decode cX9_change 31 = .ok (.iconst 1, 1) := by decide +kernel
theorem dX9_change_32 : decode cX9_change 32 = .ok (.invokevirtual 300, 3) := by decide +kernel
theorem dX9_change_35 : decode cX9_change 35 = .ok (.ifCond .ne 7, 3) := by decide +kernel
theorem dX9_change_38 : decode cX9_change 38 = .ok (.iconst 0, 1) := by decide +kernel
theorem dX9_change_39 : decode cX9_change 39 = .ok (.goto 4, 3) := by decide +kernel
theorem dX9_change_42 : decode cX9_change 42 = .ok (.iconst 3, 1) := by decide +kernel
theorem dX9_change_43 : decode cX9_change 43 = .ok (.putfield 98, 3) := by decide +kernel
theorem dX9_change_46 : decode cX9_change 46 = .ok (.aload_n 0, 1) := by decide +kernel
theorem dX9_change_47 : decode cX9_change 47 = .ok (.getfield 98, 3) := by decide +kernel
theorem dX9_change_50 : decode cX9_change 50 = .ok (.ifCond .le 5, 3) := by decide +kernel
theorem dX9_change_53 : decode cX9_change 53 = .ok (.iconst 0, 1) := by decide +kernel
theorem dX9_change_54 : decode cX9_change 54 = .ok (.ireturn, 1) := by decide +kernel
theorem dX9_change_55 : decode cX9_change 55 = .ok (.aload_n 0, 1) := by decide +kernel
theorem dX9_change_56 : decode cX9_change 56 = .ok (.invokevirtual 334, 3) := by decide +kernel
theorem dX9_change_59 : decode cX9_change 59 = .ok (.aload_n 0, 1) := by decide +kernel
theorem dX9_change_60 : decode cX9_change 60 = .ok (.iload_n 1, 1) := by decide +kernel
theorem dX9_change_61 : decode cX9_change 61 = .ok (.iconst 0, 1) := by decide +kernel
theorem dX9_change_62 : decode cX9_change 62 = .ok (.invokevirtual 300, 3) := by decide +kernel
theorem dX9_change_65 : decode cX9_change 65 = .ok (.istore_n 3, 1) := by decide +kernel
theorem dX9_change_66 : decode cX9_change 66 = .ok (.aload_n 0, 1) := by decide +kernel
theorem dX9_change_67 : decode cX9_change 67 = .ok (.getfield 7, 3) := by decide +kernel
theorem dX9_change_70 : decode cX9_change 70 = .ok (.iconst 0, 1) := by decide +kernel
theorem dX9_change_71 : decode cX9_change 71 = .ok (.iconst 4, 1) := by decide +kernel
theorem dX9_change_72 : decode cX9_change 72 = .ok (.iload_n 1, 1) := by decide +kernel
theorem dX9_change_73 : decode cX9_change 73 = .ok (.imul, 1) := by decide +kernel
theorem dX9_change_74 : decode cX9_change 74 = .ok (.iadd, 1) := by decide +kernel
theorem dX9_change_75 : decode cX9_change 75 = .ok (.iconst 0, 1) := by decide +kernel
theorem dX9_change_76 : decode cX9_change 76 = .ok (.iadd, 1) := by decide +kernel
theorem dX9_change_77 : decode cX9_change 77 = .ok (.iload_n 2, 1) := by decide +kernel
theorem dX9_change_78 : decode cX9_change 78 = .ok (.iastore, 1) := by decide +kernel
theorem dX9_change_79 : decode cX9_change 79 = .ok (.iload_n 3, 1) := by decide +kernel
theorem dX9_change_80 : decode cX9_change 80 = .ok (.ireturn, 1) := by decide +kernel
theorem dX9_lose_0 : decode cX9_lose 0 = .ok (.aload_n 0, 1) := by decide +kernel
theorem dX9_lose_1 : decode cX9_lose 1 = .ok (.aload_n 0, 1) := by decide +kernel
theorem dX9_lose_2 : decode cX9_lose 2 = .ok (.iload_n 1, 1) := by decide +kernel
theorem dX9_lose_3 : decode cX9_lose 3 = .ok (.invokevirtual 294, 3) := by decide +kernel
theorem dX9_lose_6 : decode cX9_lose 6 = .ok (.ifCond .ne 7, 3) := by decide +kernel
theorem dX9_lose_9 : decode cX9_lose 9 = .ok (.iconst 1, 1) := by decide +kernel
theorem dX9_lose_10 : decode cX9_lose 10 = .ok (.goto 33, 3) := by decide +kernel
theorem dX9_lose_13 : decode cX9_lose 13 = .ok (.iload_n 2, 1) := by decide +kernel
theorem dX9_lose_14 : decode cX9_lose 14 = .ok (.i2l, 1) := by decide +kernel
theorem dX9_lose_15 : decode cX9_lose 15 = .ok (.lconst 0, 1) := by decide +kernel
theorem dX9_lose_16 : decode cX9_lose 16 = .ok (.ldc2_w 328, 3) := by decide +kernel
theorem dX9_lose_19 : decode cX9_lose 19 = .ok (.invokestatic 143, 3) := by decide +kernel
theorem dX9_lose_22 : decode cX9_lose 22 = .ok (.ifCond .ne 7, 3) := by decide +kernel
theorem dX9_lose_25 : decode cX9_lose 25 = .ok (.iconst 2, 1) := by decide +kernel
theorem dX9_lose_26 : decode cX9_lose 26 = .ok (.goto 17, 3) := by decide +kernel
theorem dX9_lose_29 : decode cX9_lose 29 = .ok (.aload_n 0, 1) := by decide +kernel
theorem dX9_lose_30 : decode cX9_lose 30 = .ok (.iload_n 1, 1) := by decide +kernel
theorem dX9_lose_31 : decode cX9_lose 31 = .ok (.iconst 1, 1) := by decide +kernel
theorem dX9_lose_32 : decode cX9_lose 32 = .ok (.invokevirtual 300, 3) := by decide +kernel
theorem dX9_lose_35 : decode cX9_lose 35 = .ok (.ifCond .ne 7, 3) := by decide +kernel
theorem dX9_lose_38 : decode cX9_lose 38 = .ok (.iconst 0, 1) := by decide +kernel
theorem dX9_lose_39 : decode cX9_lose 39 = .ok (.goto 4, 3) := by decide +kernel
theorem dX9_lose_42 : decode cX9_lose 42 = .ok (.iconst 3, 1) := by decide +kernel
theorem dX9_lose_43 : decode cX9_lose 43 = .ok (.putfield 98, 3) := by decide +kernel
theorem dX9_lose_46 : decode cX9_lose 46 = .ok (.aload_n 0, 1) := by decide +kernel
theorem dX9_lose_47 : decode cX9_lose 47 = .ok (.getfield 98, 3) := by decide +kernel
theorem dX9_lose_50 : decode cX9_lose 50 = .ok (.ifCond .le 5, 3) := by decide +kernel
theorem dX9_lose_53 : decode cX9_lose 53 = .ok (.iconst 0, 1) := by decide +kernel
theorem dX9_lose_54 : decode cX9_lose 54 = .ok (.ireturn, 1) := by decide +kernel
theorem dX9_lose_55 : decode cX9_lose 55 = .ok (.aload_n 0, 1) := by decide +kernel
theorem dX9_lose_56 : decode cX9_lose 56 = .ok (.invokevirtual 334, 3) := by decide +kernel
theorem dX9_lose_59 : decode cX9_lose 59 = .ok (.aload_n 0, 1) := by decide +kernel
theorem dX9_lose_60 : decode cX9_lose 60 = .ok (.getfield 7, 3) := by decide +kernel
theorem dX9_lose_63 : decode cX9_lose 63 = .ok (.iconst 0, 1) := by decide +kernel
theorem dX9_lose_64 : decode cX9_lose 64 = .ok (.iconst 4, 1) := by decide +kernel
theorem dX9_lose_65 : decode cX9_lose 65 = .ok (.iload_n 1, 1) := by decide +kernel
theorem dX9_lose_66 : decode cX9_lose 66 = .ok (.imul, 1) := by decide +kernel
theorem dX9_lose_67 : decode cX9_lose 67 = .ok (.iadd, 1) := by decide +kernel
theorem dX9_lose_68 : decode cX9_lose 68 = .ok (.iconst 1, 1) := by decide +kernel
theorem dX9_lose_69 : decode cX9_lose 69 = .ok (.iadd, 1) := by decide +kernel
theorem dX9_lose_70 : decode cX9_lose 70 = .ok (.iconst 2, 1) := by decide +kernel
theorem dX9_lose_71 : decode cX9_lose 71 = .ok (.iastore, 1) := by decide +kernel
theorem dX9_lose_72 : decode cX9_lose 72 = .ok (.aload_n 0, 1) := by decide +kernel
theorem dX9_lose_73 : decode cX9_lose 73 = .ok (.getfield 7, 3) := by decide +kernel
theorem dX9_lose_76 : decode cX9_lose 76 = .ok (.iconst 0, 1) := by decide +kernel
theorem dX9_lose_77 : decode cX9_lose 77 = .ok (.iconst 4, 1) := by decide +kernel
theorem dX9_lose_78 : decode cX9_lose 78 = .ok (.iload_n 1, 1) := by decide +kernel
theorem dX9_lose_79 : decode cX9_lose 79 = .ok (.imul, 1) := by decide +kernel
theorem dX9_lose_80 : decode cX9_lose 80 = .ok (.iadd, 1) := by decide +kernel
theorem dX9_lose_81 : decode cX9_lose 81 = .ok (.iconst 3, 1) := by decide +kernel
theorem dX9_lose_82 : decode cX9_lose 82 = .ok (.iadd, 1) := by decide +kernel
theorem dX9_lose_83 : decode cX9_lose 83 = .ok (.iload_n 2, 1) := by decide +kernel
theorem dX9_lose_84 : decode cX9_lose 84 = .ok (.iastore, 1) := by decide +kernel
theorem dX9_lose_85 : decode cX9_lose 85 = .ok (.aload_n 0, 1) := by decide +kernel
theorem dX9_lose_86 : decode cX9_lose 86 = .ok (.iload_n 1, 1) := by decide +kernel
theorem dX9_lose_87 : decode cX9_lose 87 = .ok (.iconst 0, 1) := by decide +kernel
theorem dX9_lose_88 : decode cX9_lose 88 = .ok (.invokevirtual 300, 3) := by decide +kernel
theorem dX9_lose_91 : decode cX9_lose 91 = .ok (.ireturn, 1) := by decide +kernel
theorem dX9_living_0 : decode cX9_living 0 = .ok (.iconst 0, 1) := by decide +kernel
theorem dX9_living_1 : decode cX9_living 1 = .ok (.istore_n 1, 1) := by decide +kernel
theorem dX9_living_2 : decode cX9_living 2 = .ok (.iconst 0, 1) := by decide +kernel
theorem dX9_living_3 : decode cX9_living 3 = .ok (.istore_n 2, 1) := by decide +kernel
theorem dX9_living_4 : decode cX9_living 4 = .ok (.iload_n 2, 1) := by decide +kernel
theorem dX9_living_5 : decode cX9_living 5 = .ok (.aload_n 0, 1) := by decide +kernel
theorem dX9_living_6 : decode cX9_living 6 = .ok (.getfield 281, 3) := by decide +kernel
theorem dX9_living_9 : decode cX9_living 9 = .ok (.if_icmp .ge 25, 3) := by decide +kernel
theorem dX9_living_12 : decode cX9_living 12 = .ok (.iload_n 1, 1) := by decide +kernel
theorem dX9_living_13 : decode cX9_living 13 = .ok (.aload_n 0, 1) := by decide +kernel
theorem dX9_living_14 : decode cX9_living 14 = .ok (.iload_n 2, 1) := by decide +kernel
theorem dX9_living_15 : decode cX9_living 15 = .ok (.invokevirtual 308, 3) := by decide +kernel
theorem dX9_living_18 : decode cX9_living 18 = .ok (.ifCond .eq 7, 3) := by decide +kernel

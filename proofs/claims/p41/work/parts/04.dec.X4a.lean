theorem dX4_init_0 : decode cX4_init 0 = .ok (.aload_n 0, 1) := by decide +kernel
theorem dX4_init_1 : decode cX4_init 1 = .ok (.invokespecial 3, 3) := by decide +kernel
theorem dX4_init_4 : decode cX4_init 4 = .ok (.aload_n 0, 1) := by decide +kernel
theorem dX4_init_5 : decode cX4_init 5 = .ok (.new 9, 3) := by decide +kernel
theorem dX4_init_8 : decode cX4_init 8 = .ok (.dup, 1) := by decide +kernel
theorem dX4_init_9 : decode cX4_init 9 = .ok (.invokespecial 11, 3) := by decide +kernel
theorem dX4_init_12 : decode cX4_init 12 = .ok (.putfield 12, 3) := by decide +kernel
theorem dX4_init_15 : decode cX4_init 15 = .ok (.aload_n 0, 1) := by decide +kernel
theorem dX4_init_16 : decode cX4_init 16 = .ok (.new 18, 3) := by decide +kernel
theorem dX4_init_19 : decode cX4_init 19 = .ok (.dup, 1) := by decide +kernel
theorem dX4_init_20 : decode cX4_init 20 = .ok (.invokespecial 20, 3) := by decide +kernel
theorem dX4_init_23 : decode cX4_init 23 = .ok (.putfield 21, 3) := by decide +kernel
theorem dX4_init_26 : decode cX4_init 26 = .ok (.aload_n 0, 1) := by decide +kernel
theorem dX4_init_27 : decode cX4_init 27 = .ok (.iconst (-1), 1) := by decide +kernel
theorem dX4_init_28 : decode cX4_init 28 = .ok (.putfield 25, 3) := by decide +kernel
theorem dX4_init_31 : decode cX4_init 31 = .ok (.aload_n 0, 1) := by decide +kernel
theorem dX4_init_32 : decode cX4_init 32 = .ok (.aload_n 1, 1) := by decide +kernel
theorem dX4_init_33 : decode cX4_init 33 = .ok (.putfield 29, 3) := by decide +kernel
theorem dX4_init_36 : decode cX4_init 36 = .ok (.return_, 1) := by decide +kernel
theorem dX4_begin_0 : decode cX4_begin 0 = .ok (.aload_n 0, 1) := by decide +kernel
theorem dX4_begin_1 : decode cX4_begin 1 = .ok (.iload_n 1, 1) := by decide +kernel
theorem dX4_begin_2 : decode cX4_begin 2 = .ok (.putfield 33, 3) := by decide +kernel
theorem dX4_begin_5 : decode cX4_begin 5 = .ok (.aload_n 0, 1) := by decide +kernel
theorem dX4_begin_6 : decode cX4_begin 6 = .ok (.iconst 0, 1) := by decide +kernel
theorem dX4_begin_7 : decode cX4_begin 7 = .ok (.putfield 36, 3) := by decide +kernel
theorem dX4_begin_10 : decode cX4_begin 10 = .ok (.aload_n 0, 1) := by decide +kernel
theorem dX4_begin_11 : decode cX4_begin 11 = .ok (.iconst (-1), 1) := by decide +kernel
theorem dX4_begin_12 : decode cX4_begin 12 = .ok (.putfield 25, 3) := by decide +kernel
theorem dX4_begin_15 : decode cX4_begin 15 = .ok (.aload_n 0, 1) := by decide +kernel
theorem dX4_begin_16 : decode cX4_begin 16 = .ok (.getfield 12, 3) := by decide +kernel
theorem dX4_begin_19 : decode cX4_begin 19 = .ok (.invokevirtual 39, 3) := by decide +kernel
theorem dX4_begin_22 : decode cX4_begin 22 = .ok (.aload_n 0, 1) := by decide +kernel
theorem dX4_begin_23 : decode cX4_begin 23 = .ok (.getfield 21, 3) := by decide +kernel
theorem dX4_begin_26 : decode cX4_begin 26 = .ok (.invokevirtual 42, 3) := by decide +kernel
theorem dX4_begin_29 : decode cX4_begin 29 = .ok (.aload_n 0, 1) := by decide +kernel
theorem dX4_begin_30 : decode cX4_begin 30 = .ok (.invokevirtual 43, 3) := by decide +kernel
theorem dX4_begin_33 : decode cX4_begin 33 = .ok (.return_, 1) := by decide +kernel
theorem dX4_hasMore_0 : decode cX4_hasMore 0 = .ok (.aload_n 0, 1) := by decide +kernel
theorem dX4_hasMore_1 : decode cX4_hasMore 1 = .ok (.getfield 36, 3) := by decide +kernel
theorem dX4_hasMore_4 : decode cX4_hasMore 4 = .ok (.aload_n 0, 1) := by decide +kernel
theorem dX4_hasMore_5 : decode cX4_hasMore 5 = .ok (.getfield 33, 3) := by decide +kernel
theorem dX4_hasMore_8 : decode cX4_hasMore 8 = .ok (.if_icmp .ge 7, 3) := by decide +kernel
theorem dX4_hasMore_11 : decode cX4_hasMore 11 = .ok (.iconst 1, 1) := by decide +kernel
theorem dX4_hasMore_12 : decode cX4_hasMore 12 = .ok (.goto 4, 3) := by decide +kernel
theorem dX4_hasMore_15 : decode cX4_hasMore 15 = .ok (.iconst 0, 1) := by decide +kernel
theorem dX4_hasMore_16 : decode cX4_hasMore 16 = .ok (.ireturn, 1) := by decide +kernel
theorem dX4_readLine_0 : decode cX4_readLine 0 = .ok (.aload_n 0, 1) := by decide +kernel
theorem dX4_readLine_1 : decode cX4_readLine 1 = .ok (.invokevirtual 46, 3) := by decide +kernel
theorem dX4_readLine_4 : decode cX4_readLine 4 = .ok (.getstatic 49, 3) := by decide +kernel
theorem dX4_readLine_7 : decode cX4_readLine 7 = .ok (.aload_n 0, 1) := by decide +kernel
theorem dX4_readLine_8 : decode cX4_readLine 8 = .ok (.invokevirtual 55, 3) := by decide +kernel
theorem dX4_readLine_11 : decode cX4_readLine 11 = .ok (.invokevirtual 59, 3) := by decide +kernel
theorem dX4_readLine_14 : decode cX4_readLine 14 = .ok (.iaload, 1) := by decide +kernel
theorem dX4_readLine_15 : decode cX4_readLine 15 = .ok (.tableswitch 262 1 17 #[81, 88, 109, 130, 138, 146, 153, 161, 169, 177, 185, 192, 199, 206, 213, 234, 255], 81) := by decide +kernel
theorem dX4_readLine_96 : decode cX4_readLine 96 = .ok (.aload_n 0, 1) := by decide +kernel
theorem dX4_readLine_97 : decode cX4_readLine 97 = .ok (.invokevirtual 65, 3) := by decide +kernel
theorem dX4_readLine_100 : decode cX4_readLine 100 = .ok (.goto 186, 3) := by decide +kernel
theorem dX4_readLine_103 : decode cX4_readLine 103 = .ok (.aload_n 0, 1) := by decide +kernel
theorem dX4_readLine_104 : decode cX4_readLine 104 = .ok (.getfield 21, 3) := by decide +kernel
theorem dX4_readLine_107 : decode cX4_readLine 107 = .ok (.iconst 0, 1) := by decide +kernel
theorem dX4_readLine_108 : decode cX4_readLine 108 = .ok (.aload_n 0, 1) := by decide +kernel
theorem dX4_readLine_109 : decode cX4_readLine 109 = .ok (.iconst 0, 1) := by decide +kernel
theorem dX4_readLine_110 : decode cX4_readLine 110 = .ok (.getstatic 68, 3) := by decide +kernel
theorem dX4_readLine_113 : decode cX4_readLine 113 = .ok (.iconst 0, 1) := by decide +kernel
theorem dX4_readLine_114 : decode cX4_readLine 114 = .ok (.iaload, 1) := by decide +kernel
theorem dX4_readLine_115 : decode cX4_readLine 115 = .ok (.invokevirtual 71, 3) := by decide +kernel
theorem dX4_readLine_118 : decode cX4_readLine 118 = .ok (.invokevirtual 75, 3) := by decide +kernel
theorem dX4_readLine_121 : decode cX4_readLine 121 = .ok (.goto 165, 3) := by decide +kernel
theorem dX4_readLine_124 : decode cX4_readLine 124 = .ok (.aload_n 0, 1) := by decide +kernel
theorem dX4_readLine_125 : decode cX4_readLine 125 = .ok (.getfield 21, 3) := by decide +kernel
theorem dX4_readLine_128 : decode cX4_readLine 128 = .ok (.iconst 1, 1) := by decide +kernel
theorem dX4_readLine_129 : decode cX4_readLine 129 = .ok (.aload_n 0, 1) := by decide +kernel
theorem dX4_readLine_130 : decode cX4_readLine 130 = .ok (.iconst 0, 1) := by decide +kernel
theorem dX4_readLine_131 : decode cX4_readLine 131 = .ok (.getstatic 68, 3) := by decide +kernel
theorem dX4_readLine_134 : decode cX4_readLine 134 = .ok (.iconst 1, 1) := by decide +kernel
theorem dX4_readLine_135 : decode cX4_readLine 135 = .ok (.iaload, 1) := by decide +kernel
theorem dX4_readLine_136 : decode cX4_readLine 136 = .ok (.invokevirtual 71, 3) := by decide +kernel
theorem dX4_readLine_139 : decode cX4_readLine 139 = .ok (.invokevirtual 75, 3) := by decide +kernel
theorem dX4_readLine_142 : decode cX4_readLine 142 = .ok (.goto 144, 3) := by decide +kernel
theorem dX4_readLine_145 : decode cX4_readLine 145 = .ok (.aload_n 0, 1) := by decide +kernel
theorem dX4_readLine_146 : decode cX4_readLine 146 = .ok (.iconst 1, 1) := by decide +kernel
theorem dX4_readLine_147 : decode cX4_readLine 147 = .ok (.invokevirtual 79, 3) := by decide +kernel
theorem dX4_readLine_150 : decode cX4_readLine 150 = .ok (.goto 136, 3) := by decide +kernel
theorem dX4_readLine_153 : decode cX4_readLine 153 = .ok (.aload_n 0, 1) := by decide +kernel
theorem dX4_readLine_154 : decode cX4_readLine 154 = .ok (.iconst 0, 1) := by decide +kernel
theorem dX4_readLine_155 : decode cX4_readLine 155 = .ok (.invokevirtual 79, 3) := by decide +kernel
theorem dX4_readLine_158 : decode cX4_readLine 158 = .ok (.goto 128, 3) := by decide +kernel
theorem dX4_readLine_161 : decode cX4_readLine 161 = .ok (.aload_n 0, 1) := by decide +kernel
theorem dX4_readLine_162 : decode cX4_readLine 162 = .ok (.invokevirtual 83, 3) := by decide +kernel
theorem dX4_readLine_165 : decode cX4_readLine 165 = .ok (.goto 121, 3) := by decide +kernel
theorem dX4_readLine_168 : decode cX4_readLine 168 = .ok (.aload_n 0, 1) := by decide +kernel
theorem dX4_readLine_169 : decode cX4_readLine 169 = .ok (.iconst 0, 1) := by decide +kernel
theorem dX4_readLine_170 : decode cX4_readLine 170 = .ok (.invokevirtual 86, 3) := by decide +kernel
theorem dX4_readLine_173 : decode cX4_readLine 173 = .ok (.goto 113, 3) := by decide +kernel
theorem dX4_readLine_176 : decode cX4_readLine 176 = .ok (.aload_n 0, 1) := by decide +kernel
theorem dX4_readLine_177 : decode cX4_readLine 177 = .ok (.iconst 1, 1) := by decide +kernel
theorem dX4_readLine_178 : decode cX4_readLine 178 = .ok (.invokevirtual 86, 3) := by decide +kernel
theorem dX4_readLine_181 : decode cX4_readLine 181 = .ok (.goto 105, 3) := by decide +kernel
theorem dX4_readLine_184 : decode cX4_readLine 184 = .ok (.aload_n 0, 1) := by decide +kernel
theorem dX4_readLine_185 : decode cX4_readLine 185 = .ok (.iconst 2, 1) := by decide +kernel
theorem dX4_readLine_186 : decode cX4_readLine 186 = .ok (.invokevirtual 86, 3) := by decide +kernel
theorem dX4_readLine_189 : decode cX4_readLine 189 = .ok (.goto 97, 3) := by decide +kernel
theorem dX4_readLine_192 : decode cX4_readLine 192 = .ok (.aload_n 0, 1) := by decide +kernel
theorem dX4_readLine_193 : decode cX4_readLine 193 = .ok (.iconst 3, 1) := by decide +kernel
theorem dX4_readLine_194 : decode cX4_readLine 194 = .ok (.invokevirtual 86, 3) := by decide +kernel
theorem dX4_readLine_197 : decode cX4_readLine 197 = .ok (.goto 89, 3) := by decide +kernel
theorem dX4_readLine_200 : decode cX4_readLine 200 = .ok (.aload_n 0, 1) := by decide +kernel
theorem dX4_readLine_201 : decode cX4_readLine 201 = .ok (.invokevirtual 90, 3) := by decide +kernel
theorem dX4_readLine_204 : decode cX4_readLine 204 = .ok (.goto 82, 3) := by decide +kernel
theorem dX4_readLine_207 : decode cX4_readLine 207 = .ok (.aload_n 0, 1) := by decide +kernel
theorem dX4_readLine_208 : decode cX4_readLine 208 = .ok (.invokevirtual 93, 3) := by decide +kernel
theorem dX4_readLine_211 : decode cX4_readLine 211 = .ok (.goto 75, 3) := by decide +kernel
theorem dX4_readLine_214 : decode cX4_readLine 214 = .ok (.aload_n 0, 1) := by decide +kernel
theorem dX4_readLine_215 : decode cX4_readLine 215 = .ok (.invokevirtual 96, 3) := by decide +kernel
theorem dX4_readLine_218 : decode cX4_readLine 218 = .ok (.goto 68, 3) := by decide +kernel
theorem dX4_readLine_221 : decode cX4_readLine 221 = .ok (.aload_n 0, 1) := by decide +kernel
theorem dX4_readLine_222 : decode cX4_readLine 222 = .ok (.invokevirtual 99, 3) := by decide +kernel
theorem dX4_readLine_225 : decode cX4_readLine 225 = .ok (.goto 61, 3) := by decide +kernel
theorem dX4_readLine_228 : decode cX4_readLine 228 = .ok (.aload_n 0, 1) := by decide +kernel
theorem dX4_readLine_229 : decode cX4_readLine 229 = .ok (.getfield 21, 3) := by decide +kernel
theorem dX4_readLine_232 : decode cX4_readLine 232 = .ok (.iconst 2, 1) := by decide +kernel
theorem dX4_readLine_233 : decode cX4_readLine 233 = .ok (.aload_n 0, 1) := by decide +kernel
theorem dX4_readLine_234 : decode cX4_readLine 234 = .ok (.iconst 0, 1) := by decide +kernel
theorem dX4_readLine_235 : decode cX4_readLine 235 = .ok (.getstatic 68, 3) := by decide +kernel
theorem dX4_readLine_238 : decode cX4_readLine 238 = .ok (.iconst 2, 1) := by decide +kernel
theorem dX4_readLine_239 : decode cX4_readLine 239 = .ok (.iaload, 1) := by decide +kernel
theorem dX4_readLine_240 : decode cX4_readLine 240 = .ok (.invokevirtual 71, 3) := by decide +kernel
theorem dX4_readLine_243 : decode cX4_readLine 243 = .ok (.invokevirtual 75, 3) := by decide +kernel
theorem dX4_readLine_246 : decode cX4_readLine 246 = .ok (.goto 40, 3) := by decide +kernel
theorem dX4_readLine_249 : decode cX4_readLine 249 = .ok (.aload_n 0, 1) := by decide +kernel
theorem dX4_readLine_250 : decode cX4_readLine 250 = .ok (.getfield 21, 3) := by decide +kernel
theorem dX4_readLine_253 : decode cX4_readLine 253 = .ok (.iconst 3, 1) := by decide +kernel
theorem dX4_readLine_254 : decode cX4_readLine 254 = .ok (.aload_n 0, 1) := by decide +kernel
theorem dX4_readLine_255 : decode cX4_readLine 255 = .ok (.iconst 0, 1) := by decide +kernel
theorem dX4_readLine_256 : decode cX4_readLine 256 = .ok (.getstatic 68, 3) := by decide +kernel
theorem dX4_readLine_259 : decode cX4_readLine 259 = .ok (.iconst 3, 1) := by decide +kernel
theorem dX4_readLine_260 : decode cX4_readLine 260 = .ok (.iaload, 1) := by decide +kernel
theorem dX4_readLine_261 : decode cX4_readLine 261 = .ok (.invokevirtual 71, 3) := by decide +kernel
theorem dX4_readLine_264 : decode cX4_readLine 264 = .ok (.invokevirtual 75, 3) := by decide +kernel
theorem dX4_readLine_267 : decode cX4_readLine 267 = .ok (.goto 19, 3) := by decide +kernel
theorem dX4_readLine_270 : decode cX4_readLine 270 = .ok (.aload_n 0, 1) := by decide +kernel
theorem dX4_readLine_271 : decode cX4_readLine 271 = .ok (.invokevirtual 102, 3) := by decide +kernel
theorem dX4_readLine_274 : decode cX4_readLine 274 = .ok (.goto 12, 3) := by decide +kernel
theorem dX4_readLine_277 : decode cX4_readLine 277 = .ok (.aload_n 0, 1) := by decide +kernel
theorem dX4_readLine_278 : decode cX4_readLine 278 = .ok (.iconst 0, 1) := by decide +kernel
theorem dX4_readLine_279 : decode cX4_readLine 279 = .ok (.aload_n 0, 1) := by decide +kernel
theorem dX4_readLine_280 : decode cX4_readLine 280 = .ok (.getfield 105, 3) := by decide +kernel
theorem dX4_readLine_283 : decode cX4_readLine 283 = .ok (.invokevirtual 108, 3) := by decide +kernel
theorem dX4_readLine_286 : decode cX4_readLine 286 = .ok (.aload_n 0, 1) := by decide +kernel
theorem dX4_readLine_287 : decode cX4_readLine 287 = .ok (.invokevirtual 112, 3) := by decide +kernel
theorem dX4_readLine_290 : decode cX4_readLine 290 = .ok (.return_, 1) := by decide +kernel
theorem dX4_readThing_0 : decode cX4_readThing 0 = .ok (.aload_n 0, 1) := by decide +kernel
theorem dX4_readThing_1 : decode cX4_readThing 1 = .ok (.aload_n 0, 1) := by decide +kernel
theorem dX4_readThing_2 : decode cX4_readThing 2 = .ok (.getfield 12, 3) := by decide +kernel
theorem dX4_readThing_5 : decode cX4_readThing 5 = .ok (.getfield 115, 3) := by decide +kernel
theorem dX4_readThing_8 : decode cX4_readThing 8 = .ok (.getfield 119, 3) := by decide +kernel
theorem dX4_readThing_11 : decode cX4_readThing 11 = .ok (.bipush 8, 2) := by decide +kernel
theorem dX4_readThing_13 : decode cX4_readThing 13 = .ok (.if_icmp .ge 7, 3) := by decide +kernel
theorem dX4_readThing_16 : decode cX4_readThing 16 = .ok (.iconst 1, 1) := by decide +kernel
theorem dX4_readThing_17 : decode cX4_readThing 17 = .ok (.goto 4, 3) := by decide +kernel
theorem dX4_readThing_20 : decode cX4_readThing 20 = .ok (.iconst 0, 1) := by decide +kernel
theorem dX4_readThing_21 : decode cX4_readThing 21 = .ok (.aload_n 0, 1) := by decide +kernel
theorem dX4_readThing_22 : decode cX4_readThing 22 = .ok (.getfield 105, 3) := by decide +kernel
theorem dX4_readThing_25 : decode cX4_readThing 25 = .ok (.invokevirtual 108, 3) := by decide +kernel
theorem dX4_readThing_28 : decode cX4_readThing 28 = .ok (.aload_n 0, 1) := by decide +kernel
theorem dX4_readThing_29 : decode cX4_readThing 29 = .ok (.aload_n 0, 1) := by decide +kernel
theorem dX4_readThing_30 : decode cX4_readThing 30 = .ok (.getfield 12, 3) := by decide +kernel
theorem dX4_readThing_33 : decode cX4_readThing 33 = .ok (.getfield 115, 3) := by decide +kernel
theorem dX4_readThing_36 : decode cX4_readThing 36 = .ok (.invokevirtual 124, 3) := by decide +kernel
theorem dX4_readThing_39 : decode cX4_readThing 39 = .ok (.istore_n 1, 1) := by decide +kernel
theorem dX4_readThing_40 : decode cX4_readThing 40 = .ok (.aload_n 0, 1) := by decide +kernel
theorem dX4_readThing_41 : decode cX4_readThing 41 = .ok (.getfield 21, 3) := by decide +kernel
theorem dX4_readThing_44 : decode cX4_readThing 44 = .ok (.iload_n 1, 1) := by decide +kernel
theorem dX4_readThing_45 : decode cX4_readThing 45 = .ok (.aload_n 0, 1) := by decide +kernel
theorem dX4_readThing_46 : decode cX4_readThing 46 = .ok (.iconst 1, 1) := by decide +kernel
theorem dX4_readThing_47 : decode cX4_readThing 47 = .ok (.sipush 9999, 3) := by decide +kernel
theorem dX4_readThing_50 : decode cX4_readThing 50 = .ok (.invokevirtual 71, 3) := by decide +kernel
theorem dX4_readThing_53 : decode cX4_readThing 53 = .ok (.invokevirtual 128, 3) := by decide +kernel
theorem dX4_readThing_56 : decode cX4_readThing 56 = .ok (.return_, 1) := by decide +kernel
theorem dX4_readPerson_0 : decode cX4_readPerson 0 = .ok (.aload_n 0, 1) := by decide +kernel
theorem dX4_readPerson_1 : decode cX4_readPerson 1 = .ok (.aload_n 0, 1) := by decide +kernel
theorem dX4_readPerson_2 : decode cX4_readPerson 2 = .ok (.getfield 12, 3) := by decide +kernel
theorem dX4_readPerson_5 : decode cX4_readPerson 5 = .ok (.getfield 131, 3) := by decide +kernel
theorem dX4_readPerson_8 : decode cX4_readPerson 8 = .ok (.getfield 119, 3) := by decide +kernel
theorem dX4_readPerson_11 : decode cX4_readPerson 11 = .ok (.bipush 12, 2) := by decide +kernel
theorem dX4_readPerson_13 : decode cX4_readPerson 13 = .ok (.if_icmp .ge 7, 3) := by decide +kernel
theorem dX4_readPerson_16 : decode cX4_readPerson 16 = .ok (.iconst 1, 1) := by decide +kernel
theorem dX4_readPerson_17 : decode cX4_readPerson 17 = .ok (.goto 4, 3) := by decide +kernel
theorem dX4_readPerson_20 : decode cX4_readPerson 20 = .ok (.iconst 0, 1) := by decide +kernel
theorem dX4_readPerson_21 : decode cX4_readPerson 21 = .ok (.aload_n 0, 1) := by decide +kernel
theorem dX4_readPerson_22 : decode cX4_readPerson 22 = .ok (.getfield 105, 3) := by decide +kernel
theorem dX4_readPerson_25 : decode cX4_readPerson 25 = .ok (.invokevirtual 108, 3) := by decide +kernel
theorem dX4_readPerson_28 : decode cX4_readPerson 28 = .ok (.aload_n 0, 1) := by decide +kernel
theorem dX4_readPerson_29 : decode cX4_readPerson 29 = .ok (.getfield 12, 3) := by decide +kernel
theorem dX4_readPerson_32 : decode cX4_readPerson 32 = .ok (.aload_n 0, 1) := by decide +kernel
theorem dX4_readPerson_33 : decode cX4_readPerson 33 = .ok (.aload_n 0, 1) := by decide +kernel
theorem dX4_readPerson_34 : decode cX4_readPerson 34 = .ok (.getfield 12, 3) := by decide +kernel
theorem dX4_readPerson_37 : decode cX4_readPerson 37 = .ok (.getfield 131, 3) := by decide +kernel
theorem dX4_readPerson_40 : decode cX4_readPerson 40 = .ok (.invokevirtual 124, 3) := by decide +kernel
theorem dX4_readPerson_43 : decode cX4_readPerson 43 = .ok (.iconst (-1), 1) := by decide +kernel
theorem dX4_readPerson_44 : decode cX4_readPerson 44 = .ok (.iload_n 1, 1) := by decide +kernel
theorem dX4_readPerson_45 : decode cX4_readPerson 45 = .ok (.invokevirtual 134, 3) := by decide +kernel
theorem dX4_readPerson_48 : decode cX4_readPerson 48 = .ok (.return_, 1) := by decide +kernel
theorem dX4_readIssue_0 : decode cX4_readIssue 0 = .ok (.aload_n 0, 1) := by decide +kernel
theorem dX4_readIssue_1 : decode cX4_readIssue 1 = .ok (.aload_n 0, 1) := by decide +kernel
theorem dX4_readIssue_2 : decode cX4_readIssue 2 = .ok (.getfield 12, 3) := by decide +kernel
theorem dX4_readIssue_5 : decode cX4_readIssue 5 = .ok (.getfield 131, 3) := by decide +kernel
theorem dX4_readIssue_8 : decode cX4_readIssue 8 = .ok (.getfield 119, 3) := by decide +kernel
theorem dX4_readIssue_11 : decode cX4_readIssue 11 = .ok (.bipush 12, 2) := by decide +kernel
theorem dX4_readIssue_13 : decode cX4_readIssue 13 = .ok (.if_icmp .ge 7, 3) := by decide +kernel
theorem dX4_readIssue_16 : decode cX4_readIssue 16 = .ok (.iconst 1, 1) := by decide +kernel
theorem dX4_readIssue_17 : decode cX4_readIssue 17 = .ok (.goto 4, 3) := by decide +kernel
theorem dX4_readIssue_20 : decode cX4_readIssue 20 = .ok (.iconst 0, 1) := by decide +kernel
theorem dX4_readIssue_21 : decode cX4_readIssue 21 = .ok (.aload_n 0, 1) := by decide +kernel
theorem dX4_readIssue_22 : decode cX4_readIssue 22 = .ok (.getfield 105, 3) := by decide +kernel
theorem dX4_readIssue_25 : decode cX4_readIssue 25 = .ok (.invokevirtual 108, 3) := by decide +kernel
theorem dX4_readIssue_28 : decode cX4_readIssue 28 = .ok (.aload_n 0, 1) := by decide +kernel
theorem dX4_readIssue_29 : decode cX4_readIssue 29 = .ok (.aload_n 0, 1) := by decide +kernel
theorem dX4_readIssue_30 : decode cX4_readIssue 30 = .ok (.getfield 12, 3) := by decide +kernel
theorem dX4_readIssue_33 : decode cX4_readIssue 33 = .ok (.getfield 131, 3) := by decide +kernel
theorem dX4_readIssue_36 : decode cX4_readIssue 36 = .ok (.invokevirtual 124, 3) := by decide +kernel
theorem dX4_readIssue_39 : decode cX4_readIssue 39 = .ok (.istore_n 1, 1) := by decide +kernel
theorem dX4_readIssue_40 : decode cX4_readIssue 40 = .ok (.aload_n 0, 1) := by decide +kernel
theorem dX4_readIssue_41 : decode cX4_readIssue 41 = .ok (.getstatic 138, 3) := by decide +kernel
theorem dX4_readIssue_44 : decode cX4_readIssue 44 = .ok (.invokevirtual 142, 3) := by decide +kernel
theorem dX4_readIssue_47 : decode cX4_readIssue 47 = .ok (.aload_n 0, 1) := by decide +kernel
theorem dX4_readIssue_48 : decode cX4_readIssue 48 = .ok (.aload_n 0, 1) := by decide +kernel
theorem dX4_readIssue_49 : decode cX4_readIssue 49 = .ok (.getfield 12, 3) := by decide +kernel
theorem dX4_readIssue_52 : decode cX4_readIssue 52 = .ok (.getfield 131, 3) := by decide +kernel
theorem dX4_readIssue_55 : decode cX4_readIssue 55 = .ok (.invokevirtual 146, 3) := by decide +kernel
theorem dX4_readIssue_58 : decode cX4_readIssue 58 = .ok (.istore_n 2, 1) := by decide +kernel
theorem dX4_readIssue_59 : decode cX4_readIssue 59 = .ok (.aload_n 0, 1) := by decide +kernel
theorem dX4_readIssue_60 : decode cX4_readIssue 60 = .ok (.iload_n 2, 1) := by decide +kernel
theorem dX4_readIssue_61 : decode cX4_readIssue 61 = .ok (.iload_n 1, 1) := by decide +kernel
theorem dX4_readIssue_62 : decode cX4_readIssue 62 = .ok (.if_icmp .eq 7, 3) := by decide +kernel
theorem dX4_readIssue_65 : decode cX4_readIssue 65 = .ok (.iconst 1, 1) := by decide +kernel
theorem dX4_readIssue_66 : decode cX4_readIssue 66 = .ok (.goto 4, 3) := by decide +kernel
theorem dX4_readIssue_69 : decode cX4_readIssue 69 = .ok (.iconst 0, 1) := by decide +kernel
theorem dX4_readIssue_70 : decode cX4_readIssue 70 = .ok (.aload_n 0, 1) := by decide +kernel
theorem dX4_readIssue_71 : decode cX4_readIssue 71 = .ok (.getfield 105, 3) := by decide +kernel
theorem dX4_readIssue_74 : decode cX4_readIssue 74 = .ok (.invokevirtual 108, 3) := by decide +kernel
theorem dX4_readIssue_77 : decode cX4_readIssue 77 = .ok (.aload_n 0, 1) := by decide +kernel
theorem dX4_readIssue_78 : decode cX4_readIssue 78 = .ok (.getfield 12, 3) := by decide +kernel
theorem dX4_readIssue_81 : decode cX4_readIssue 81 = .ok (.iload_n 1, 1) := by decide +kernel
theorem dX4_readIssue_82 : decode cX4_readIssue 82 = .ok (.iload_n 2, 1) := by decide +kernel
theorem dX4_readIssue_83 : decode cX4_readIssue 83 = .ok (.iconst 0, 1) := by decide +kernel
theorem dX4_readIssue_84 : decode cX4_readIssue 84 = .ok (.invokevirtual 134, 3) := by decide +kernel
theorem dX4_readIssue_87 : decode cX4_readIssue 87 = .ok (.return_, 1) := by decide +kernel
theorem dX4_readGift_0 : decode cX4_readGift 0 = .ok (.aload_n 0, 1) := by decide +kernel
theorem dX4_readGift_1 : decode cX4_readGift 1 = .ok (.aload_n 0, 1) := by decide +kernel
theorem dX4_readGift_2 : decode cX4_readGift 2 = .ok (.getfield 12, 3) := by decide +kernel
theorem dX4_readGift_5 : decode cX4_readGift 5 = .ok (.getfield 149, 3) := by decide +kernel
theorem dX4_readGift_8 : decode cX4_readGift 8 = .ok (.bipush 12, 2) := by decide +kernel
theorem dX4_readGift_10 : decode cX4_readGift 10 = .ok (.if_icmp .ge 7, 3) := by decide +kernel
theorem dX4_readGift_13 : decode cX4_readGift 13 = .ok (.iconst 1, 1) := by decide +kernel
theorem dX4_readGift_14 : decode cX4_readGift 14 = .ok (.goto 4, 3) := by decide +kernel
theorem dX4_readGift_17 : decode cX4_readGift 17 = .ok (.iconst 0, 1) := by decide +kernel
theorem dX4_readGift_18 : decode cX4_readGift 18 = .ok (.aload_n 0, 1) := by decide +kernel
theorem dX4_readGift_19 : decode cX4_readGift 19 = .ok (.getfield 105, 3) := by decide +kernel
theorem dX4_readGift_22 : decode cX4_readGift 22 = .ok (.invokevirtual 108, 3) := by decide +kernel
theorem dX4_readGift_25 : decode cX4_readGift 25 = .ok (.iconst (-1), 1) := by decide +kernel
theorem dX4_readGift_26 : decode cX4_readGift 26 = .ok (.istore_n 2, 1) := by decide +kernel
theorem dX4_readGift_27 : decode cX4_readGift 27 = .ok (.iload_n 1, 1) := by decide +kernel
theorem dX4_readGift_28 : decode cX4_readGift 28 = .ok (.ifCond .eq 8, 3) := by decide +kernel
theorem dX4_readGift_31 : decode cX4_readGift 31 = .ok (.iload_n 1, 1) := by decide +kernel
theorem dX4_readGift_32 : decode cX4_readGift 32 = .ok (.iconst 2, 1) := by decide +kernel
theorem dX4_readGift_33 : decode cX4_readGift 33 = .ok (.if_icmp .ne 66, 3) := by decide +kernel
theorem dX4_readGift_36 : decode cX4_readGift 36 = .ok (.aload_n 0, 1) := by decide +kernel
theorem dX4_readGift_37 : decode cX4_readGift 37 = .ok (.aload_n 0, 1) := by decide +kernel
theorem dX4_readGift_38 : decode cX4_readGift 38 = .ok (.getfield 12, 3) := by decide +kernel
theorem dX4_readGift_41 : decode cX4_readGift 41 = .ok (.getfield 115, 3) := by decide +kernel
theorem dX4_readGift_44 : decode cX4_readGift 44 = .ok (.invokevirtual 146, 3) := by decide +kernel
theorem dX4_readGift_47 : decode cX4_readGift 47 = .ok (.istore_n 2, 1) := by decide +kernel
theorem dX4_readGift_48 : decode cX4_readGift 48 = .ok (.iload_n 1, 1) := by decide +kernel
theorem dX4_readGift_49 : decode cX4_readGift 49 = .ok (.ifCond .ne 19, 3) := by decide +kernel
theorem dX4_readGift_52 : decode cX4_readGift 52 = .ok (.aload_n 0, 1) := by decide +kernel
theorem dX4_readGift_53 : decode cX4_readGift 53 = .ok (.getfield 12, 3) := by decide +kernel
theorem dX4_readGift_56 : decode cX4_readGift 56 = .ok (.getfield 152, 3) := by decide +kernel
theorem dX4_readGift_59 : decode cX4_readGift 59 = .ok (.iload_n 2, 1) := by decide +kernel
theorem dX4_readGift_60 : decode cX4_readGift 60 = .ok (.baload, 1) := by decide +kernel
theorem dX4_readGift_61 : decode cX4_readGift 61 = .ok (.ifCond .eq 7, 3) := by decide +kernel
theorem dX4_readGift_64 : decode cX4_readGift 64 = .ok (.iconst 1, 1) := by decide +kernel
theorem dX4_readGift_65 : decode cX4_readGift 65 = .ok (.goto 4, 3) := by decide +kernel
theorem dX4_readGift_68 : decode cX4_readGift 68 = .ok (.iconst 0, 1) := by decide +kernel
theorem dX4_readGift_69 : decode cX4_readGift 69 = .ok (.istore_n 3, 1) := by decide +kernel
theorem dX4_readGift_70 : decode cX4_readGift 70 = .ok (.aload_n 0, 1) := by decide +kernel
theorem dX4_readGift_71 : decode cX4_readGift 71 = .ok (.aload_n 0, 1) := by decide +kernel
theorem dX4_readGift_72 : decode cX4_readGift 72 = .ok (.getfield 12, 3) := by decide +kernel
theorem dX4_readGift_75 : decode cX4_readGift 75 = .ok (.getfield 156, 3) := by decide +kernel
theorem dX4_readGift_78 : decode cX4_readGift 78 = .ok (.iload_n 2, 1) := by decide +kernel
theorem dX4_readGift_79 : decode cX4_readGift 79 = .ok (.baload, 1) := by decide +kernel
theorem dX4_readGift_80 : decode cX4_readGift 80 = .ok (.ifCond .ne 11, 3) := by decide +kernel
theorem dX4_readGift_83 : decode cX4_readGift 83 = .ok (.iload_n 3, 1) := by decide +kernel
theorem dX4_readGift_84 : decode cX4_readGift 84 = .ok (.ifCond .ne 7, 3) := by decide +kernel
theorem dX4_readGift_87 : decode cX4_readGift 87 = .ok (.iconst 1, 1) := by decide +kernel
theorem dX4_readGift_88 : decode cX4_readGift 88 = .ok (.goto 4, 3) := by decide +kernel
theorem dX4_readGift_91 : decode cX4_readGift 91 = .ok (.iconst 0, 1) := by decide +kernel
theorem dX4_readGift_92 : decode cX4_readGift 92 = .ok (.aload_n 0, 1) := by decide +kernel
theorem dX4_readGift_93 : decode cX4_readGift 93 = .ok (.getfield 105, 3) := by decide +kernel
theorem dX4_readGift_96 : decode cX4_readGift 96 = .ok (.invokevirtual 108, 3) := by decide +kernel
theorem dX4_readGift_99 : decode cX4_readGift 99 = .ok (.iconst (-1), 1) := by decide +kernel
theorem dX4_readGift_100 : decode cX4_readGift 100 = .ok (.istore_n 3, 1) := by decide +kernel
theorem dX4_readGift_101 : decode cX4_readGift 101 = .ok (.iload_n 1, 1) := by decide +kernel
theorem dX4_readGift_102 : decode cX4_readGift 102 = .ok (.ifCond .eq 22, 3) := by decide +kernel
theorem dX4_readGift_105 : decode cX4_readGift 105 = .ok (.aload_n 0, 1) := by decide +kernel
theorem dX4_readGift_106 : decode cX4_readGift 106 = .ok (.iconst 1, 1) := by decide +kernel
theorem dX4_readGift_107 : decode cX4_readGift 107 = .ok (.iload_n 1, 1) := by decide +kernel
theorem dX4_readGift_108 : decode cX4_readGift 108 = .ok (.iconst 3, 1) := by decide +kernel
theorem dX4_readGift_109 : decode cX4_readGift 109 = .ok (.if_icmp .ne 8, 3) := by decide +kernel
theorem dX4_readGift_112 : decode cX4_readGift 112 = .ok (.bipush 9, 2) := by decide +kernel
theorem dX4_readGift_114 : decode cX4_readGift 114 = .ok (.goto 6, 3) := by decide +kernel
theorem dX4_readGift_117 : decode cX4_readGift 117 = .ok (.sipush 9999, 3) := by decide +kernel
theorem dX4_readGift_120 : decode cX4_readGift 120 = .ok (.invokevirtual 71, 3) := by decide +kernel
theorem dX4_readGift_123 : decode cX4_readGift 123 = .ok (.istore_n 3, 1) := by decide +kernel
theorem dX4_readGift_124 : decode cX4_readGift 124 = .ok (.aload_n 0, 1) := by decide +kernel
theorem dX4_readGift_125 : decode cX4_readGift 125 = .ok (.getstatic 159, 3) := by decide +kernel
theorem dX4_readGift_128 : decode cX4_readGift 128 = .ok (.invokevirtual 142, 3) := by decide +kernel
theorem dX4_readGift_131 : decode cX4_readGift 131 = .ok (.aload_n 0, 1) := by decide +kernel
theorem dX4_readGift_132 : decode cX4_readGift 132 = .ok (.aload_n 0, 1) := by decide +kernel
theorem dX4_readGift_133 : decode cX4_readGift 133 = .ok (.getfield 12, 3) := by decide +kernel
theorem dX4_readGift_136 : decode cX4_readGift 136 = .ok (.getfield 131, 3) := by decide +kernel
theorem dX4_readGift_139 : decode cX4_readGift 139 = .ok (.invokevirtual 146, 3) := by decide +kernel
theorem dX4_readGift_142 : decode cX4_readGift 142 = .ok (.istore 4, 2) := by decide +kernel
theorem dX4_readGift_144 : decode cX4_readGift 144 = .ok (.iload_n 1, 1) := by decide +kernel
theorem dX4_readGift_145 : decode cX4_readGift 145 = .ok (.iconst 1, 1) := by decide +kernel
theorem dX4_readGift_146 : decode cX4_readGift 146 = .ok (.if_icmp .eq 8, 3) := by decide +kernel
theorem dX4_readGift_149 : decode cX4_readGift 149 = .ok (.iload_n 1, 1) := by decide +kernel
theorem dX4_readGift_150 : decode cX4_readGift 150 = .ok (.iconst 2, 1) := by decide +kernel
theorem dX4_readGift_151 : decode cX4_readGift 151 = .ok (.if_icmp .ne 10, 3) := by decide +kernel
theorem dX4_readGift_154 : decode cX4_readGift 154 = .ok (.aload_n 0, 1) := by decide +kernel
theorem dX4_readGift_155 : decode cX4_readGift 155 = .ok (.invokevirtual 162, 3) := by decide +kernel
theorem dX4_readGift_158 : decode cX4_readGift 158 = .ok (.goto 4, 3) := by decide +kernel
theorem dX4_readGift_161 : decode cX4_readGift 161 = .ok (.iconst (-1), 1) := by decide +kernel
theorem dX4_readGift_162 : decode cX4_readGift 162 = .ok (.istore 5, 2) := by decide +kernel
theorem dX4_readGift_164 : decode cX4_readGift 164 = .ok (.aload_n 0, 1) := by decide +kernel
theorem dX4_readGift_165 : decode cX4_readGift 165 = .ok (.getfield 12, 3) := by decide +kernel
theorem dX4_readGift_168 : decode cX4_readGift 168 = .ok (.iload_n 1, 1) := by decide +kernel
theorem dX4_readGift_169 : decode cX4_readGift 169 = .ok (.iload 4, 2) := by decide +kernel
theorem dX4_readGift_171 : decode cX4_readGift 171 = .ok (.iload_n 2, 1) := by decide +kernel
theorem dX4_readGift_172 : decode cX4_readGift 172 = .ok (.iload_n 3, 1) := by decide +kernel
theorem dX4_readGift_173 : decode cX4_readGift 173 = .ok (.iload 5, 2) := by decide +kernel
theorem dX4_readGift_175 : decode cX4_readGift 175 = .ok (.invokevirtual 165, 3) := by decide +kernel
theorem dX4_readGift_178 : decode cX4_readGift 178 = .ok (.return_, 1) := by decide +kernel
theorem dX4_readSold_0 : decode cX4_readSold 0 = .ok (.aload_n 0, 1) := by decide +kernel
theorem dX4_readSold_1 : decode cX4_readSold 1 = .ok (.aload_n 0, 1) := by decide +kernel
theorem dX4_readSold_2 : decode cX4_readSold 2 = .ok (.getfield 12, 3) := by decide +kernel
theorem dX4_readSold_5 : decode cX4_readSold 5 = .ok (.getfield 115, 3) := by decide +kernel
theorem dX4_readSold_8 : decode cX4_readSold 8 = .ok (.invokevirtual 146, 3) := by decide +kernel
theorem dX4_readSold_11 : decode cX4_readSold 11 = .ok (.istore_n 1, 1) := by decide +kernel
theorem dX4_readSold_12 : decode cX4_readSold 12 = .ok (.aload_n 0, 1) := by decide +kernel
theorem dX4_readSold_13 : decode cX4_readSold 13 = .ok (.aload_n 0, 1) := by decide +kernel
theorem dX4_readSold_14 : decode cX4_readSold 14 = .ok (.getfield 21, 3) := by decide +kernel
theorem dX4_readSold_17 : decode cX4_readSold 17 = .ok (.iload_n 1, 1) := by decide +kernel
theorem dX4_readSold_18 : decode cX4_readSold 18 = .ok (.invokevirtual 169, 3) := by decide +kernel
theorem dX4_readSold_21 : decode cX4_readSold 21 = .ok (.aload_n 0, 1) := by decide +kernel
theorem dX4_readSold_22 : decode cX4_readSold 22 = .ok (.getfield 105, 3) := by decide +kernel
theorem dX4_readSold_25 : decode cX4_readSold 25 = .ok (.invokevirtual 108, 3) := by decide +kernel
theorem dX4_readSold_28 : decode cX4_readSold 28 = .ok (.aload_n 0, 1) := by decide +kernel
theorem dX4_readSold_29 : decode cX4_readSold 29 = .ok (.iconst 1, 1) := by decide +kernel
theorem dX4_readSold_30 : decode cX4_readSold 30 = .ok (.sipush 9999, 3) := by decide +kernel
theorem dX4_readSold_33 : decode cX4_readSold 33 = .ok (.invokevirtual 71, 3) := by decide +kernel
theorem dX4_readSold_36 : decode cX4_readSold 36 = .ok (.istore_n 2, 1) := by decide +kernel
theorem dX4_readSold_37 : decode cX4_readSold 37 = .ok (.aload_n 0, 1) := by decide +kernel
theorem dX4_readSold_38 : decode cX4_readSold 38 = .ok (.getstatic 173, 3) := by decide +kernel
theorem dX4_readSold_41 : decode cX4_readSold 41 = .ok (.invokevirtual 142, 3) := by decide +kernel
theorem dX4_readSold_44 : decode cX4_readSold 44 = .ok (.aload_n 0, 1) := by decide +kernel
theorem dX4_readSold_45 : decode cX4_readSold 45 = .ok (.iconst 0, 1) := by decide +kernel
theorem dX4_readSold_46 : decode cX4_readSold 46 = .ok (.iload_n 2, 1) := by decide +kernel
theorem dX4_readSold_47 : decode cX4_readSold 47 = .ok (.invokevirtual 71, 3) := by decide +kernel
theorem dX4_readSold_50 : decode cX4_readSold 50 = .ok (.istore_n 3, 1) := by decide +kernel
theorem dX4_readSold_51 : decode cX4_readSold 51 = .ok (.aload_n 0, 1) := by decide +kernel
theorem dX4_readSold_52 : decode cX4_readSold 52 = .ok (.aload_n 0, 1) := by decide +kernel
theorem dX4_readSold_53 : decode cX4_readSold 53 = .ok (.getfield 21, 3) := by decide +kernel
theorem dX4_readSold_56 : decode cX4_readSold 56 = .ok (.iconst 0, 1) := by decide +kernel
theorem dX4_readSold_57 : decode cX4_readSold 57 = .ok (.invokevirtual 176, 3) := by decide +kernel
theorem dX4_readSold_60 : decode cX4_readSold 60 = .ok (.iload_n 2, 1) := by decide +kernel
theorem dX4_readSold_61 : decode cX4_readSold 61 = .ok (.iadd, 1) := by decide +kernel
theorem dX4_readSold_62 : decode cX4_readSold 62 = .ok (.iload_n 3, 1) := by decide +kernel
theorem dX4_readSold_63 : decode cX4_readSold 63 = .ok (.isub, 1) := by decide +kernel
theorem dX4_readSold_64 : decode cX4_readSold 64 = .ok (.ldc 180, 2) := by decide +kernel
theorem dX4_readSold_66 : decode cX4_readSold 66 = .ok (.if_icmp .gt 7, 3) := by decide +kernel
theorem dX4_readSold_69 : decode cX4_readSold 69 = .ok (.iconst 1, 1) := by decide +kernel
theorem dX4_readSold_70 : decode cX4_readSold 70 = .ok (.goto 4, 3) := by decide +kernel
theorem dX4_readSold_73 : decode cX4_readSold 73 = .ok (.iconst 0, 1) := by decide +kernel
theorem dX4_readSold_74 : decode cX4_readSold 74 = .ok (.aload_n 0, 1) := by decide +kernel
theorem dX4_readSold_75 : decode cX4_readSold 75 = .ok (.getfield 105, 3) := by decide +kernel
theorem dX4_readSold_78 : decode cX4_readSold 78 = .ok (.invokevirtual 108, 3) := by decide +kernel
theorem dX4_readSold_81 : decode cX4_readSold 81 = .ok (.aload_n 0, 1) := by decide +kernel
theorem dX4_readSold_82 : decode cX4_readSold 82 = .ok (.getfield 21, 3) := by decide +kernel
theorem dX4_readSold_85 : decode cX4_readSold 85 = .ok (.iload_n 1, 1) := by decide +kernel
theorem dX4_readSold_86 : decode cX4_readSold 86 = .ok (.iload_n 2, 1) := by decide +kernel
theorem dX4_readSold_87 : decode cX4_readSold 87 = .ok (.iload_n 3, 1) := by decide +kernel
theorem dX4_readSold_88 : decode cX4_readSold 88 = .ok (.invokevirtual 181, 3) := by decide +kernel
theorem dX4_readSold_91 : decode cX4_readSold 91 = .ok (.return_, 1) := by decide +kernel
theorem dX4_readChanged_0 : decode cX4_readChanged 0 = .ok (.aload_n 0, 1) := by decide +kernel
theorem dX4_readChanged_1 : decode cX4_readChanged 1 = .ok (.aload_n 0, 1) := by decide +kernel
theorem dX4_readChanged_2 : decode cX4_readChanged 2 = .ok (.getfield 12, 3) := by decide +kernel
theorem dX4_readChanged_5 : decode cX4_readChanged 5 = .ok (.getfield 115, 3) := by decide +kernel
theorem dX4_readChanged_8 : decode cX4_readChanged 8 = .ok (.invokevirtual 146, 3) := by decide +kernel
theorem dX4_readChanged_11 : decode cX4_readChanged 11 = .ok (.istore_n 1, 1) := by decide +kernel
theorem dX4_readChanged_12 : decode cX4_readChanged 12 = .ok (.aload_n 0, 1) := by decide +kernel
theorem dX4_readChanged_13 : decode cX4_readChanged 13 = .ok (.aload_n 0, 1) := by decide +kernel
theorem dX4_readChanged_14 : decode cX4_readChanged 14 = .ok (.getfield 21, 3) := by decide +kernel
theorem dX4_readChanged_17 : decode cX4_readChanged 17 = .ok (.iload_n 1, 1) := by decide +kernel
theorem dX4_readChanged_18 : decode cX4_readChanged 18 = .ok (.invokevirtual 169, 3) := by decide +kernel
theorem dX4_readChanged_21 : decode cX4_readChanged 21 = .ok (.aload_n 0, 1) := by decide +kernel
theorem dX4_readChanged_22 : decode cX4_readChanged 22 = .ok (.getfield 105, 3) := by decide +kernel
theorem dX4_readChanged_25 : decode cX4_readChanged 25 = .ok (.invokevirtual 108, 3) := by decide +kernel
theorem dX4_readChanged_28 : decode cX4_readChanged 28 = .ok (.aload_n 0, 1) := by decide +kernel
theorem dX4_readChanged_29 : decode cX4_readChanged 29 = .ok (.getfield 21, 3) := by decide +kernel
theorem dX4_readChanged_32 : decode cX4_readChanged 32 = .ok (.iload_n 1, 1) := by decide +kernel
theorem dX4_readChanged_33 : decode cX4_readChanged 33 = .ok (.aload_n 0, 1) := by decide +kernel
theorem dX4_readChanged_34 : decode cX4_readChanged 34 = .ok (.iconst 1, 1) := by decide +kernel
theorem dX4_readChanged_35 : decode cX4_readChanged 35 = .ok (.sipush 9999, 3) := by decide +kernel
theorem dX4_readChanged_38 : decode cX4_readChanged 38 = .ok (.invokevirtual 71, 3) := by decide +kernel
theorem dX4_readChanged_41 : decode cX4_readChanged 41 = .ok (.invokevirtual 128, 3) := by decide +kernel
theorem dX4_readChanged_44 : decode cX4_readChanged 44 = .ok (.return_, 1) := by decide +kernel
theorem dX4_readLost_0 : decode cX4_readLost 0 = .ok (.aload_n 0, 1) := by decide +kernel
theorem dX4_readLost_1 : decode cX4_readLost 1 = .ok (.aload_n 0, 1) := by decide +kernel
theorem dX4_readLost_2 : decode cX4_readLost 2 = .ok (.getfield 12, 3) := by decide +kernel
theorem dX4_readLost_5 : decode cX4_readLost 5 = .ok (.getfield 115, 3) := by decide +kernel
theorem dX4_readLost_8 : decode cX4_readLost 8 = .ok (.invokevirtual 146, 3) := by decide +kernel
theorem dX4_readLost_11 : decode cX4_readLost 11 = .ok (.istore_n 1, 1) := by decide +kernel
theorem dX4_readLost_12 : decode cX4_readLost 12 = .ok (.aload_n 0, 1) := by decide +kernel
theorem dX4_readLost_13 : decode cX4_readLost 13 = .ok (.aload_n 0, 1) := by decide +kernel
theorem dX4_readLost_14 : decode cX4_readLost 14 = .ok (.getfield 21, 3) := by decide +kernel
theorem dX4_readLost_17 : decode cX4_readLost 17 = .ok (.iload_n 1, 1) := by decide +kernel
theorem dX4_readLost_18 : decode cX4_readLost 18 = .ok (.invokevirtual 169, 3) := by decide +kernel
theorem dX4_readLost_21 : decode cX4_readLost 21 = .ok (.aload_n 0, 1) := by decide +kernel
theorem dX4_readLost_22 : decode cX4_readLost 22 = .ok (.getfield 105, 3) := by decide +kernel
theorem dX4_readLost_25 : decode cX4_readLost 25 = .ok (.invokevirtual 108, 3) := by decide +kernel
theorem dX4_readLost_28 : decode cX4_readLost 28 = .ok (.aload_n 0, 1) := by decide +kernel
theorem dX4_readLost_29 : decode cX4_readLost 29 = .ok (.getstatic 185, 3) := by decide +kernel
theorem dX4_readLost_32 : decode cX4_readLost 32 = .ok (.invokevirtual 142, 3) := by decide +kernel
theorem dX4_readLost_35 : decode cX4_readLost 35 = .ok (.aload_n 0, 1) := by decide +kernel
theorem dX4_readLost_36 : decode cX4_readLost 36 = .ok (.getfield 21, 3) := by decide +kernel
theorem dX4_readLost_39 : decode cX4_readLost 39 = .ok (.iload_n 1, 1) := by decide +kernel
theorem dX4_readLost_40 : decode cX4_readLost 40 = .ok (.aload_n 0, 1) := by decide +kernel
theorem dX4_readLost_41 : decode cX4_readLost 41 = .ok (.iconst 0, 1) := by decide +kernel
theorem dX4_readLost_42 : decode cX4_readLost 42 = .ok (.sipush 9999, 3) := by decide +kernel
theorem dX4_readLost_45 : decode cX4_readLost 45 = .ok (.invokevirtual 71, 3) := by decide +kernel
theorem dX4_readLost_48 : decode cX4_readLost 48 = .ok (.invokevirtual 188, 3) := by decide +kernel
theorem dX4_readLost_51 : decode cX4_readLost 51 = .ok (.return_, 1) := by decide +kernel
theorem dX4_readDead_0 : decode cX4_readDead 0 = .ok (.aload_n 0, 1) := by decide +kernel
theorem dX4_readDead_1 : decode cX4_readDead 1 = .ok (.aload_n 0, 1) := by decide +kernel
theorem dX4_readDead_2 : decode cX4_readDead 2 = .ok (.getfield 12, 3) := by decide +kernel
theorem dX4_readDead_5 : decode cX4_readDead 5 = .ok (.getfield 131, 3) := by decide +kernel
theorem dX4_readDead_8 : decode cX4_readDead 8 = .ok (.invokevirtual 146, 3) := by decide +kernel
theorem dX4_readDead_11 : decode cX4_readDead 11 = .ok (.istore_n 1, 1) := by decide +kernel
theorem dX4_readDead_12 : decode cX4_readDead 12 = .ok (.aload_n 0, 1) := by decide +kernel
theorem dX4_readDead_13 : decode cX4_readDead 13 = .ok (.aload_n 0, 1) := by decide +kernel
theorem dX4_readDead_14 : decode cX4_readDead 14 = .ok (.getfield 21, 3) := by decide +kernel
theorem dX4_readDead_17 : decode cX4_readDead 17 = .ok (.iload_n 1, 1) := by decide +kernel
theorem dX4_readDead_18 : decode cX4_readDead 18 = .ok (.invokevirtual 191, 3) := by decide +kernel
theorem dX4_readDead_21 : decode cX4_readDead 21 = .ok (.ifCond .ne 7, 3) := by decide +kernel
theorem dX4_readDead_24 : decode cX4_readDead 24 = .ok (.iconst 1, 1) := by decide +kernel
theorem dX4_readDead_25 : decode cX4_readDead 25 = .ok (.goto 4, 3) := by decide +kernel
theorem dX4_readDead_28 : decode cX4_readDead 28 = .ok (.iconst 0, 1) := by decide +kernel
theorem dX4_readDead_29 : decode cX4_readDead 29 = .ok (.aload_n 0, 1) := by decide +kernel
theorem dX4_readDead_30 : decode cX4_readDead 30 = .ok (.getfield 105, 3) := by decide +kernel
theorem dX4_readDead_33 : decode cX4_readDead 33 = .ok (.invokevirtual 108, 3) := by decide +kernel
theorem dX4_readDead_36 : decode cX4_readDead 36 = .ok (.aload_n 0, 1) := by decide +kernel
theorem dX4_readDead_37 : decode cX4_readDead 37 = .ok (.getfield 21, 3) := by decide +kernel
theorem dX4_readDead_40 : decode cX4_readDead 40 = .ok (.iload_n 1, 1) := by decide +kernel
theorem dX4_readDead_41 : decode cX4_readDead 41 = .ok (.invokevirtual 194, 3) := by decide +kernel
theorem dX4_readDead_44 : decode cX4_readDead 44 = .ok (.return_, 1) := by decide +kernel
theorem dX4_readRule_0 : decode cX4_readRule 0 = .ok (.aload_n 0, 1) := by decide +kernel
theorem dX4_readRule_1 : decode cX4_readRule 1 = .ok (.getstatic 197, 3) := by decide +kernel
theorem dX4_readRule_4 : decode cX4_readRule 4 = .ok (.invokevirtual 142, 3) := by decide +kernel
theorem dX4_readRule_7 : decode cX4_readRule 7 = .ok (.aload_n 0, 1) := by decide +kernel
theorem dX4_readRule_8 : decode cX4_readRule 8 = .ok (.getfield 21, 3) := by decide +kernel
theorem dX4_readRule_11 : decode cX4_readRule 11 = .ok (.iconst 4, 1) := by decide +kernel
theorem dX4_readRule_12 : decode cX4_readRule 12 = .ok (.iconst 1, 1) := by decide +kernel
theorem dX4_readRule_13 : decode cX4_readRule 13 = .ok (.invokevirtual 75, 3) := by decide +kernel
theorem dX4_readRule_16 : decode cX4_readRule 16 = .ok (.return_, 1) := by decide +kernel
theorem dX4_takeRank_0 : decode cX4_takeRank 0 = .ok (.aload_n 0, 1) := by decide +kernel
theorem dX4_takeRank_1 : decode cX4_takeRank 1 = .ok (.invokevirtual 43, 3) := by decide +kernel
theorem dX4_takeRank_4 : decode cX4_takeRank 4 = .ok (.aload_n 0, 1) := by decide +kernel
theorem dX4_takeRank_5 : decode cX4_takeRank 5 = .ok (.getfield 36, 3) := by decide +kernel
theorem dX4_takeRank_8 : decode cX4_takeRank 8 = .ok (.aload_n 0, 1) := by decide +kernel
theorem dX4_takeRank_9 : decode cX4_takeRank 9 = .ok (.getfield 33, 3) := by decide +kernel
theorem dX4_takeRank_12 : decode cX4_takeRank 12 = .ok (.if_icmp .ge 32, 3) := by decide +kernel
theorem dX4_takeRank_15 : decode cX4_takeRank 15 = .ok (.aload_n 0, 1) := by decide +kernel
theorem dX4_takeRank_16 : decode cX4_takeRank 16 = .ok (.getfield 29, 3) := by decide +kernel
theorem dX4_takeRank_19 : decode cX4_takeRank 19 = .ok (.aload_n 0, 1) := by decide +kernel
theorem dX4_takeRank_20 : decode cX4_takeRank 20 = .ok (.getfield 36, 3) := by decide +kernel
theorem dX4_takeRank_23 : decode cX4_takeRank 23 = .ok (.baload, 1) := by decide +kernel
theorem dX4_takeRank_24 : decode cX4_takeRank 24 = .ok (.invokestatic 200, 3) := by decide +kernel
theorem dX4_takeRank_27 : decode cX4_takeRank 27 = .ok (.ifCond .eq 17, 3) := by decide +kernel
theorem dX4_takeRank_30 : decode cX4_takeRank 30 = .ok (.aload_n 0, 1) := by decide +kernel
theorem dX4_takeRank_31 : decode cX4_takeRank 31 = .ok (.getstatic 204, 3) := by decide +kernel
theorem dX4_takeRank_34 : decode cX4_takeRank 34 = .ok (.invokevirtual 142, 3) := by decide +kernel
theorem dX4_takeRank_37 : decode cX4_takeRank 37 = .ok (.aload_n 0, 1) := by decide +kernel
theorem dX4_takeRank_38 : decode cX4_takeRank 38 = .ok (.iconst 1, 1) := by decide +kernel
theorem dX4_takeRank_39 : decode cX4_takeRank 39 = .ok (.iconst 4, 1) := by decide +kernel
theorem dX4_takeRank_40 : decode cX4_takeRank 40 = .ok (.invokevirtual 71, 3) := by decide +kernel
theorem dX4_takeRank_43 : decode cX4_takeRank 43 = .ok (.ireturn, 1) := by decide +kernel
theorem dX4_takeRank_44 : decode cX4_takeRank 44 = .ok (.iconst 4, 1) := by decide +kernel
theorem dX4_takeRank_45 : decode cX4_takeRank 45 = .ok (.ireturn, 1) := by decide +kernel
theorem dX4_takeNewName_0 : decode cX4_takeNewName 0 = .ok (.aload_n 0, 1) := by decide +kernel
theorem dX4_takeNewName_1 : decode cX4_takeNewName 1 = .ok (.invokevirtual 46, 3) := by decide +kernel
theorem dX4_takeNewName_4 : decode cX4_takeNewName 4 = .ok (.aload_n 0, 1) := by decide +kernel
theorem dX4_takeNewName_5 : decode cX4_takeNewName 5 = .ok (.getfield 36, 3) := by decide +kernel
theorem dX4_takeNewName_8 : decode cX4_takeNewName 8 = .ok (.aload_n 0, 1) := by decide +kernel
theorem dX4_takeNewName_9 : decode cX4_takeNewName 9 = .ok (.getfield 105, 3) := by decide +kernel
theorem dX4_takeNewName_12 : decode cX4_takeNewName 12 = .ok (.isub, 1) := by decide +kernel
theorem dX4_takeNewName_13 : decode cX4_takeNewName 13 = .ok (.istore_n 2, 1) := by decide +kernel
theorem dX4_takeNewName_14 : decode cX4_takeNewName 14 = .ok (.iload_n 2, 1) := by decide +kernel
theorem dX4_takeNewName_15 : decode cX4_takeNewName 15 = .ok (.bipush 6, 2) := by decide +kernel
theorem dX4_takeNewName_17 : decode cX4_takeNewName 17 = .ok (.if_icmp .gt 17, 3) := by decide +kernel
theorem dX4_takeNewName_20 : decode cX4_takeNewName 20 = .ok (.aload_n 0, 1) := by decide +kernel
theorem dX4_takeNewName_21 : decode cX4_takeNewName 21 = .ok (.invokevirtual 55, 3) := by decide +kernel
theorem dX4_takeNewName_24 : decode cX4_takeNewName 24 = .ok (.getstatic 207, 3) := by decide +kernel
theorem dX4_takeNewName_27 : decode cX4_takeNewName 27 = .ok (.if_acmp .ne 7, 3) := by decide +kernel
theorem dX4_takeNewName_30 : decode cX4_takeNewName 30 = .ok (.iconst 1, 1) := by decide +kernel
theorem dX4_takeNewName_31 : decode cX4_takeNewName 31 = .ok (.goto 4, 3) := by decide +kernel
theorem dX4_takeNewName_34 : decode cX4_takeNewName 34 = .ok (.iconst 0, 1) := by decide +kernel
theorem dX4_takeNewName_35 : decode cX4_takeNewName 35 = .ok (.istore_n 3, 1) := by decide +kernel
theorem dX4_takeNewName_36 : decode cX4_takeNewName 36 = .ok (.aload_n 0, 1) := by decide +kernel
theorem dX4_takeNewName_37 : decode cX4_takeNewName 37 = .ok (.iload_n 3, 1) := by decide +kernel
theorem dX4_takeNewName_38 : decode cX4_takeNewName 38 = .ok (.ifCond .eq 24, 3) := by decide +kernel
theorem dX4_takeNewName_41 : decode cX4_takeNewName 41 = .ok (.aload_n 1, 1) := by decide +kernel
theorem dX4_takeNewName_42 : decode cX4_takeNewName 42 = .ok (.aload_n 0, 1) := by decide +kernel
theorem dX4_takeNewName_43 : decode cX4_takeNewName 43 = .ok (.getfield 29, 3) := by decide +kernel
theorem dX4_takeNewName_46 : decode cX4_takeNewName 46 = .ok (.aload_n 0, 1) := by decide +kernel
theorem dX4_takeNewName_47 : decode cX4_takeNewName 47 = .ok (.getfield 105, 3) := by decide +kernel
theorem dX4_takeNewName_50 : decode cX4_takeNewName 50 = .ok (.iload_n 2, 1) := by decide +kernel
theorem dX4_takeNewName_51 : decode cX4_takeNewName 51 = .ok (.invokevirtual 210, 3) := by decide +kernel
theorem dX4_takeNewName_54 : decode cX4_takeNewName 54 = .ok (.iconst (-1), 1) := by decide +kernel
theorem dX4_takeNewName_55 : decode cX4_takeNewName 55 = .ok (.if_icmp .ne 7, 3) := by decide +kernel
theorem dX4_takeNewName_58 : decode cX4_takeNewName 58 = .ok (.iconst 1, 1) := by decide +kernel
theorem dX4_takeNewName_59 : decode cX4_takeNewName 59 = .ok (.goto 4, 3) := by decide +kernel
theorem dX4_takeNewName_62 : decode cX4_takeNewName 62 = .ok (.iconst 0, 1) := by decide +kernel
theorem dX4_takeNewName_63 : decode cX4_takeNewName 63 = .ok (.aload_n 0, 1) := by decide +kernel
theorem dX4_takeNewName_64 : decode cX4_takeNewName 64 = .ok (.getfield 105, 3) := by decide +kernel
theorem dX4_takeNewName_67 : decode cX4_takeNewName 67 = .ok (.invokevirtual 108, 3) := by decide +kernel
theorem dX4_takeNewName_70 : decode cX4_takeNewName 70 = .ok (.aload_n 1, 1) := by decide +kernel
theorem dX4_takeNewName_71 : decode cX4_takeNewName 71 = .ok (.aload_n 0, 1) := by decide +kernel
theorem dX4_takeNewName_72 : decode cX4_takeNewName 72 = .ok (.getfield 29, 3) := by decide +kernel
theorem dX4_takeNewName_75 : decode cX4_takeNewName 75 = .ok (.aload_n 0, 1) := by decide +kernel
theorem dX4_takeNewName_76 : decode cX4_takeNewName 76 = .ok (.getfield 105, 3) := by decide +kernel
theorem dX4_takeNewName_79 : decode cX4_takeNewName 79 = .ok (.iload_n 2, 1) := by decide +kernel
theorem dX4_takeNewName_80 : decode cX4_takeNewName 80 = .ok (.invokevirtual 214, 3) := by decide +kernel
theorem dX4_takeNewName_83 : decode cX4_takeNewName 83 = .ok (.ireturn, 1) := by decide +kernel
theorem dX4_takeToldName_0 : decode cX4_takeToldName 0 = .ok (.aload_n 0, 1) := by decide +kernel
theorem dX4_takeToldName_1 : decode cX4_takeToldName 1 = .ok (.invokevirtual 46, 3) := by decide +kernel
theorem dX4_takeToldName_4 : decode cX4_takeToldName 4 = .ok (.aload_n 1, 1) := by decide +kernel
theorem dX4_takeToldName_5 : decode cX4_takeToldName 5 = .ok (.aload_n 0, 1) := by decide +kernel
theorem dX4_takeToldName_6 : decode cX4_takeToldName 6 = .ok (.getfield 29, 3) := by decide +kernel
theorem dX4_takeToldName_9 : decode cX4_takeToldName 9 = .ok (.aload_n 0, 1) := by decide +kernel
theorem dX4_takeToldName_10 : decode cX4_takeToldName 10 = .ok (.getfield 105, 3) := by decide +kernel
theorem dX4_takeToldName_13 : decode cX4_takeToldName 13 = .ok (.aload_n 0, 1) := by decide +kernel
theorem dX4_takeToldName_14 : decode cX4_takeToldName 14 = .ok (.getfield 36, 3) := by decide +kernel
theorem dX4_takeToldName_17 : decode cX4_takeToldName 17 = .ok (.aload_n 0, 1) := by decide +kernel
theorem dX4_takeToldName_18 : decode cX4_takeToldName 18 = .ok (.getfield 105, 3) := by decide +kernel
theorem dX4_takeToldName_21 : decode cX4_takeToldName 21 = .ok (.isub, 1) := by decide +kernel
theorem dX4_takeToldName_22 : decode cX4_takeToldName 22 = .ok (.invokevirtual 210, 3) := by decide +kernel
theorem dX4_takeToldName_25 : decode cX4_takeToldName 25 = .ok (.istore_n 2, 1) := by decide +kernel
theorem dX4_takeToldName_26 : decode cX4_takeToldName 26 = .ok (.aload_n 0, 1) := by decide +kernel
theorem dX4_takeToldName_27 : decode cX4_takeToldName 27 = .ok (.iload_n 2, 1) := by decide +kernel
theorem dX4_takeToldName_28 : decode cX4_takeToldName 28 = .ok (.iconst (-1), 1) := by decide +kernel
theorem dX4_takeToldName_29 : decode cX4_takeToldName 29 = .ok (.if_icmp .eq 7, 3) := by decide +kernel
theorem dX4_takeToldName_32 : decode cX4_takeToldName 32 = .ok (.iconst 1, 1) := by decide +kernel
theorem dX4_takeToldName_33 : decode cX4_takeToldName 33 = .ok (.goto 4, 3) := by decide +kernel
theorem dX4_takeToldName_36 : decode cX4_takeToldName 36 = .ok (.iconst 0, 1) := by decide +kernel
theorem dX4_takeToldName_37 : decode cX4_takeToldName 37 = .ok (.aload_n 0, 1) := by decide +kernel
theorem dX4_takeToldName_38 : decode cX4_takeToldName 38 = .ok (.getfield 105, 3) := by decide +kernel
theorem dX4_takeToldName_41 : decode cX4_takeToldName 41 = .ok (.invokevirtual 108, 3) := by decide +kernel
theorem dX4_takeToldName_44 : decode cX4_takeToldName 44 = .ok (.iload_n 2, 1) := by decide +kernel
theorem dX4_takeToldName_45 : decode cX4_takeToldName 45 = .ok (.ireturn, 1) := by decide +kernel
theorem dX4_takeThis_0 : decode cX4_takeThis 0 = .ok (.aload_n 0, 1) := by decide +kernel
theorem dX4_takeThis_1 : decode cX4_takeThis 1 = .ok (.invokevirtual 46, 3) := by decide +kernel
theorem dX4_takeThis_4 : decode cX4_takeThis 4 = .ok (.aload_n 0, 1) := by decide +kernel
theorem dX4_takeThis_5 : decode cX4_takeThis 5 = .ok (.aload_n 0, 1) := by decide +kernel
theorem dX4_takeThis_6 : decode cX4_takeThis 6 = .ok (.aload_n 1, 1) := by decide +kernel
theorem dX4_takeThis_7 : decode cX4_takeThis 7 = .ok (.getfield 217, 3) := by decide +kernel
theorem dX4_takeThis_10 : decode cX4_takeThis 10 = .ok (.invokevirtual 221, 3) := by decide +kernel
theorem dX4_takeThis_13 : decode cX4_takeThis 13 = .ok (.aload_n 0, 1) := by decide +kernel
theorem dX4_takeThis_14 : decode cX4_takeThis 14 = .ok (.getfield 105, 3) := by decide +kernel
theorem dX4_takeThis_17 : decode cX4_takeThis 17 = .ok (.invokevirtual 108, 3) := by decide +kernel
theorem dX4_takeThis_20 : decode cX4_takeThis 20 = .ok (.return_, 1) := by decide +kernel
theorem dX4_takeWord_0 : decode cX4_takeWord 0 = .ok (.aload_n 0, 1) := by decide +kernel
theorem dX4_takeWord_1 : decode cX4_takeWord 1 = .ok (.invokevirtual 43, 3) := by decide +kernel
theorem dX4_takeWord_4 : decode cX4_takeWord 4 = .ok (.aload_n 0, 1) := by decide +kernel
theorem dX4_takeWord_5 : decode cX4_takeWord 5 = .ok (.aload_n 0, 1) := by decide +kernel
theorem dX4_takeWord_6 : decode cX4_takeWord 6 = .ok (.getfield 36, 3) := by decide +kernel
theorem dX4_takeWord_9 : decode cX4_takeWord 9 = .ok (.putfield 105, 3) := by decide +kernel
theorem dX4_takeWord_12 : decode cX4_takeWord 12 = .ok (.aload_n 0, 1) := by decide +kernel
theorem dX4_takeWord_13 : decode cX4_takeWord 13 = .ok (.getfield 36, 3) := by decide +kernel
theorem dX4_takeWord_16 : decode cX4_takeWord 16 = .ok (.aload_n 0, 1) := by decide +kernel
theorem dX4_takeWord_17 : decode cX4_takeWord 17 = .ok (.getfield 33, 3) := by decide +kernel
theorem dX4_takeWord_20 : decode cX4_takeWord 20 = .ok (.if_icmp .ge 31, 3) := by decide +kernel
theorem dX4_takeWord_23 : decode cX4_takeWord 23 = .ok (.aload_n 0, 1) := by decide +kernel
theorem dX4_takeWord_24 : decode cX4_takeWord 24 = .ok (.getfield 29, 3) := by decide +kernel
theorem dX4_takeWord_27 : decode cX4_takeWord 27 = .ok (.aload_n 0, 1) := by decide +kernel
theorem dX4_takeWord_28 : decode cX4_takeWord 28 = .ok (.getfield 36, 3) := by decide +kernel
theorem dX4_takeWord_31 : decode cX4_takeWord 31 = .ok (.baload, 1) := by decide +kernel
theorem dX4_takeWord_32 : decode cX4_takeWord 32 = .ok (.invokestatic 200, 3) := by decide +kernel
theorem dX4_takeWord_35 : decode cX4_takeWord 35 = .ok (.ifCond .eq 16, 3) := by decide +kernel
theorem dX4_takeWord_38 : decode cX4_takeWord 38 = .ok (.aload_n 0, 1) := by decide +kernel
theorem dX4_takeWord_39 : decode cX4_takeWord 39 = .ok (.dup, 1) := by decide +kernel
theorem dX4_takeWord_40 : decode cX4_takeWord 40 = .ok (.getfield 36, 3) := by decide +kernel
theorem dX4_takeWord_43 : decode cX4_takeWord 43 = .ok (.iconst 1, 1) := by decide +kernel
theorem dX4_takeWord_44 : decode cX4_takeWord 44 = .ok (.iadd, 1) := by decide +kernel
theorem dX4_takeWord_45 : decode cX4_takeWord 45 = .ok (.putfield 36, 3) := by decide +kernel
theorem dX4_takeWord_48 : decode cX4_takeWord 48 = .ok (.goto (-36), 3) := by decide +kernel
theorem dX4_takeWord_51 : decode cX4_takeWord 51 = .ok (.aload_n 0, 1) := by decide +kernel
theorem dX4_takeWord_52 : decode cX4_takeWord 52 = .ok (.aload_n 0, 1) := by decide +kernel
theorem dX4_takeWord_53 : decode cX4_takeWord 53 = .ok (.getfield 36, 3) := by decide +kernel
theorem dX4_takeWord_56 : decode cX4_takeWord 56 = .ok (.aload_n 0, 1) := by decide +kernel
theorem dX4_takeWord_57 : decode cX4_takeWord 57 = .ok (.getfield 105, 3) := by decide +kernel
theorem dX4_takeWord_60 : decode cX4_takeWord 60 = .ok (.if_icmp .le 7, 3) := by decide +kernel
theorem dX4_takeWord_63 : decode cX4_takeWord 63 = .ok (.iconst 1, 1) := by decide +kernel
theorem dX4_takeWord_64 : decode cX4_takeWord 64 = .ok (.goto 4, 3) := by decide +kernel
theorem dX4_takeWord_67 : decode cX4_takeWord 67 = .ok (.iconst 0, 1) := by decide +kernel
theorem dX4_takeWord_68 : decode cX4_takeWord 68 = .ok (.aload_n 0, 1) := by decide +kernel
theorem dX4_takeWord_69 : decode cX4_takeWord 69 = .ok (.getfield 105, 3) := by decide +kernel
theorem dX4_takeWord_72 : decode cX4_takeWord 72 = .ok (.invokevirtual 108, 3) := by decide +kernel
theorem dX4_takeWord_75 : decode cX4_takeWord 75 = .ok (.return_, 1) := by decide +kernel
theorem dX4_takeNumber_0 : decode cX4_takeNumber 0 = .ok (.aload_n 0, 1) := by decide +kernel
theorem dX4_takeNumber_1 : decode cX4_takeNumber 1 = .ok (.invokevirtual 43, 3) := by decide +kernel
theorem dX4_takeNumber_4 : decode cX4_takeNumber 4 = .ok (.aload_n 0, 1) := by decide +kernel
theorem dX4_takeNumber_5 : decode cX4_takeNumber 5 = .ok (.aload_n 0, 1) := by decide +kernel
theorem dX4_takeNumber_6 : decode cX4_takeNumber 6 = .ok (.getfield 36, 3) := by decide +kernel
theorem dX4_takeNumber_9 : decode cX4_takeNumber 9 = .ok (.putfield 105, 3) := by decide +kernel
theorem dX4_takeNumber_12 : decode cX4_takeNumber 12 = .ok (.iconst 0, 1) := by decide +kernel
theorem dX4_takeNumber_13 : decode cX4_takeNumber 13 = .ok (.istore_n 3, 1) := by decide +kernel
theorem dX4_takeNumber_14 : decode cX4_takeNumber 14 = .ok (.aload_n 0, 1) := by decide +kernel
theorem dX4_takeNumber_15 : decode cX4_takeNumber 15 = .ok (.getfield 36, 3) := by decide +kernel
theorem dX4_takeNumber_18 : decode cX4_takeNumber 18 = .ok (.aload_n 0, 1) := by decide +kernel
theorem dX4_takeNumber_19 : decode cX4_takeNumber 19 = .ok (.getfield 33, 3) := by decide +kernel
theorem dX4_takeNumber_22 : decode cX4_takeNumber 22 = .ok (.if_icmp .ge 62, 3) := by decide +kernel
theorem dX4_takeNumber_25 : decode cX4_takeNumber 25 = .ok (.aload_n 0, 1) := by decide +kernel
theorem dX4_takeNumber_26 : decode cX4_takeNumber 26 = .ok (.getfield 29, 3) := by decide +kernel
theorem dX4_takeNumber_29 : decode cX4_takeNumber 29 = .ok (.aload_n 0, 1) := by decide +kernel
theorem dX4_takeNumber_30 : decode cX4_takeNumber 30 = .ok (.getfield 36, 3) := by decide +kernel
theorem dX4_takeNumber_33 : decode cX4_takeNumber 33 = .ok (.baload, 1) := by decide +kernel
theorem dX4_takeNumber_34 : decode cX4_takeNumber 34 = .ok (.invokestatic 225, 3) := by decide +kernel
theorem dX4_takeNumber_37 : decode cX4_takeNumber 37 = .ok (.ifCond .eq 47, 3) := by decide +kernel
theorem dX4_takeNumber_40 : decode cX4_takeNumber 40 = .ok (.aload_n 0, 1) := by decide +kernel
theorem dX4_takeNumber_41 : decode cX4_takeNumber 41 = .ok (.getfield 36, 3) := by decide +kernel
theorem dX4_takeNumber_44 : decode cX4_takeNumber 44 = .ok (.aload_n 0, 1) := by decide +kernel
theorem dX4_takeNumber_45 : decode cX4_takeNumber 45 = .ok (.getfield 105, 3) := by decide +kernel
theorem dX4_takeNumber_48 : decode cX4_takeNumber 48 = .ok (.isub, 1) := by decide +kernel
theorem dX4_takeNumber_49 : decode cX4_takeNumber 49 = .ok (.iconst 5, 1) := by decide +kernel
theorem dX4_takeNumber_50 : decode cX4_takeNumber 50 = .ok (.if_icmp .ge 21, 3) := by decide +kernel
theorem dX4_takeNumber_53 : decode cX4_takeNumber 53 = .ok (.iload_n 3, 1) := by decide +kernel
theorem dX4_takeNumber_54 : decode cX4_takeNumber 54 = .ok (.bipush 10, 2) := by decide +kernel
theorem dX4_takeNumber_56 : decode cX4_takeNumber 56 = .ok (.imul, 1) := by decide +kernel
theorem dX4_takeNumber_57 : decode cX4_takeNumber 57 = .ok (.aload_n 0, 1) := by decide +kernel

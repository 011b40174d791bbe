theorem dX9_init_0 : decode cX9_init 0 = .ok (.aload_n 0, 1) := by decide +kernel
theorem dX9_init_1 : decode cX9_init 1 = .ok (.invokespecial 1, 3) := by decide +kernel
theorem dX9_init_4 : decode cX9_init 4 = .ok (.aload_n 0, 1) := by decide +kernel
theorem dX9_init_5 : decode cX9_init 5 = .ok (.bipush 61, 2) := by decide +kernel
theorem dX9_init_7 : decode cX9_init 7 = .ok (.newarray .int, 2) := by decide +kernel
theorem dX9_init_9 : decode cX9_init 9 = .ok (.putfield 7, 3) := by decide +kernel
theorem dX9_init_12 : decode cX9_init 12 = .ok (.aload_n 0, 1) := by decide +kernel
theorem dX9_init_13 : decode cX9_init 13 = .ok (.bipush 61, 2) := by decide +kernel
theorem dX9_init_15 : decode cX9_init 15 = .ok (.newarray .int, 2) := by decide +kernel
theorem dX9_init_17 : decode cX9_init 17 = .ok (.putfield 13, 3) := by decide +kernel
theorem dX9_init_20 : decode cX9_init 20 = .ok (.aload_n 0, 1) := by decide +kernel
theorem dX9_init_21 : decode cX9_init 21 = .ok (.sipush 976, 3) := by decide +kernel
theorem dX9_init_24 : decode cX9_init 24 = .ok (.newarray .int, 2) := by decide +kernel
theorem dX9_init_26 : decode cX9_init 26 = .ok (.putfield 16, 3) := by decide +kernel
theorem dX9_init_29 : decode cX9_init 29 = .ok (.aload_n 0, 1) := by decide +kernel
theorem dX9_init_30 : decode cX9_init 30 = .ok (.bipush 8, 2) := by decide +kernel
theorem dX9_init_32 : decode cX9_init 32 = .ok (.newarray .int, 2) := by decide +kernel
theorem dX9_init_34 : decode cX9_init 34 = .ok (.putfield 19, 3) := by decide +kernel
theorem dX9_init_37 : decode cX9_init 37 = .ok (.aload_n 0, 1) := by decide +kernel
theorem dX9_init_38 : decode cX9_init 38 = .ok (.bipush 12, 2) := by decide +kernel
theorem dX9_init_40 : decode cX9_init 40 = .ok (.newarray .int, 2) := by decide +kernel
theorem dX9_init_42 : decode cX9_init 42 = .ok (.putfield 22, 3) := by decide +kernel
theorem dX9_init_45 : decode cX9_init 45 = .ok (.aload_n 0, 1) := by decide +kernel
theorem dX9_init_46 : decode cX9_init 46 = .ok (.bipush 12, 2) := by decide +kernel
theorem dX9_init_48 : decode cX9_init 48 = .ok (.newarray .int, 2) := by decide +kernel
theorem dX9_init_50 : decode cX9_init 50 = .ok (.putfield 25, 3) := by decide +kernel
theorem dX9_init_53 : decode cX9_init 53 = .ok (.aload_n 0, 1) := by decide +kernel
theorem dX9_init_54 : decode cX9_init 54 = .ok (.bipush 12, 2) := by decide +kernel
theorem dX9_init_56 : decode cX9_init 56 = .ok (.newarray .boolean, 2) := by decide +kernel
theorem dX9_init_58 : decode cX9_init 58 = .ok (.putfield 28, 3) := by decide +kernel
theorem dX9_init_61 : decode cX9_init 61 = .ok (.aload_n 0, 1) := by decide +kernel
theorem dX9_init_62 : decode cX9_init 62 = .ok (.bipush 60, 2) := by decide +kernel
theorem dX9_init_64 : decode cX9_init 64 = .ok (.newarray .int, 2) := by decide +kernel
theorem dX9_init_66 : decode cX9_init 66 = .ok (.putfield 32, 3) := by decide +kernel
theorem dX9_init_69 : decode cX9_init 69 = .ok (.aload_n 0, 1) := by decide +kernel
theorem dX9_init_70 : decode cX9_init 70 = .ok (.sipush 400, 3) := by decide +kernel
theorem dX9_init_73 : decode cX9_init 73 = .ok (.newarray .byte, 2) := by decide +kernel
theorem dX9_init_75 : decode cX9_init 75 = .ok (.putfield 35, 3) := by decide +kernel
theorem dX9_init_78 : decode cX9_init 78 = .ok (.aload_n 0, 1) := by decide +kernel
theorem dX9_init_79 : decode cX9_init 79 = .ok (.iconst (-1), 1) := by decide +kernel
theorem dX9_init_80 : decode cX9_init 80 = .ok (.putfield 39, 3) := by decide +kernel
theorem dX9_init_83 : decode cX9_init 83 = .ok (.aload_n 0, 1) := by decide +kernel
theorem dX9_init_84 : decode cX9_init 84 = .ok (.bipush 61, 2) := by decide +kernel
theorem dX9_init_86 : decode cX9_init 86 = .ok (.newarray .int, 2) := by decide +kernel
theorem dX9_init_88 : decode cX9_init 88 = .ok (.putfield 43, 3) := by decide +kernel
theorem dX9_init_91 : decode cX9_init 91 = .ok (.aload_n 0, 1) := by decide +kernel
theorem dX9_init_92 : decode cX9_init 92 = .ok (.bipush 8, 2) := by decide +kernel
theorem dX9_init_94 : decode cX9_init 94 = .ok (.newarray .int, 2) := by decide +kernel
theorem dX9_init_96 : decode cX9_init 96 = .ok (.putfield 46, 3) := by decide +kernel
theorem dX9_init_99 : decode cX9_init 99 = .ok (.aload_n 0, 1) := by decide +kernel
theorem dX9_init_100 : decode cX9_init 100 = .ok (.bipush 12, 2) := by decide +kernel
theorem dX9_init_102 : decode cX9_init 102 = .ok (.newarray .int, 2) := by decide +kernel
theorem dX9_init_104 : decode cX9_init 104 = .ok (.putfield 49, 3) := by decide +kernel
theorem dX9_init_107 : decode cX9_init 107 = .ok (.aload_n 0, 1) := by decide +kernel
theorem dX9_init_108 : decode cX9_init 108 = .ok (.bipush 12, 2) := by decide +kernel
theorem dX9_init_110 : decode cX9_init 110 = .ok (.newarray .int, 2) := by decide +kernel
theorem dX9_init_112 : decode cX9_init 112 = .ok (.putfield 52, 3) := by decide +kernel
theorem dX9_init_115 : decode cX9_init 115 = .ok (.aload_n 0, 1) := by decide +kernel
theorem dX9_init_116 : decode cX9_init 116 = .ok (.bipush 12, 2) := by decide +kernel
theorem dX9_init_118 : decode cX9_init 118 = .ok (.newarray .boolean, 2) := by decide +kernel
theorem dX9_init_120 : decode cX9_init 120 = .ok (.putfield 55, 3) := by decide +kernel
theorem dX9_init_123 : decode cX9_init 123 = .ok (.aload_n 0, 1) := by decide +kernel
theorem dX9_init_124 : decode cX9_init 124 = .ok (.bipush 60, 2) := by decide +kernel
theorem dX9_init_126 : decode cX9_init 126 = .ok (.newarray .int, 2) := by decide +kernel
theorem dX9_init_128 : decode cX9_init 128 = .ok (.putfield 58, 3) := by decide +kernel
theorem dX9_init_131 : decode cX9_init 131 = .ok (.aload_n 0, 1) := by decide +kernel
theorem dX9_init_132 : decode cX9_init 132 = .ok (.bipush 12, 2) := by decide +kernel
theorem dX9_init_134 : decode cX9_init 134 = .ok (.newarray .int, 2) := by decide +kernel
theorem dX9_init_136 : decode cX9_init 136 = .ok (.putfield 61, 3) := by decide +kernel
theorem dX9_init_139 : decode cX9_init 139 = .ok (.aload_n 0, 1) := by decide +kernel
theorem dX9_init_140 : decode cX9_init 140 = .ok (.bipush 12, 2) := by decide +kernel
theorem dX9_init_142 : decode cX9_init 142 = .ok (.newarray .boolean, 2) := by decide +kernel
theorem dX9_init_144 : decode cX9_init 144 = .ok (.putfield 64, 3) := by decide +kernel
theorem dX9_init_147 : decode cX9_init 147 = .ok (.aload_n 0, 1) := by decide +kernel
theorem dX9_init_148 : decode cX9_init 148 = .ok (.bipush 84, 2) := by decide +kernel
theorem dX9_init_150 : decode cX9_init 150 = .ok (.newarray .int, 2) := by decide +kernel
theorem dX9_init_152 : decode cX9_init 152 = .ok (.putfield 67, 3) := by decide +kernel
theorem dX9_init_155 : decode cX9_init 155 = .ok (.aload_n 0, 1) := by decide +kernel
theorem dX9_init_156 : decode cX9_init 156 = .ok (.bipush 84, 2) := by decide +kernel
theorem dX9_init_158 : decode cX9_init 158 = .ok (.newarray .int, 2) := by decide +kernel
theorem dX9_init_160 : decode cX9_init 160 = .ok (.putfield 70, 3) := by decide +kernel
theorem dX9_init_163 : decode cX9_init 163 = .ok (.aload_n 0, 1) := by decide +kernel
theorem dX9_init_164 : decode cX9_init 164 = .ok (.bipush 7, 2) := by decide +kernel
theorem dX9_init_166 : decode cX9_init 166 = .ok (.newarray .int, 2) := by decide +kernel
theorem dX9_init_168 : decode cX9_init 168 = .ok (.putfield 73, 3) := by decide +kernel
theorem dX9_init_171 : decode cX9_init 171 = .ok (.aload_n 0, 1) := by decide +kernel
theorem dX9_init_172 : decode cX9_init 172 = .ok (.bipush 12, 2) := by decide +kernel
theorem dX9_init_174 : decode cX9_init 174 = .ok (.newarray .int, 2) := by decide +kernel
theorem dX9_init_176 : decode cX9_init 176 = .ok (.putfield 76, 3) := by decide +kernel
theorem dX9_init_179 : decode cX9_init 179 = .ok (.aload_n 0, 1) := by decide +kernel
theorem dX9_init_180 : decode cX9_init 180 = .ok (.bipush 12, 2) := by decide +kernel
theorem dX9_init_182 : decode cX9_init 182 = .ok (.newarray .long, 2) := by decide +kernel
theorem dX9_init_184 : decode cX9_init 184 = .ok (.putfield 79, 3) := by decide +kernel
theorem dX9_init_187 : decode cX9_init 187 = .ok (.aload_n 0, 1) := by decide +kernel
theorem dX9_init_188 : decode cX9_init 188 = .ok (.bipush 12, 2) := by decide +kernel
theorem dX9_init_190 : decode cX9_init 190 = .ok (.newarray .long, 2) := by decide +kernel
theorem dX9_init_192 : decode cX9_init 192 = .ok (.putfield 83, 3) := by decide +kernel
theorem dX9_init_195 : decode cX9_init 195 = .ok (.aload_n 0, 1) := by decide +kernel
theorem dX9_init_196 : decode cX9_init 196 = .ok (.bipush 12, 2) := by decide +kernel
theorem dX9_init_198 : decode cX9_init 198 = .ok (.newarray .int, 2) := by decide +kernel
theorem dX9_init_200 : decode cX9_init 200 = .ok (.putfield 86, 3) := by decide +kernel
theorem dX9_init_203 : decode cX9_init 203 = .ok (.aload_n 0, 1) := by decide +kernel
theorem dX9_init_204 : decode cX9_init 204 = .ok (.bipush 12, 2) := by decide +kernel
theorem dX9_init_206 : decode cX9_init 206 = .ok (.newarray .int, 2) := by decide +kernel
theorem dX9_init_208 : decode cX9_init 208 = .ok (.putfield 89, 3) := by decide +kernel
theorem dX9_init_211 : decode cX9_init 211 = .ok (.aload_n 0, 1) := by decide +kernel
theorem dX9_init_212 : decode cX9_init 212 = .ok (.bipush 12, 2) := by decide +kernel
theorem dX9_init_214 : decode cX9_init 214 = .ok (.newarray .int, 2) := by decide +kernel
theorem dX9_init_216 : decode cX9_init 216 = .ok (.putfield 92, 3) := by decide +kernel
theorem dX9_init_219 : decode cX9_init 219 = .ok (.aload_n 0, 1) := by decide +kernel
theorem dX9_init_220 : decode cX9_init 220 = .ok (.sipush 300, 3) := by decide +kernel
theorem dX9_init_223 : decode cX9_init 223 = .ok (.newarray .int, 2) := by decide +kernel
theorem dX9_init_225 : decode cX9_init 225 = .ok (.putfield 95, 3) := by decide +kernel
theorem dX9_init_228 : decode cX9_init 228 = .ok (.aload_n 0, 1) := by decide +kernel
theorem dX9_init_229 : decode cX9_init 229 = .ok (.getfield 7, 3) := by decide +kernel
theorem dX9_init_232 : decode cX9_init 232 = .ok (.bipush 59, 2) := by decide +kernel
theorem dX9_init_234 : decode cX9_init 234 = .ok (.iconst 5, 1) := by decide +kernel
theorem dX9_init_235 : decode cX9_init 235 = .ok (.iastore, 1) := by decide +kernel
theorem dX9_init_236 : decode cX9_init 236 = .ok (.return_, 1) := by decide +kernel
theorem dX9_thrown_0 : decode cX9_thrown 0 = .ok (.aload_n 0, 1) := by decide +kernel
theorem dX9_thrown_1 : decode cX9_thrown 1 = .ok (.getfield 98, 3) := by decide +kernel
theorem dX9_thrown_4 : decode cX9_thrown 4 = .ok (.ireturn, 1) := by decide +kernel
theorem dX9_isIn_0 : decode cX9_isIn 0 = .ok (.lload_n 0, 1) := by decide +kernel
theorem dX9_isIn_1 : decode cX9_isIn 1 = .ok (.lload_n 2, 1) := by decide +kernel
theorem dX9_isIn_2 : decode cX9_isIn 2 = .ok (.lcmp, 1) := by decide +kernel
theorem dX9_isIn_3 : decode cX9_isIn 3 = .ok (.ifCond .lt 14, 3) := by decide +kernel
theorem dX9_isIn_6 : decode cX9_isIn 6 = .ok (.lload_n 0, 1) := by decide +kernel
theorem dX9_isIn_7 : decode cX9_isIn 7 = .ok (.lload 4, 2) := by decide +kernel
theorem dX9_isIn_9 : decode cX9_isIn 9 = .ok (.lcmp, 1) := by decide +kernel
theorem dX9_isIn_10 : decode cX9_isIn 10 = .ok (.ifCond .gt 7, 3) := by decide +kernel
theorem dX9_isIn_13 : decode cX9_isIn 13 = .ok (.iconst 1, 1) := by decide +kernel
theorem dX9_isIn_14 : decode cX9_isIn 14 = .ok (.goto 4, 3) := by decide +kernel
theorem dX9_isIn_17 : decode cX9_isIn 17 = .ok (.iconst 0, 1) := by decide +kernel
theorem dX9_isIn_18 : decode cX9_isIn 18 = .ok (.ireturn, 1) := by decide +kernel
theorem dX9_fails_0 : decode cX9_fails 0 = .ok (.aload_n 0, 1) := by decide +kernel
theorem dX9_fails_1 : decode cX9_fails 1 = .ok (.iload_n 1, 1) := by decide +kernel
theorem dX9_fails_2 : decode cX9_fails 2 = .ok (.putfield 98, 3) := by decide +kernel
theorem dX9_fails_5 : decode cX9_fails 5 = .ok (.iconst 0, 1) := by decide +kernel
theorem dX9_fails_6 : decode cX9_fails 6 = .ok (.ireturn, 1) := by decide +kernel
theorem dX9_feed_0 : decode cX9_feed 0 = .ok (.aload_n 0, 1) := by decide +kernel
theorem dX9_feed_1 : decode cX9_feed 1 = .ok (.iconst 0, 1) := by decide +kernel
theorem dX9_feed_2 : decode cX9_feed 2 = .ok (.putfield 98, 3) := by decide +kernel
theorem dX9_feed_5 : decode cX9_feed 5 = .ok (.aload_n 0, 1) := by decide +kernel
theorem dX9_feed_6 : decode cX9_feed 6 = .ok (.getfield 101, 3) := by decide +kernel
theorem dX9_feed_9 : decode cX9_feed 9 = .ok (.bipush 20, 2) := by decide +kernel
theorem dX9_feed_11 : decode cX9_feed 11 = .ok (.iadd, 1) := by decide +kernel
theorem dX9_feed_12 : decode cX9_feed 12 = .ok (.sipush 400, 3) := by decide +kernel
theorem dX9_feed_15 : decode cX9_feed 15 = .ok (.if_icmp .le 5, 3) := by decide +kernel
theorem dX9_feed_18 : decode cX9_feed 18 = .ok (.iconst (-1), 1) := by decide +kernel
theorem dX9_feed_19 : decode cX9_feed 19 = .ok (.ireturn, 1) := by decide +kernel
theorem dX9_feed_20 : decode cX9_feed 20 = .ok (.iconst 0, 1) := by decide +kernel
theorem dX9_feed_21 : decode cX9_feed 21 = .ok (.istore 6, 2) := by decide +kernel
theorem dX9_feed_23 : decode cX9_feed 23 = .ok (.iload 6, 2) := by decide +kernel
theorem dX9_feed_25 : decode cX9_feed 25 = .ok (.bipush 20, 2) := by decide +kernel
theorem dX9_feed_27 : decode cX9_feed 27 = .ok (.if_icmp .ge 90, 3) := by decide +kernel
theorem dX9_feed_30 : decode cX9_feed 30 = .ok (.iload 6, 2) := by decide +kernel
theorem dX9_feed_32 : decode cX9_feed 32 = .ok (.iconst 4, 1) := by decide +kernel
theorem dX9_feed_33 : decode cX9_feed 33 = .ok (.if_icmp .ge 7, 3) := by decide +kernel
theorem dX9_feed_36 : decode cX9_feed 36 = .ok (.iload_n 1, 1) := by decide +kernel
theorem dX9_feed_37 : decode cX9_feed 37 = .ok (.goto 39, 3) := by decide +kernel
theorem dX9_feed_40 : decode cX9_feed 40 = .ok (.iload 6, 2) := by decide +kernel
theorem dX9_feed_42 : decode cX9_feed 42 = .ok (.bipush 8, 2) := by decide +kernel
theorem dX9_feed_44 : decode cX9_feed 44 = .ok (.if_icmp .ge 7, 3) := by decide +kernel
theorem dX9_feed_47 : decode cX9_feed 47 = .ok (.iload_n 2, 1) := by decide +kernel
theorem dX9_feed_48 : decode cX9_feed 48 = .ok (.goto 28, 3) := by decide +kernel
theorem dX9_feed_51 : decode cX9_feed 51 = .ok (.iload 6, 2) := by decide +kernel
theorem dX9_feed_53 : decode cX9_feed 53 = .ok (.bipush 12, 2) := by decide +kernel
theorem dX9_feed_55 : decode cX9_feed 55 = .ok (.if_icmp .ge 7, 3) := by decide +kernel
theorem dX9_feed_58 : decode cX9_feed 58 = .ok (.iload_n 3, 1) := by decide +kernel
theorem dX9_feed_59 : decode cX9_feed 59 = .ok (.goto 17, 3) := by decide +kernel
theorem dX9_feed_62 : decode cX9_feed 62 = .ok (.iload 6, 2) := by decide +kernel
theorem dX9_feed_64 : decode cX9_feed 64 = .ok (.bipush 16, 2) := by decide +kernel
theorem dX9_feed_66 : decode cX9_feed 66 = .ok (.if_icmp .ge 8, 3) := by decide +kernel
theorem dX9_feed_69 : decode cX9_feed 69 = .ok (.iload 4, 2) := by decide +kernel
theorem dX9_feed_71 : decode cX9_feed 71 = .ok (.goto 5, 3) := by decide +kernel
theorem dX9_feed_74 : decode cX9_feed 74 = .ok (.iload 5, 2) := by decide +kernel
theorem dX9_feed_76 : decode cX9_feed 76 = .ok (.istore 7, 2) := by decide +kernel
theorem dX9_feed_78 : decode cX9_feed 78 = .ok (.aload_n 0, 1) := by decide +kernel
theorem dX9_feed_79 : decode cX9_feed 79 = .ok (.getfield 35, 3) := by decide +kernel
theorem dX9_feed_82 : decode cX9_feed 82 = .ok (.aload_n 0, 1) := by decide +kernel
theorem dX9_feed_83 : decode cX9_feed 83 = .ok (.getfield 101, 3) := by decide +kernel
theorem dX9_feed_86 : decode cX9_feed 86 = .ok (.iload 7, 2) := by decide +kernel
theorem dX9_feed_88 : decode cX9_feed 88 = .ok (.bipush 24, 2) := by decide +kernel
theorem dX9_feed_90 : decode cX9_feed 90 = .ok (.bipush 8, 2) := by decide +kernel
theorem dX9_feed_92 : decode cX9_feed 92 = .ok (.iload 6, 2) := by decide +kernel
theorem dX9_feed_94 : decode cX9_feed 94 = .ok (.iconst 4, 1) := by decide +kernel
theorem dX9_feed_95 : decode cX9_feed 95 = .ok (.irem, 1) := by decide +kernel
theorem dX9_feed_96 : decode cX9_feed 96 = .ok (.imul, 1) := by decide +kernel
theorem dX9_feed_97 : decode cX9_feed 97 = .ok (.isub, 1) := by decide +kernel
theorem dX9_feed_98 : decode cX9_feed 98 = .ok (.ishr, 1) := by decide +kernel
theorem dX9_feed_99 : decode cX9_feed 99 = .ok (.i2b, 1) := by decide +kernel
theorem dX9_feed_100 : decode cX9_feed 100 = .ok (.bastore, 1) := by decide +kernel
theorem dX9_feed_101 : decode cX9_feed 101 = .ok (.aload_n 0, 1) := by decide +kernel
theorem dX9_feed_102 : decode cX9_feed 102 = .ok (.dup, 1) := by decide +kernel
theorem dX9_feed_103 : decode cX9_feed 103 = .ok (.getfield 101, 3) := by decide +kernel
theorem dX9_feed_106 : decode cX9_feed 106 = .ok (.iconst 1, 1) := by decide +kernel
theorem dX9_feed_107 : decode cX9_feed 107 = .ok (.iadd, 1) := by decide +kernel
theorem dX9_feed_108 : decode cX9_feed 108 = .ok (.putfield 101, 3) := by decide +kernel
theorem dX9_feed_111 : decode cX9_feed 111 = .ok (.iinc 6 1, 3) := by decide +kernel
theorem dX9_feed_114 : decode cX9_feed 114 = .ok (.goto (-91), 3) := by decide +kernel
theorem dX9_feed_117 : decode cX9_feed 117 = .ok (.aload_n 0, 1) := by decide +kernel
theorem dX9_feed_118 : decode cX9_feed 118 = .ok (.getfield 101, 3) := by decide +kernel
theorem dX9_feed_121 : decode cX9_feed 121 = .ok (.ireturn, 1) := by decide +kernel
theorem dX9_end_0 : decode cX9_end 0 = .ok (.aload_n 0, 1) := by decide +kernel
theorem dX9_end_1 : decode cX9_end 1 = .ok (.iconst 0, 1) := by decide +kernel
theorem dX9_end_2 : decode cX9_end 2 = .ok (.putfield 98, 3) := by decide +kernel
theorem dX9_end_5 : decode cX9_end 5 = .ok (.iload_n 1, 1) := by decide +kernel
theorem dX9_end_6 : decode cX9_end 6 = .ok (.ifCond .lt 11, 3) := by decide +kernel
theorem dX9_end_9 : decode cX9_end 9 = .ok (.iload_n 1, 1) := by decide +kernel
theorem dX9_end_10 : decode cX9_end 10 = .ok (.aload_n 0, 1) := by decide +kernel
theorem dX9_end_11 : decode cX9_end 11 = .ok (.getfield 101, 3) := by decide +kernel
theorem dX9_end_14 : decode cX9_end 14 = .ok (.if_icmp .le 5, 3) := by decide +kernel
theorem dX9_end_17 : decode cX9_end 17 = .ok (.iconst 0, 1) := by decide +kernel
theorem dX9_end_18 : decode cX9_end 18 = .ok (.ireturn, 1) := by decide +kernel
theorem dX9_end_19 : decode cX9_end 19 = .ok (.aload_n 0, 1) := by decide +kernel
theorem dX9_end_20 : decode cX9_end 20 = .ok (.iload_n 1, 1) := by decide +kernel
theorem dX9_end_21 : decode cX9_end 21 = .ok (.putfield 101, 3) := by decide +kernel
theorem dX9_end_24 : decode cX9_end 24 = .ok (.iconst 1, 1) := by decide +kernel
theorem dX9_end_25 : decode cX9_end 25 = .ok (.ireturn, 1) := by decide +kernel
theorem dX9_here_0 : decode cX9_here 0 = .ok (.aload_n 0, 1) := by decide +kernel
theorem dX9_here_1 : decode cX9_here 1 = .ok (.getfield 104, 3) := by decide +kernel
theorem dX9_here_4 : decode cX9_here 4 = .ok (.aload_n 0, 1) := by decide +kernel
theorem dX9_here_5 : decode cX9_here 5 = .ok (.getfield 107, 3) := by decide +kernel
theorem dX9_here_8 : decode cX9_here 8 = .ok (.if_icmp .ge 58, 3) := by decide +kernel
theorem dX9_here_11 : decode cX9_here 11 = .ok (.aload_n 0, 1) := by decide +kernel
theorem dX9_here_12 : decode cX9_here 12 = .ok (.getfield 35, 3) := by decide +kernel
theorem dX9_here_15 : decode cX9_here 15 = .ok (.aload_n 0, 1) := by decide +kernel
theorem dX9_here_16 : decode cX9_here 16 = .ok (.getfield 104, 3) := by decide +kernel
theorem dX9_here_19 : decode cX9_here 19 = .ok (.baload, 1) := by decide +kernel
theorem dX9_here_20 : decode cX9_here 20 = .ok (.bipush 9, 2) := by decide +kernel
theorem dX9_here_22 : decode cX9_here 22 = .ok (.if_icmp .eq 31, 3) := by decide +kernel
theorem dX9_here_25 : decode cX9_here 25 = .ok (.aload_n 0, 1) := by decide +kernel
theorem dX9_here_26 : decode cX9_here 26 = .ok (.getfield 35, 3) := by decide +kernel
theorem dX9_here_29 : decode cX9_here 29 = .ok (.aload_n 0, 1) := by decide +kernel
theorem dX9_here_30 : decode cX9_here 30 = .ok (.getfield 104, 3) := by decide +kernel
theorem dX9_here_33 : decode cX9_here 33 = .ok (.baload, 1) := by decide +kernel
theorem dX9_here_34 : decode cX9_here 34 = .ok (.bipush 10, 2) := by decide +kernel
theorem dX9_here_36 : decode cX9_here 36 = .ok (.if_icmp .eq 17, 3) := by decide +kernel
theorem dX9_here_39 : decode cX9_here 39 = .ok (.aload_n 0, 1) := by decide +kernel
theorem dX9_here_40 : decode cX9_here 40 = .ok (.getfield 35, 3) := by decide +kernel
theorem dX9_here_43 : decode cX9_here 43 = .ok (.aload_n 0, 1) := by decide +kernel
theorem dX9_here_44 : decode cX9_here 44 = .ok (.getfield 104, 3) := by decide +kernel
theorem dX9_here_47 : decode cX9_here 47 = .ok (.baload, 1) := by decide +kernel
theorem dX9_here_48 : decode cX9_here 48 = .ok (.bipush 32, 2) := by decide +kernel
theorem dX9_here_50 : decode cX9_here 50 = .ok (.if_icmp .ne 16, 3) := by decide +kernel
theorem dX9_here_53 : decode cX9_here 53 = .ok (.aload_n 0, 1) := by decide +kernel
theorem dX9_here_54 : decode cX9_here 54 = .ok (.dup, 1) := by decide +kernel
theorem dX9_here_55 : decode cX9_here 55 = .ok (.getfield 104, 3) := by decide +kernel
theorem dX9_here_58 : decode cX9_here 58 = .ok (.iconst 1, 1) := by decide +kernel
theorem dX9_here_59 : decode cX9_here 59 = .ok (.iadd, 1) := by decide +kernel
theorem dX9_here_60 : decode cX9_here 60 = .ok (.putfield 104, 3) := by decide +kernel
theorem dX9_here_63 : decode cX9_here 63 = .ok (.goto (-63), 3) := by decide +kernel
theorem dX9_here_66 : decode cX9_here 66 = .ok (.aload_n 0, 1) := by decide +kernel
theorem dX9_here_67 : decode cX9_here 67 = .ok (.getfield 104, 3) := by decide +kernel
theorem dX9_here_70 : decode cX9_here 70 = .ok (.aload_n 0, 1) := by decide +kernel
theorem dX9_here_71 : decode cX9_here 71 = .ok (.getfield 107, 3) := by decide +kernel
theorem dX9_here_74 : decode cX9_here 74 = .ok (.if_icmp .ge 19, 3) := by decide +kernel
theorem dX9_here_77 : decode cX9_here 77 = .ok (.aload_n 0, 1) := by decide +kernel
theorem dX9_here_78 : decode cX9_here 78 = .ok (.getfield 35, 3) := by decide +kernel
theorem dX9_here_81 : decode cX9_here 81 = .ok (.aload_n 0, 1) := by decide +kernel
theorem dX9_here_82 : decode cX9_here 82 = .ok (.getfield 104, 3) := by decide +kernel
theorem dX9_here_85 : decode cX9_here 85 = .ok (.baload, 1) := by decide +kernel
theorem dX9_here_86 : decode cX9_here 86 = .ok (.sipush 255, 3) := by decide +kernel
theorem dX9_here_89 : decode cX9_here 89 = .ok (.iand, 1) := by decide +kernel
theorem dX9_here_90 : decode cX9_here 90 = .ok (.goto 4, 3) := by decide +kernel
theorem dX9_here_93 : decode cX9_here 93 = .ok (.iconst (-1), 1) := by decide +kernel
theorem dX9_here_94 : decode cX9_here 94 = .ok (.ireturn, 1) := by decide +kernel
theorem dX9_isWrong_0 : decode cX9_isWrong 0 = .ok (.aload_n 0, 1) := by decide +kernel
theorem dX9_isWrong_1 : decode cX9_isWrong 1 = .ok (.getfield 39, 3) := by decide +kernel
theorem dX9_isWrong_4 : decode cX9_isWrong 4 = .ok (.iconst (-1), 1) := by decide +kernel
theorem dX9_isWrong_5 : decode cX9_isWrong 5 = .ok (.if_icmp .eq 7, 3) := by decide +kernel
theorem dX9_isWrong_8 : decode cX9_isWrong 8 = .ok (.iconst 1, 1) := by decide +kernel
theorem dX9_isWrong_9 : decode cX9_isWrong 9 = .ok (.goto 4, 3) := by decide +kernel
theorem dX9_isWrong_12 : decode cX9_isWrong 12 = .ok (.iconst 0, 1) := by decide +kernel
theorem dX9_isWrong_13 : decode cX9_isWrong 13 = .ok (.ireturn, 1) := by decide +kernel
theorem dX9_wrong_0 : decode cX9_wrong 0 = .ok (.aload_n 0, 1) := by decide +kernel
theorem dX9_wrong_1 : decode cX9_wrong 1 = .ok (.aload_n 0, 1) := by decide +kernel
theorem dX9_wrong_2 : decode cX9_wrong 2 = .ok (.getfield 39, 3) := by decide +kernel
theorem dX9_wrong_5 : decode cX9_wrong 5 = .ok (.iconst (-1), 1) := by decide +kernel
theorem dX9_wrong_6 : decode cX9_wrong 6 = .ok (.if_icmp .ne 7, 3) := by decide +kernel
theorem dX9_wrong_9 : decode cX9_wrong 9 = .ok (.iload_n 1, 1) := by decide +kernel
theorem dX9_wrong_10 : decode cX9_wrong 10 = .ok (.goto 7, 3) := by decide +kernel
theorem dX9_wrong_13 : decode cX9_wrong 13 = .ok (.aload_n 0, 1) := by decide +kernel
theorem dX9_wrong_14 : decode cX9_wrong 14 = .ok (.getfield 39, 3) := by decide +kernel
theorem dX9_wrong_17 : decode cX9_wrong 17 = .ok (.putfield 39, 3) := by decide +kernel
theorem dX9_wrong_20 : decode cX9_wrong 20 = .ok (.return_, 1) := by decide +kernel
theorem dX9_wordLong_0 : decode cX9_wordLong 0 = .ok (.aload_n 0, 1) := by decide +kernel
theorem dX9_wordLong_1 : decode cX9_wordLong 1 = .ok (.invokevirtual 110, 3) := by decide +kernel
theorem dX9_wordLong_4 : decode cX9_wordLong 4 = .ok (.pop, 1) := by decide +kernel
theorem dX9_wordLong_5 : decode cX9_wordLong 5 = .ok (.aload_n 0, 1) := by decide +kernel
theorem dX9_wordLong_6 : decode cX9_wordLong 6 = .ok (.getfield 104, 3) := by decide +kernel
theorem dX9_wordLong_9 : decode cX9_wordLong 9 = .ok (.istore_n 1, 1) := by decide +kernel
theorem dX9_wordLong_10 : decode cX9_wordLong 10 = .ok (.iload_n 1, 1) := by decide +kernel
theorem dX9_wordLong_11 : decode cX9_wordLong 11 = .ok (.aload_n 0, 1) := by decide +kernel
theorem dX9_wordLong_12 : decode cX9_wordLong 12 = .ok (.getfield 107, 3) := by decide +kernel
theorem dX9_wordLong_15 : decode cX9_wordLong 15 = .ok (.if_icmp .ge 31, 3) := by decide +kernel
theorem dX9_wordLong_18 : decode cX9_wordLong 18 = .ok (.aload_n 0, 1) := by decide +kernel
theorem dX9_wordLong_19 : decode cX9_wordLong 19 = .ok (.getfield 35, 3) := by decide +kernel
theorem dX9_wordLong_22 : decode cX9_wordLong 22 = .ok (.iload_n 1, 1) := by decide +kernel
theorem dX9_wordLong_23 : decode cX9_wordLong 23 = .ok (.baload, 1) := by decide +kernel
theorem dX9_wordLong_24 : decode cX9_wordLong 24 = .ok (.bipush 97, 2) := by decide +kernel
theorem dX9_wordLong_26 : decode cX9_wordLong 26 = .ok (.if_icmp .lt 20, 3) := by decide +kernel
theorem dX9_wordLong_29 : decode cX9_wordLong 29 = .ok (.aload_n 0, 1) := by decide +kernel
theorem dX9_wordLong_30 : decode cX9_wordLong 30 = .ok (.getfield 35, 3) := by decide +kernel
theorem dX9_wordLong_33 : decode cX9_wordLong 33 = .ok (.iload_n 1, 1) := by decide +kernel
theorem dX9_wordLong_34 : decode cX9_wordLong 34 = .ok (.baload, 1) := by decide +kernel
theorem dX9_wordLong_35 : decode cX9_wordLong 35 = .ok (.bipush 122, 2) := by decide +kernel
theorem dX9_wordLong_37 : decode cX9_wordLong 37 = .ok (.if_icmp .gt 9, 3) := by decide +kernel
theorem dX9_wordLong_40 : decode cX9_wordLong 40 = .ok (.iinc 1 1, 3) := by decide +kernel
theorem dX9_wordLong_43 : decode cX9_wordLong 43 = .ok (.goto (-33), 3) := by decide +kernel
theorem dX9_wordLong_46 : decode cX9_wordLong 46 = .ok (.iload_n 1, 1) := by decide +kernel
theorem dX9_wordLong_47 : decode cX9_wordLong 47 = .ok (.aload_n 0, 1) := by decide +kernel
theorem dX9_wordLong_48 : decode cX9_wordLong 48 = .ok (.getfield 104, 3) := by decide +kernel
theorem dX9_wordLong_51 : decode cX9_wordLong 51 = .ok (.isub, 1) := by decide +kernel
theorem dX9_wordLong_52 : decode cX9_wordLong 52 = .ok (.ireturn, 1) := by decide +kernel
theorem dX9_isWord_0 : decode cX9_isWord 0 = .ok (.aload_n 0, 1) := by decide +kernel
theorem dX9_isWord_1 : decode cX9_isWord 1 = .ok (.invokevirtual 114, 3) := by decide +kernel
theorem dX9_isWord_4 : decode cX9_isWord 4 = .ok (.ifCond .ne 14, 3) := by decide +kernel
theorem dX9_isWord_7 : decode cX9_isWord 7 = .ok (.aload_n 0, 1) := by decide +kernel
theorem dX9_isWord_8 : decode cX9_isWord 8 = .ok (.invokevirtual 118, 3) := by decide +kernel
theorem dX9_isWord_11 : decode cX9_isWord 11 = .ok (.aload_n 1, 1) := by decide +kernel
theorem dX9_isWord_12 : decode cX9_isWord 12 = .ok (.invokevirtual 121, 3) := by decide +kernel
theorem dX9_isWord_15 : decode cX9_isWord 15 = .ok (.if_icmp .eq 5, 3) := by decide +kernel
theorem dX9_isWord_18 : decode cX9_isWord 18 = .ok (.iconst 0, 1) := by decide +kernel
theorem dX9_isWord_19 : decode cX9_isWord 19 = .ok (.ireturn, 1) := by decide +kernel
theorem dX9_isWord_20 : decode cX9_isWord 20 = .ok (.iconst 0, 1) := by decide +kernel
theorem dX9_isWord_21 : decode cX9_isWord 21 = .ok (.istore_n 2, 1) := by decide +kernel
theorem dX9_isWord_22 : decode cX9_isWord 22 = .ok (.iload_n 2, 1) := by decide +kernel
theorem dX9_isWord_23 : decode cX9_isWord 23 = .ok (.aload_n 1, 1) := by decide +kernel
theorem dX9_isWord_24 : decode cX9_isWord 24 = .ok (.invokevirtual 121, 3) := by decide +kernel
theorem dX9_isWord_27 : decode cX9_isWord 27 = .ok (.if_icmp .ge 30, 3) := by decide +kernel
theorem dX9_isWord_30 : decode cX9_isWord 30 = .ok (.aload_n 0, 1) := by decide +kernel
theorem dX9_isWord_31 : decode cX9_isWord 31 = .ok (.getfield 35, 3) := by decide +kernel
theorem dX9_isWord_34 : decode cX9_isWord 34 = .ok (.aload_n 0, 1) := by decide +kernel
theorem dX9_isWord_35 : decode cX9_isWord 35 = .ok (.getfield 104, 3) := by decide +kernel
theorem dX9_isWord_38 : decode cX9_isWord 38 = .ok (.iload_n 2, 1) := by decide +kernel
theorem dX9_isWord_39 : decode cX9_isWord 39 = .ok (.iadd, 1) := by decide +kernel
theorem dX9_isWord_40 : decode cX9_isWord 40 = .ok (.baload, 1) := by decide +kernel
theorem dX9_isWord_41 : decode cX9_isWord 41 = .ok (.aload_n 1, 1) := by decide +kernel
theorem dX9_isWord_42 : decode cX9_isWord 42 = .ok (.iload_n 2, 1) := by decide +kernel
theorem dX9_isWord_43 : decode cX9_isWord 43 = .ok (.invokevirtual 126, 3) := by decide +kernel
theorem dX9_isWord_46 : decode cX9_isWord 46 = .ok (.if_icmp .eq 5, 3) := by decide +kernel
theorem dX9_isWord_49 : decode cX9_isWord 49 = .ok (.iconst 0, 1) := by decide +kernel
theorem dX9_isWord_50 : decode cX9_isWord 50 = .ok (.ireturn, 1) := by decide +kernel
theorem dX9_isWord_51 : decode cX9_isWord 51 = .ok (.iinc 2 1, 3) := by decide +kernel
theorem dX9_isWord_54 : decode cX9_isWord 54 = .ok (.goto (-32), 3) := by decide +kernel
theorem dX9_isWord_57 : decode cX9_isWord 57 = .ok (.iconst 1, 1) := by decide +kernel
theorem dX9_isWord_58 : decode cX9_isWord 58 = .ok (.ireturn, 1) := by decide +kernel
theorem dX9_takesWord_0 : decode cX9_takesWord 0 = .ok (.aload_n 0, 1) := by decide +kernel
theorem dX9_takesWord_1 : decode cX9_takesWord 1 = .ok (.aload_n 1, 1) := by decide +kernel
theorem dX9_takesWord_2 : decode cX9_takesWord 2 = .ok (.invokevirtual 130, 3) := by decide +kernel
theorem dX9_takesWord_5 : decode cX9_takesWord 5 = .ok (.istore_n 2, 1) := by decide +kernel
theorem dX9_takesWord_6 : decode cX9_takesWord 6 = .ok (.aload_n 0, 1) := by decide +kernel
theorem dX9_takesWord_7 : decode cX9_takesWord 7 = .ok (.dup, 1) := by decide +kernel
theorem dX9_takesWord_8 : decode cX9_takesWord 8 = .ok (.getfield 104, 3) := by decide +kernel
theorem dX9_takesWord_11 : decode cX9_takesWord 11 = .ok (.iload_n 2, 1) := by decide +kernel
theorem dX9_takesWord_12 : decode cX9_takesWord 12 = .ok (.ifCond .eq 10, 3) := by decide +kernel
theorem dX9_takesWord_15 : decode cX9_takesWord 15 = .ok (.aload_n 1, 1) := by decide +kernel
theorem dX9_takesWord_16 : decode cX9_takesWord 16 = .ok (.invokevirtual 121, 3) := by decide +kernel
theorem dX9_takesWord_19 : decode cX9_takesWord 19 = .ok (.goto 4, 3) := by decide +kernel
theorem dX9_takesWord_22 : decode cX9_takesWord 22 = .ok (.iconst 0, 1) := by decide +kernel
theorem dX9_takesWord_23 : decode cX9_takesWord 23 = .ok (.iadd, 1) := by decide +kernel
theorem dX9_takesWord_24 : decode cX9_takesWord 24 = .ok (.putfield 104, 3) := by decide +kernel
theorem dX9_takesWord_27 : decode cX9_takesWord 27 = .ok (.iload_n 2, 1) := by decide +kernel
theorem dX9_takesWord_28 : decode cX9_takesWord 28 = .ok (.ireturn, 1) := by decide +kernel
theorem dX9_must_0 : decode cX9_must 0 = .ok (.aload_n 0, 1) := by decide +kernel
theorem dX9_must_1 : decode cX9_must 1 = .ok (.aload_n 1, 1) := by decide +kernel
theorem dX9_must_2 : decode cX9_must 2 = .ok (.invokevirtual 134, 3) := by decide +kernel
theorem dX9_must_5 : decode cX9_must 5 = .ok (.ifCond .ne 11, 3) := by decide +kernel
theorem dX9_must_8 : decode cX9_must 8 = .ok (.aload_n 0, 1) := by decide +kernel
theorem dX9_must_9 : decode cX9_must 9 = .ok (.aload_n 0, 1) := by decide +kernel
theorem dX9_must_10 : decode cX9_must 10 = .ok (.getfield 104, 3) := by decide +kernel
theorem dX9_must_13 : decode cX9_must 13 = .ok (.invokevirtual 137, 3) := by decide +kernel
theorem dX9_must_16 : decode cX9_must 16 = .ok (.return_, 1) := by decide +kernel
theorem dX9_number_0 : decode cX9_number 0 = .ok (.aload_n 0, 1) := by decide +kernel
theorem dX9_number_1 : decode cX9_number 1 = .ok (.invokevirtual 114, 3) := by decide +kernel
theorem dX9_number_4 : decode cX9_number 4 = .ok (.ifCond .eq 5, 3) := by decide +kernel
theorem dX9_number_7 : decode cX9_number 7 = .ok (.iload_n 1, 1) := by decide +kernel
theorem dX9_number_8 : decode cX9_number 8 = .ok (.ireturn, 1) := by decide +kernel
theorem dX9_number_9 : decode cX9_number 9 = .ok (.aload_n 0, 1) := by decide +kernel
theorem dX9_number_10 : decode cX9_number 10 = .ok (.invokevirtual 110, 3) := by decide +kernel
theorem dX9_number_13 : decode cX9_number 13 = .ok (.pop, 1) := by decide +kernel
theorem dX9_number_14 : decode cX9_number 14 = .ok (.aload_n 0, 1) := by decide +kernel
theorem dX9_number_15 : decode cX9_number 15 = .ok (.getfield 104, 3) := by decide +kernel
theorem dX9_number_18 : decode cX9_number 18 = .ok (.istore_n 3, 1) := by decide +kernel
theorem dX9_number_19 : decode cX9_number 19 = .ok (.iconst 0, 1) := by decide +kernel
theorem dX9_number_20 : decode cX9_number 20 = .ok (.istore 4, 2) := by decide +kernel
theorem dX9_number_22 : decode cX9_number 22 = .ok (.aload_n 0, 1) := by decide +kernel
theorem dX9_number_23 : decode cX9_number 23 = .ok (.getfield 104, 3) := by decide +kernel
theorem dX9_number_26 : decode cX9_number 26 = .ok (.aload_n 0, 1) := by decide +kernel
theorem dX9_number_27 : decode cX9_number 27 = .ok (.getfield 107, 3) := by decide +kernel
theorem dX9_number_30 : decode cX9_number 30 = .ok (.if_icmp .ge 79, 3) := by decide +kernel
theorem dX9_number_33 : decode cX9_number 33 = .ok (.aload_n 0, 1) := by decide +kernel
theorem dX9_number_34 : decode cX9_number 34 = .ok (.getfield 35, 3) := by decide +kernel
theorem dX9_number_37 : decode cX9_number 37 = .ok (.aload_n 0, 1) := by decide +kernel
theorem dX9_number_38 : decode cX9_number 38 = .ok (.getfield 104, 3) := by decide +kernel
theorem dX9_number_41 : decode cX9_number 41 = .ok (.baload, 1) := by decide +kernel
theorem dX9_number_42 : decode cX9_number 42 = .ok (.bipush 48, 2) := by decide +kernel
theorem dX9_number_44 : decode cX9_number 44 = .ok (.if_icmp .lt 65, 3) := by decide +kernel
theorem dX9_number_47 : decode cX9_number 47 = .ok (.aload_n 0, 1) := by decide +kernel
theorem dX9_number_48 : decode cX9_number 48 = .ok (.getfield 35, 3) := by decide +kernel
theorem dX9_number_51 : decode cX9_number 51 = .ok (.aload_n 0, 1) := by decide +kernel
theorem dX9_number_52 : decode cX9_number 52 = .ok (.getfield 104, 3) := by decide +kernel
theorem dX9_number_55 : decode cX9_number 55 = .ok (.baload, 1) := by decide +kernel
theorem dX9_number_56 : decode cX9_number 56 = .ok (.bipush 57, 2) := by decide +kernel
theorem dX9_number_58 : decode cX9_number 58 = .ok (.if_icmp .gt 51, 3) := by decide +kernel
theorem dX9_number_61 : decode cX9_number 61 = .ok (.aload_n 0, 1) := by decide +kernel
theorem dX9_number_62 : decode cX9_number 62 = .ok (.getfield 104, 3) := by decide +kernel
theorem dX9_number_65 : decode cX9_number 65 = .ok (.iload_n 3, 1) := by decide +kernel
theorem dX9_number_66 : decode cX9_number 66 = .ok (.isub, 1) := by decide +kernel
theorem dX9_number_67 : decode cX9_number 67 = .ok (.iconst 5, 1) := by decide +kernel
theorem dX9_number_68 : decode cX9_number 68 = .ok (.if_icmp .ge 24, 3) := by decide +kernel
theorem dX9_number_71 : decode cX9_number 71 = .ok (.bipush 10, 2) := by decide +kernel
theorem dX9_number_73 : decode cX9_number 73 = .ok (.iload 4, 2) := by decide +kernel
theorem dX9_number_75 : decode cX9_number 75 = .ok (.imul, 1) := by decide +kernel
theorem dX9_number_76 : decode cX9_number 76 = .ok (.aload_n 0, 1) := by decide +kernel
theorem dX9_number_77 : decode cX9_number 77 = .ok (.getfield 35, 3) := by decide +kernel
theorem dX9_number_80 : decode cX9_number 80 = .ok (.aload_n 0, 1) := by decide +kernel
theorem dX9_number_81 : decode cX9_number 81 = .ok (.getfield 104, 3) := by decide +kernel
theorem dX9_number_84 : decode cX9_number 84 = .ok (.baload, 1) := by decide +kernel
theorem dX9_number_85 : decode cX9_number 85 = .ok (.iadd, 1) := by decide +kernel
theorem dX9_number_86 : decode cX9_number 86 = .ok (.bipush 48, 2) := by decide +kernel
theorem dX9_number_88 : decode cX9_number 88 = .ok (.isub, 1) := by decide +kernel
theorem dX9_number_89 : decode cX9_number 89 = .ok (.goto 5, 3) := by decide +kernel
theorem dX9_number_92 : decode cX9_number 92 = .ok (.iload 4, 2) := by decide +kernel
theorem dX9_number_94 : decode cX9_number 94 = .ok (.istore 4, 2) := by decide +kernel
theorem dX9_number_96 : decode cX9_number 96 = .ok (.aload_n 0, 1) := by decide +kernel
theorem dX9_number_97 : decode cX9_number 97 = .ok (.dup, 1) := by decide +kernel
theorem dX9_number_98 : decode cX9_number 98 = .ok (.getfield 104, 3) := by decide +kernel
theorem dX9_number_101 : decode cX9_number 101 = .ok (.iconst 1, 1) := by decide +kernel
theorem dX9_number_102 : decode cX9_number 102 = .ok (.iadd, 1) := by decide +kernel
theorem dX9_number_103 : decode cX9_number 103 = .ok (.putfield 104, 3) := by decide +kernel
theorem dX9_number_106 : decode cX9_number 106 = .ok (.goto (-84), 3) := by decide +kernel
theorem dX9_number_109 : decode cX9_number 109 = .ok (.aload_n 0, 1) := by decide +kernel
theorem dX9_number_110 : decode cX9_number 110 = .ok (.getfield 104, 3) := by decide +kernel
theorem dX9_number_113 : decode cX9_number 113 = .ok (.iload_n 3, 1) := by decide +kernel
theorem dX9_number_114 : decode cX9_number 114 = .ok (.isub, 1) := by decide +kernel
theorem dX9_number_115 : decode cX9_number 115 = .ok (.i2l, 1) := by decide +kernel
theorem dX9_number_116 : decode cX9_number 116 = .ok (.lconst 1, 1) := by decide +kernel
theorem dX9_number_117 : decode cX9_number 117 = .ok (.ldc2_w 141, 3) := by decide +kernel
theorem dX9_number_120 : decode cX9_number 120 = .ok (.invokestatic 143, 3) := by decide +kernel
theorem dX9_number_123 : decode cX9_number 123 = .ok (.ifCond .eq 16, 3) := by decide +kernel
theorem dX9_number_126 : decode cX9_number 126 = .ok (.iload 4, 2) := by decide +kernel
theorem dX9_number_128 : decode cX9_number 128 = .ok (.i2l, 1) := by decide +kernel
theorem dX9_number_129 : decode cX9_number 129 = .ok (.iload_n 1, 1) := by decide +kernel
theorem dX9_number_130 : decode cX9_number 130 = .ok (.i2l, 1) := by decide +kernel
theorem dX9_number_131 : decode cX9_number 131 = .ok (.iload_n 2, 1) := by decide +kernel
theorem dX9_number_132 : decode cX9_number 132 = .ok (.i2l, 1) := by decide +kernel
theorem dX9_number_133 : decode cX9_number 133 = .ok (.invokestatic 143, 3) := by decide +kernel
theorem dX9_number_136 : decode cX9_number 136 = .ok (.ifCond .ne 8, 3) := by decide +kernel
theorem dX9_number_139 : decode cX9_number 139 = .ok (.aload_n 0, 1) := by decide +kernel
theorem dX9_number_140 : decode cX9_number 140 = .ok (.iload_n 3, 1) := by decide +kernel
theorem dX9_number_141 : decode cX9_number 141 = .ok (.invokevirtual 137, 3) := by decide +kernel
theorem dX9_number_144 : decode cX9_number 144 = .ok (.aload_n 0, 1) := by decide +kernel
theorem dX9_number_145 : decode cX9_number 145 = .ok (.iload_n 3, 1) := by decide +kernel
theorem dX9_number_146 : decode cX9_number 146 = .ok (.putfield 147, 3) := by decide +kernel
theorem dX9_number_149 : decode cX9_number 149 = .ok (.iload 4, 2) := by decide +kernel
theorem dX9_number_151 : decode cX9_number 151 = .ok (.ireturn, 1) := by decide +kernel
theorem dX9_stop_0 : decode cX9_stop 0 = .ok (.aload_n 0, 1) := by decide +kernel
theorem dX9_stop_1 : decode cX9_stop 1 = .ok (.invokevirtual 114, 3) := by decide +kernel
theorem dX9_stop_4 : decode cX9_stop 4 = .ok (.ifCond .eq 4, 3) := by decide +kernel
theorem dX9_stop_7 : decode cX9_stop 7 = .ok (.return_, 1) := by decide +kernel
theorem dX9_stop_8 : decode cX9_stop 8 = .ok (.aload_n 0, 1) := by decide +kernel
theorem dX9_stop_9 : decode cX9_stop 9 = .ok (.invokevirtual 110, 3) := by decide +kernel
theorem dX9_stop_12 : decode cX9_stop 12 = .ok (.bipush 59, 2) := by decide +kernel
theorem dX9_stop_14 : decode cX9_stop 14 = .ok (.if_icmp .ne 16, 3) := by decide +kernel
theorem dX9_stop_17 : decode cX9_stop 17 = .ok (.aload_n 0, 1) := by decide +kernel
theorem dX9_stop_18 : decode cX9_stop 18 = .ok (.dup, 1) := by decide +kernel
theorem dX9_stop_19 : decode cX9_stop 19 = .ok (.getfield 104, 3) := by decide +kernel
theorem dX9_stop_22 : decode cX9_stop 22 = .ok (.iconst 1, 1) := by decide +kernel
theorem dX9_stop_23 : decode cX9_stop 23 = .ok (.iadd, 1) := by decide +kernel
theorem dX9_stop_24 : decode cX9_stop 24 = .ok (.putfield 104, 3) := by decide +kernel
theorem dX9_stop_27 : decode cX9_stop 27 = .ok (.goto 11, 3) := by decide +kernel
theorem dX9_stop_30 : decode cX9_stop 30 = .ok (.aload_n 0, 1) := by decide +kernel
theorem dX9_stop_31 : decode cX9_stop 31 = .ok (.aload_n 0, 1) := by decide +kernel
theorem dX9_stop_32 : decode cX9_stop 32 = .ok (.getfield 104, 3) := by decide +kernel
theorem dX9_stop_35 : decode cX9_stop 35 = .ok (.invokevirtual 137, 3) := by decide +kernel
theorem dX9_stop_38 : decode cX9_stop 38 = .ok (.return_, 1) := by decide +kernel
theorem dX9_isKeyword_0 : decode cX9_isKeyword 0 = .ok (.aload_n 0, 1) := by decide +kernel
theorem dX9_isKeyword_1 : decode cX9_isKeyword 1 = .ok (.ldc 150, 2) := by decide +kernel
theorem dX9_isKeyword_3 : decode cX9_isKeyword 3 = .ok (.invokevirtual 130, 3) := by decide +kernel
theorem dX9_isKeyword_6 : decode cX9_isKeyword 6 = .ok (.ifCond .ne 93, 3) := by decide +kernel
theorem dX9_isKeyword_9 : decode cX9_isKeyword 9 = .ok (.aload_n 0, 1) := by decide +kernel
theorem dX9_isKeyword_10 : decode cX9_isKeyword 10 = .ok (.ldc 152, 2) := by decide +kernel
theorem dX9_isKeyword_12 : decode cX9_isKeyword 12 = .ok (.invokevirtual 130, 3) := by decide +kernel
theorem dX9_isKeyword_15 : decode cX9_isKeyword 15 = .ok (.ifCond .ne 84, 3) := by decide +kernel
theorem dX9_isKeyword_18 : decode cX9_isKeyword 18 = .ok (.aload_n 0, 1) := by decide +kernel
theorem dX9_isKeyword_19 : decode cX9_isKeyword 19 = .ok (.ldc 154, 2) := by decide +kernel
theorem dX9_isKeyword_21 : decode cX9_isKeyword 21 = .ok (.invokevirtual 130, 3) := by decide +kernel
theorem dX9_isKeyword_24 : decode cX9_isKeyword 24 = .ok (.ifCond .ne 75, 3) := by decide +kernel
theorem dX9_isKeyword_27 : decode cX9_isKeyword 27 = .ok (.aload_n 0, 1) := by decide +kernel
theorem dX9_isKeyword_28 : decode cX9_isKeyword 28 = .ok (.ldc 156, 2) := by decide +kernel
theorem dX9_isKeyword_30 : decode cX9_isKeyword 30 = .ok (.invokevirtual 130, 3) := by decide +kernel
theorem dX9_isKeyword_33 : decode cX9_isKeyword 33 = .ok (.ifCond .ne 66, 3) := by decide +kernel
theorem dX9_isKeyword_36 : decode cX9_isKeyword 36 = .ok (.aload_n 0, 1) := by decide +kernel
theorem dX9_isKeyword_37 : decode cX9_isKeyword 37 = .ok (.ldc 158, 2) := by decide +kernel
theorem dX9_isKeyword_39 : decode cX9_isKeyword 39 = .ok (.invokevirtual 130, 3) := by decide +kernel
theorem dX9_isKeyword_42 : decode cX9_isKeyword 42 = .ok (.ifCond .ne 57, 3) := by decide +kernel
theorem dX9_isKeyword_45 : decode cX9_isKeyword 45 = .ok (.aload_n 0, 1) := by decide +kernel
theorem dX9_isKeyword_46 : decode cX9_isKeyword 46 = .ok (.ldc 160, 2) := by decide +kernel
theorem dX9_isKeyword_48 : decode cX9_isKeyword 48 = .ok (.invokevirtual 130, 3) := by decide +kernel
theorem dX9_isKeyword_51 : decode cX9_isKeyword 51 = .ok (.ifCond .ne 48, 3) := by decide +kernel
theorem dX9_isKeyword_54 : decode cX9_isKeyword 54 = .ok (.aload_n 0, 1) := by decide +kernel
theorem dX9_isKeyword_55 : decode cX9_isKeyword 55 = .ok (.ldc 162, 2) := by decide +kernel
theorem dX9_isKeyword_57 : decode cX9_isKeyword 57 = .ok (.invokevirtual 130, 3) := by decide +kernel
theorem dX9_isKeyword_60 : decode cX9_isKeyword 60 = .ok (.ifCond .ne 39, 3) := by decide +kernel
theorem dX9_isKeyword_63 : decode cX9_isKeyword 63 = .ok (.aload_n 0, 1) := by decide +kernel
theorem dX9_isKeyword_64 : decode cX9_isKeyword 64 = .ok (.ldc 164, 2) := by decide +kernel
theorem dX9_isKeyword_66 : decode cX9_isKeyword 66 = .ok (.invokevirtual 130, 3) := by decide +kernel
theorem dX9_isKeyword_69 : decode cX9_isKeyword 69 = .ok (.ifCond .ne 30, 3) := by decide +kernel
theorem dX9_isKeyword_72 : decode cX9_isKeyword 72 = .ok (.aload_n 0, 1) := by decide +kernel
theorem dX9_isKeyword_73 : decode cX9_isKeyword 73 = .ok (.ldc 166, 2) := by decide +kernel
theorem dX9_isKeyword_75 : decode cX9_isKeyword 75 = .ok (.invokevirtual 130, 3) := by decide +kernel
theorem dX9_isKeyword_78 : decode cX9_isKeyword 78 = .ok (.ifCond .ne 21, 3) := by decide +kernel
theorem dX9_isKeyword_81 : decode cX9_isKeyword 81 = .ok (.aload_n 0, 1) := by decide +kernel
theorem dX9_isKeyword_82 : decode cX9_isKeyword 82 = .ok (.ldc 168, 2) := by decide +kernel
theorem dX9_isKeyword_84 : decode cX9_isKeyword 84 = .ok (.invokevirtual 130, 3) := by decide +kernel
theorem dX9_isKeyword_87 : decode cX9_isKeyword 87 = .ok (.ifCond .ne 12, 3) := by decide +kernel
theorem dX9_isKeyword_90 : decode cX9_isKeyword 90 = .ok (.aload_n 0, 1) := by decide +kernel
theorem dX9_isKeyword_91 : decode cX9_isKeyword 91 = .ok (.ldc 170, 2) := by decide +kernel
theorem dX9_isKeyword_93 : decode cX9_isKeyword 93 = .ok (.invokevirtual 130, 3) := by decide +kernel
theorem dX9_isKeyword_96 : decode cX9_isKeyword 96 = .ok (.ifCond .eq 7, 3) := by decide +kernel
theorem dX9_isKeyword_99 : decode cX9_isKeyword 99 = .ok (.iconst 1, 1) := by decide +kernel
theorem dX9_isKeyword_100 : decode cX9_isKeyword 100 = .ok (.goto 4, 3) := by decide +kernel
theorem dX9_isKeyword_103 : decode cX9_isKeyword 103 = .ok (.iconst 0, 1) := by decide +kernel
theorem dX9_isKeyword_104 : decode cX9_isKeyword 104 = .ok (.istore_n 1, 1) := by decide +kernel
theorem dX9_isKeyword_105 : decode cX9_isKeyword 105 = .ok (.iload_n 1, 1) := by decide +kernel
theorem dX9_isKeyword_106 : decode cX9_isKeyword 106 = .ok (.ifCond .ne 111, 3) := by decide +kernel
theorem dX9_isKeyword_109 : decode cX9_isKeyword 109 = .ok (.aload_n 0, 1) := by decide +kernel
theorem dX9_isKeyword_110 : decode cX9_isKeyword 110 = .ok (.ldc 172, 2) := by decide +kernel
theorem dX9_isKeyword_112 : decode cX9_isKeyword 112 = .ok (.invokevirtual 130, 3) := by decide +kernel
theorem dX9_isKeyword_115 : decode cX9_isKeyword 115 = .ok (.ifCond .ne 102, 3) := by decide +kernel
theorem dX9_isKeyword_118 : decode cX9_isKeyword 118 = .ok (.aload_n 0, 1) := by decide +kernel
theorem dX9_isKeyword_119 : decode cX9_isKeyword 119 = .ok (.ldc 174, 2) := by decide +kernel
theorem dX9_isKeyword_121 : decode cX9_isKeyword 121 = .ok (.invokevirtual 130, 3) := by decide +kernel
theorem dX9_isKeyword_124 : decode cX9_isKeyword 124 = .ok (.ifCond .ne 93, 3) := by decide +kernel
theorem dX9_isKeyword_127 : decode cX9_isKeyword 127 = .ok (.aload_n 0, 1) := by decide +kernel
theorem dX9_isKeyword_128 : decode cX9_isKeyword 128 = .ok (.ldc 176, 2) := by decide +kernel
theorem dX9_isKeyword_130 : decode cX9_isKeyword 130 = .ok (.invokevirtual 130, 3) := by decide +kernel
theorem dX9_isKeyword_133 : decode cX9_isKeyword 133 = .ok (.ifCond .ne 84, 3) := by decide +kernel
theorem dX9_isKeyword_136 : decode cX9_isKeyword 136 = .ok (.aload_n 0, 1) := by decide +kernel
theorem dX9_isKeyword_137 : decode cX9_isKeyword 137 = .ok (.ldc 178, 2) := by decide +kernel
theorem dX9_isKeyword_139 : decode cX9_isKeyword 139 = .ok (.invokevirtual 130, 3) := by decide +kernel
theorem dX9_isKeyword_142 : decode cX9_isKeyword 142 = .ok (.ifCond .ne 75, 3) := by decide +kernel
theorem dX9_isKeyword_145 : decode cX9_isKeyword 145 = .ok (.aload_n 0, 1) := by decide +kernel
theorem dX9_isKeyword_146 : decode cX9_isKeyword 146 = .ok (.ldc 180, 2) := by decide +kernel
theorem dX9_isKeyword_148 : decode cX9_isKeyword 148 = .ok (.invokevirtual 130, 3) := by decide +kernel
theorem dX9_isKeyword_151 : decode cX9_isKeyword 151 = .ok (.ifCond .ne 66, 3) := by decide +kernel
theorem dX9_isKeyword_154 : decode cX9_isKeyword 154 = .ok (.aload_n 0, 1) := by decide +kernel
theorem dX9_isKeyword_155 : decode cX9_isKeyword 155 = .ok (.ldc 182, 2) := by decide +kernel
theorem dX9_isKeyword_157 : decode cX9_isKeyword 157 = .ok (.invokevirtual 130, 3) := by decide +kernel
theorem dX9_isKeyword_160 : decode cX9_isKeyword 160 = .ok (.ifCond .ne 57, 3) := by decide +kernel
theorem dX9_isKeyword_163 : decode cX9_isKeyword 163 = .ok (.aload_n 0, 1) := by decide +kernel
theorem dX9_isKeyword_164 : decode cX9_isKeyword 164 = .ok (.ldc 184, 2) := by decide +kernel
theorem dX9_isKeyword_166 : decode cX9_isKeyword 166 = .ok (.invokevirtual 130, 3) := by decide +kernel
theorem dX9_isKeyword_169 : decode cX9_isKeyword 169 = .ok (.ifCond .ne 48, 3) := by decide +kernel
theorem dX9_isKeyword_172 : decode cX9_isKeyword 172 = .ok (.aload_n 0, 1) := by decide +kernel
theorem dX9_isKeyword_173 : decode cX9_isKeyword 173 = .ok (.ldc 186, 2) := by decide +kernel
theorem dX9_isKeyword_175 : decode cX9_isKeyword 175 = .ok (.invokevirtual 130, 3) := by decide +kernel
theorem dX9_isKeyword_178 : decode cX9_isKeyword 178 = .ok (.ifCond .ne 39, 3) := by decide +kernel
theorem dX9_isKeyword_181 : decode cX9_isKeyword 181 = .ok (.aload_n 0, 1) := by decide +kernel
theorem dX9_isKeyword_182 : decode cX9_isKeyword 182 = .ok (.ldc 188, 2) := by decide +kernel
theorem dX9_isKeyword_184 : decode cX9_isKeyword 184 = .ok (.invokevirtual 130, 3) := by decide +kernel
theorem dX9_isKeyword_187 : decode cX9_isKeyword 187 = .ok (.ifCond .ne 30, 3) := by decide +kernel
theorem dX9_isKeyword_190 : decode cX9_isKeyword 190 = .ok (.aload_n 0, 1) := by decide +kernel
theorem dX9_isKeyword_191 : decode cX9_isKeyword 191 = .ok (.ldc 190, 2) := by decide +kernel
theorem dX9_isKeyword_193 : decode cX9_isKeyword 193 = .ok (.invokevirtual 130, 3) := by decide +kernel
theorem dX9_isKeyword_196 : decode cX9_isKeyword 196 = .ok (.ifCond .ne 21, 3) := by decide +kernel
theorem dX9_isKeyword_199 : decode cX9_isKeyword 199 = .ok (.aload_n 0, 1) := by decide +kernel
theorem dX9_isKeyword_200 : decode cX9_isKeyword 200 = .ok (.ldc 192, 2) := by decide +kernel
theorem dX9_isKeyword_202 : decode cX9_isKeyword 202 = .ok (.invokevirtual 130, 3) := by decide +kernel
theorem dX9_isKeyword_205 : decode cX9_isKeyword 205 = .ok (.ifCond .ne 12, 3) := by decide +kernel
theorem dX9_isKeyword_208 : decode cX9_isKeyword 208 = .ok (.aload_n 0, 1) := by decide +kernel
theorem dX9_isKeyword_209 : decode cX9_isKeyword 209 = .ok (.ldc 194, 2) := by decide +kernel
theorem dX9_isKeyword_211 : decode cX9_isKeyword 211 = .ok (.invokevirtual 130, 3) := by decide +kernel
theorem dX9_isKeyword_214 : decode cX9_isKeyword 214 = .ok (.ifCond .eq 7, 3) := by decide +kernel
theorem dX9_isKeyword_217 : decode cX9_isKeyword 217 = .ok (.iconst 1, 1) := by decide +kernel
theorem dX9_isKeyword_218 : decode cX9_isKeyword 218 = .ok (.goto 4, 3) := by decide +kernel
theorem dX9_isKeyword_221 : decode cX9_isKeyword 221 = .ok (.iconst 0, 1) := by decide +kernel
theorem dX9_isKeyword_222 : decode cX9_isKeyword 222 = .ok (.ireturn, 1) := by decide +kernel
theorem dX9_nameHere_0 : decode cX9_nameHere 0 = .ok (.aload_n 0, 1) := by decide +kernel
theorem dX9_nameHere_1 : decode cX9_nameHere 1 = .ok (.invokevirtual 118, 3) := by decide +kernel
theorem dX9_nameHere_4 : decode cX9_nameHere 4 = .ok (.istore_n 1, 1) := by decide +kernel
theorem dX9_nameHere_5 : decode cX9_nameHere 5 = .ok (.aload_n 0, 1) := by decide +kernel
theorem dX9_nameHere_6 : decode cX9_nameHere 6 = .ok (.invokevirtual 114, 3) := by decide +kernel
theorem dX9_nameHere_9 : decode cX9_nameHere 9 = .ok (.ifCond .ne 22, 3) := by decide +kernel
theorem dX9_nameHere_12 : decode cX9_nameHere 12 = .ok (.iload_n 1, 1) := by decide +kernel
theorem dX9_nameHere_13 : decode cX9_nameHere 13 = .ok (.i2l, 1) := by decide +kernel
theorem dX9_nameHere_14 : decode cX9_nameHere 14 = .ok (.lconst 1, 1) := by decide +kernel
theorem dX9_nameHere_15 : decode cX9_nameHere 15 = .ok (.ldc2_w 196, 3) := by decide +kernel
theorem dX9_nameHere_18 : decode cX9_nameHere 18 = .ok (.invokestatic 143, 3) := by decide +kernel
theorem dX9_nameHere_21 : decode cX9_nameHere 21 = .ok (.ifCond .eq 10, 3) := by decide +kernel
theorem dX9_nameHere_24 : decode cX9_nameHere 24 = .ok (.aload_n 0, 1) := by decide +kernel
theorem dX9_nameHere_25 : decode cX9_nameHere 25 = .ok (.invokevirtual 198, 3) := by decide +kernel
theorem dX9_nameHere_28 : decode cX9_nameHere 28 = .ok (.ifCond .eq 5, 3) := by decide +kernel
theorem dX9_nameHere_31 : decode cX9_nameHere 31 = .ok (.iconst 0, 1) := by decide +kernel
theorem dX9_nameHere_32 : decode cX9_nameHere 32 = .ok (.ireturn, 1) := by decide +kernel
theorem dX9_nameHere_33 : decode cX9_nameHere 33 = .ok (.iconst 0, 1) := by decide +kernel
theorem dX9_nameHere_34 : decode cX9_nameHere 34 = .ok (.istore_n 2, 1) := by decide +kernel
theorem dX9_nameHere_35 : decode cX9_nameHere 35 = .ok (.iconst 0, 1) := by decide +kernel
theorem dX9_nameHere_36 : decode cX9_nameHere 36 = .ok (.istore_n 3, 1) := by decide +kernel
theorem dX9_nameHere_37 : decode cX9_nameHere 37 = .ok (.iload_n 3, 1) := by decide +kernel
theorem dX9_nameHere_38 : decode cX9_nameHere 38 = .ok (.iload_n 1, 1) := by decide +kernel
theorem dX9_nameHere_39 : decode cX9_nameHere 39 = .ok (.if_icmp .ge 28, 3) := by decide +kernel
theorem dX9_nameHere_42 : decode cX9_nameHere 42 = .ok (.iload_n 2, 1) := by decide +kernel
theorem dX9_nameHere_43 : decode cX9_nameHere 43 = .ok (.iconst 5, 1) := by decide +kernel
theorem dX9_nameHere_44 : decode cX9_nameHere 44 = .ok (.ishl, 1) := by decide +kernel
theorem dX9_nameHere_45 : decode cX9_nameHere 45 = .ok (.aload_n 0, 1) := by decide +kernel
theorem dX9_nameHere_46 : decode cX9_nameHere 46 = .ok (.getfield 35, 3) := by decide +kernel
theorem dX9_nameHere_49 : decode cX9_nameHere 49 = .ok (.aload_n 0, 1) := by decide +kernel
theorem dX9_nameHere_50 : decode cX9_nameHere 50 = .ok (.getfield 104, 3) := by decide +kernel
theorem dX9_nameHere_53 : decode cX9_nameHere 53 = .ok (.iload_n 3, 1) := by decide +kernel
theorem dX9_nameHere_54 : decode cX9_nameHere 54 = .ok (.iadd, 1) := by decide +kernel
theorem dX9_nameHere_55 : decode cX9_nameHere 55 = .ok (.baload, 1) := by decide +kernel
theorem dX9_nameHere_56 : decode cX9_nameHere 56 = .ok (.bipush 96, 2) := by decide +kernel
theorem dX9_nameHere_58 : decode cX9_nameHere 58 = .ok (.isub, 1) := by decide +kernel
theorem dX9_nameHere_59 : decode cX9_nameHere 59 = .ok (.ior, 1) := by decide +kernel
theorem dX9_nameHere_60 : decode cX9_nameHere 60 = .ok (.istore_n 2, 1) := by decide +kernel
theorem dX9_nameHere_61 : decode cX9_nameHere 61 = .ok (.iinc 3 1, 3) := by decide +kernel
theorem dX9_nameHere_64 : decode cX9_nameHere 64 = .ok (.goto (-27), 3) := by decide +kernel
theorem dX9_nameHere_67 : decode cX9_nameHere 67 = .ok (.iload_n 2, 1) := by decide +kernel
theorem dX9_nameHere_68 : decode cX9_nameHere 68 = .ok (.ireturn, 1) := by decide +kernel
theorem dX9_find_0 : decode cX9_find 0 = .ok (.iconst 0, 1) := by decide +kernel
theorem dX9_find_1 : decode cX9_find 1 = .ok (.istore_n 3, 1) := by decide +kernel
theorem dX9_find_2 : decode cX9_find 2 = .ok (.iload_n 3, 1) := by decide +kernel
theorem dX9_find_3 : decode cX9_find 3 = .ok (.iload_n 1, 1) := by decide +kernel
theorem dX9_find_4 : decode cX9_find 4 = .ok (.if_icmp .ge 18, 3) := by decide +kernel
theorem dX9_find_7 : decode cX9_find 7 = .ok (.aload_n 0, 1) := by decide +kernel
theorem dX9_find_8 : decode cX9_find 8 = .ok (.iload_n 3, 1) := by decide +kernel
theorem dX9_find_9 : decode cX9_find 9 = .ok (.iaload, 1) := by decide +kernel
theorem dX9_find_10 : decode cX9_find 10 = .ok (.iload_n 2, 1) := by decide +kernel
theorem dX9_find_11 : decode cX9_find 11 = .ok (.if_icmp .ne 5, 3) := by decide +kernel
theorem dX9_find_14 : decode cX9_find 14 = .ok (.iload_n 3, 1) := by decide +kernel
theorem dX9_find_15 : decode cX9_find 15 = .ok (.ireturn, 1) := by decide +kernel
theorem dX9_find_16 : decode cX9_find 16 = .ok (.iinc 3 1, 3) := by decide +kernel
theorem dX9_find_19 : decode cX9_find 19 = .ok (.goto (-17), 3) := by decide +kernel
theorem dX9_find_22 : decode cX9_find 22 = .ok (.iconst (-1), 1) := by decide +kernel
theorem dX9_find_23 : decode cX9_find 23 = .ok (.ireturn, 1) := by decide +kernel
theorem dX9_freshName_0 : decode cX9_freshName 0 = .ok (.aload_n 0, 1) := by decide +kernel
theorem dX9_freshName_1 : decode cX9_freshName 1 = .ok (.invokevirtual 201, 3) := by decide +kernel
theorem dX9_freshName_4 : decode cX9_freshName 4 = .ok (.istore_n 2, 1) := by decide +kernel
theorem dX9_freshName_5 : decode cX9_freshName 5 = .ok (.iload_n 1, 1) := by decide +kernel
theorem dX9_freshName_6 : decode cX9_freshName 6 = .ok (.ifCond .eq 18, 3) := by decide +kernel
theorem dX9_freshName_9 : decode cX9_freshName 9 = .ok (.aload_n 0, 1) := by decide +kernel
theorem dX9_freshName_10 : decode cX9_freshName 10 = .ok (.getfield 49, 3) := by decide +kernel
theorem dX9_freshName_13 : decode cX9_freshName 13 = .ok (.aload_n 0, 1) := by decide +kernel
theorem dX9_freshName_14 : decode cX9_freshName 14 = .ok (.getfield 204, 3) := by decide +kernel
theorem dX9_freshName_17 : decode cX9_freshName 17 = .ok (.iload_n 2, 1) := by decide +kernel
theorem dX9_freshName_18 : decode cX9_freshName 18 = .ok (.invokestatic 207, 3) := by decide +kernel
theorem dX9_freshName_21 : decode cX9_freshName 21 = .ok (.goto 15, 3) := by decide +kernel
theorem dX9_freshName_24 : decode cX9_freshName 24 = .ok (.aload_n 0, 1) := by decide +kernel
theorem dX9_freshName_25 : decode cX9_freshName 25 = .ok (.getfield 46, 3) := by decide +kernel
theorem dX9_freshName_28 : decode cX9_freshName 28 = .ok (.aload_n 0, 1) := by decide +kernel
theorem dX9_freshName_29 : decode cX9_freshName 29 = .ok (.getfield 211, 3) := by decide +kernel
theorem dX9_freshName_32 : decode cX9_freshName 32 = .ok (.iload_n 2, 1) := by decide +kernel
theorem dX9_freshName_33 : decode cX9_freshName 33 = .ok (.invokestatic 207, 3) := by decide +kernel
theorem dX9_freshName_36 : decode cX9_freshName 36 = .ok (.istore_n 3, 1) := by decide +kernel
theorem dX9_freshName_37 : decode cX9_freshName 37 = .ok (.iload_n 2, 1) := by decide +kernel
theorem dX9_freshName_38 : decode cX9_freshName 38 = .ok (.ifCond .eq 8, 3) := by decide +kernel
theorem dX9_freshName_41 : decode cX9_freshName 41 = .ok (.iload_n 3, 1) := by decide +kernel
theorem dX9_freshName_42 : decode cX9_freshName 42 = .ok (.iconst (-1), 1) := by decide +kernel
theorem dX9_freshName_43 : decode cX9_freshName 43 = .ok (.if_icmp .eq 13, 3) := by decide +kernel
theorem dX9_freshName_46 : decode cX9_freshName 46 = .ok (.aload_n 0, 1) := by decide +kernel
theorem dX9_freshName_47 : decode cX9_freshName 47 = .ok (.aload_n 0, 1) := by decide +kernel
theorem dX9_freshName_48 : decode cX9_freshName 48 = .ok (.getfield 104, 3) := by decide +kernel
theorem dX9_freshName_51 : decode cX9_freshName 51 = .ok (.invokevirtual 137, 3) := by decide +kernel
theorem dX9_freshName_54 : decode cX9_freshName 54 = .ok (.iconst 0, 1) := by decide +kernel
theorem dX9_freshName_55 : decode cX9_freshName 55 = .ok (.ireturn, 1) := by decide +kernel
theorem dX9_freshName_56 : decode cX9_freshName 56 = .ok (.aload_n 0, 1) := by decide +kernel
theorem dX9_freshName_57 : decode cX9_freshName 57 = .ok (.dup, 1) := by decide +kernel
theorem dX9_freshName_58 : decode cX9_freshName 58 = .ok (.getfield 104, 3) := by decide +kernel
theorem dX9_freshName_61 : decode cX9_freshName 61 = .ok (.aload_n 0, 1) := by decide +kernel
theorem dX9_freshName_62 : decode cX9_freshName 62 = .ok (.invokevirtual 118, 3) := by decide +kernel
theorem dX9_freshName_65 : decode cX9_freshName 65 = .ok (.iadd, 1) := by decide +kernel
theorem dX9_freshName_66 : decode cX9_freshName 66 = .ok (.putfield 104, 3) := by decide +kernel
theorem dX9_freshName_69 : decode cX9_freshName 69 = .ok (.iload_n 2, 1) := by decide +kernel
theorem dX9_freshName_70 : decode cX9_freshName 70 = .ok (.ireturn, 1) := by decide +kernel
theorem dX9_personHere_0 : decode cX9_personHere 0 = .ok (.aload_n 0, 1) := by decide +kernel
theorem dX9_personHere_1 : decode cX9_personHere 1 = .ok (.getfield 49, 3) := by decide +kernel
theorem dX9_personHere_4 : decode cX9_personHere 4 = .ok (.aload_n 0, 1) := by decide +kernel
theorem dX9_personHere_5 : decode cX9_personHere 5 = .ok (.getfield 204, 3) := by decide +kernel
theorem dX9_personHere_8 : decode cX9_personHere 8 = .ok (.aload_n 0, 1) := by decide +kernel
theorem dX9_personHere_9 : decode cX9_personHere 9 = .ok (.invokevirtual 201, 3) := by decide +kernel
theorem dX9_personHere_12 : decode cX9_personHere 12 = .ok (.invokestatic 207, 3) := by decide +kernel
theorem dX9_personHere_15 : decode cX9_personHere 15 = .ok (.istore_n 1, 1) := by decide +kernel
theorem dX9_personHere_16 : decode cX9_personHere 16 = .ok (.aload_n 0, 1) := by decide +kernel
theorem dX9_personHere_17 : decode cX9_personHere 17 = .ok (.invokevirtual 114, 3) := by decide +kernel
theorem dX9_personHere_20 : decode cX9_personHere 20 = .ok (.ifCond .ne 8, 3) := by decide +kernel
theorem dX9_personHere_23 : decode cX9_personHere 23 = .ok (.iload_n 1, 1) := by decide +kernel
theorem dX9_personHere_24 : decode cX9_personHere 24 = .ok (.iconst (-1), 1) := by decide +kernel
theorem dX9_personHere_25 : decode cX9_personHere 25 = .ok (.if_icmp .ne 13, 3) := by decide +kernel
theorem dX9_personHere_28 : decode cX9_personHere 28 = .ok (.aload_n 0, 1) := by decide +kernel
theorem dX9_personHere_29 : decode cX9_personHere 29 = .ok (.aload_n 0, 1) := by decide +kernel
theorem dX9_personHere_30 : decode cX9_personHere 30 = .ok (.getfield 104, 3) := by decide +kernel
theorem dX9_personHere_33 : decode cX9_personHere 33 = .ok (.invokevirtual 137, 3) := by decide +kernel
theorem dX9_personHere_36 : decode cX9_personHere 36 = .ok (.iconst 0, 1) := by decide +kernel
theorem dX9_personHere_37 : decode cX9_personHere 37 = .ok (.ireturn, 1) := by decide +kernel
theorem dX9_personHere_38 : decode cX9_personHere 38 = .ok (.aload_n 0, 1) := by decide +kernel
theorem dX9_personHere_39 : decode cX9_personHere 39 = .ok (.dup, 1) := by decide +kernel
theorem dX9_personHere_40 : decode cX9_personHere 40 = .ok (.getfield 104, 3) := by decide +kernel
theorem dX9_personHere_43 : decode cX9_personHere 43 = .ok (.aload_n 0, 1) := by decide +kernel
theorem dX9_personHere_44 : decode cX9_personHere 44 = .ok (.invokevirtual 118, 3) := by decide +kernel
theorem dX9_personHere_47 : decode cX9_personHere 47 = .ok (.iadd, 1) := by decide +kernel
theorem dX9_personHere_48 : decode cX9_personHere 48 = .ok (.putfield 104, 3) := by decide +kernel
theorem dX9_personHere_51 : decode cX9_personHere 51 = .ok (.iload_n 1, 1) := by decide +kernel
theorem dX9_personHere_52 : decode cX9_personHere 52 = .ok (.ireturn, 1) := by decide +kernel
theorem dX9_isOfKind_0 : decode cX9_isOfKind 0 = .ok (.iconst 0, 1) := by decide +kernel
theorem dX9_isOfKind_1 : decode cX9_isOfKind 1 = .ok (.istore_n 3, 1) := by decide +kernel
theorem dX9_isOfKind_2 : decode cX9_isOfKind 2 = .ok (.iload_n 3, 1) := by decide +kernel
theorem dX9_isOfKind_3 : decode cX9_isOfKind 3 = .ok (.aload_n 0, 1) := by decide +kernel
theorem dX9_isOfKind_4 : decode cX9_isOfKind 4 = .ok (.getfield 214, 3) := by decide +kernel
theorem dX9_isOfKind_7 : decode cX9_isOfKind 7 = .ok (.if_icmp .ge 37, 3) := by decide +kernel
theorem dX9_isOfKind_10 : decode cX9_isOfKind 10 = .ok (.aload_n 0, 1) := by decide +kernel
theorem dX9_isOfKind_11 : decode cX9_isOfKind 11 = .ok (.getfield 58, 3) := by decide +kernel
theorem dX9_isOfKind_14 : decode cX9_isOfKind 14 = .ok (.iconst 5, 1) := by decide +kernel
theorem dX9_isOfKind_15 : decode cX9_isOfKind 15 = .ok (.iload_n 3, 1) := by decide +kernel
theorem dX9_isOfKind_16 : decode cX9_isOfKind 16 = .ok (.imul, 1) := by decide +kernel
theorem dX9_isOfKind_17 : decode cX9_isOfKind 17 = .ok (.iaload, 1) := by decide +kernel
theorem dX9_isOfKind_18 : decode cX9_isOfKind 18 = .ok (.iload_n 1, 1) := by decide +kernel
theorem dX9_isOfKind_19 : decode cX9_isOfKind 19 = .ok (.if_icmp .ne 19, 3) := by decide +kernel
theorem dX9_isOfKind_22 : decode cX9_isOfKind 22 = .ok (.aload_n 0, 1) := by decide +kernel
theorem dX9_isOfKind_23 : decode cX9_isOfKind 23 = .ok (.getfield 58, 3) := by decide +kernel
theorem dX9_isOfKind_26 : decode cX9_isOfKind 26 = .ok (.iconst 5, 1) := by decide +kernel
theorem dX9_isOfKind_27 : decode cX9_isOfKind 27 = .ok (.iload_n 3, 1) := by decide +kernel
theorem dX9_isOfKind_28 : decode cX9_isOfKind 28 = .ok (.imul, 1) := by decide +kernel
theorem dX9_isOfKind_29 : decode cX9_isOfKind 29 = .ok (.iconst 2, 1) := by decide +kernel
theorem dX9_isOfKind_30 : decode cX9_isOfKind 30 = .ok (.iadd, 1) := by decide +kernel
theorem dX9_isOfKind_31 : decode cX9_isOfKind 31 = .ok (.iaload, 1) := by decide +kernel
theorem dX9_isOfKind_32 : decode cX9_isOfKind 32 = .ok (.iload_n 2, 1) := by decide +kernel
theorem dX9_isOfKind_33 : decode cX9_isOfKind 33 = .ok (.if_icmp .ne 5, 3) := by decide +kernel
theorem dX9_isOfKind_36 : decode cX9_isOfKind 36 = .ok (.iconst 1, 1) := by decide +kernel
theorem dX9_isOfKind_37 : decode cX9_isOfKind 37 = .ok (.ireturn, 1) := by decide +kernel
theorem dX9_isOfKind_38 : decode cX9_isOfKind 38 = .ok (.iinc 3 1, 3) := by decide +kernel
theorem dX9_isOfKind_41 : decode cX9_isOfKind 41 = .ok (.goto (-39), 3) := by decide +kernel
theorem dX9_isOfKind_44 : decode cX9_isOfKind 44 = .ok (.iconst 0, 1) := by decide +kernel
theorem dX9_isOfKind_45 : decode cX9_isOfKind 45 = .ok (.ireturn, 1) := by decide +kernel
theorem dX9_thingHere_0 : decode cX9_thingHere 0 = .ok (.aload_n 0, 1) := by decide +kernel
theorem dX9_thingHere_1 : decode cX9_thingHere 1 = .ok (.getfield 46, 3) := by decide +kernel
theorem dX9_thingHere_4 : decode cX9_thingHere 4 = .ok (.aload_n 0, 1) := by decide +kernel
theorem dX9_thingHere_5 : decode cX9_thingHere 5 = .ok (.getfield 211, 3) := by decide +kernel
theorem dX9_thingHere_8 : decode cX9_thingHere 8 = .ok (.aload_n 0, 1) := by decide +kernel
theorem dX9_thingHere_9 : decode cX9_thingHere 9 = .ok (.invokevirtual 201, 3) := by decide +kernel
theorem dX9_thingHere_12 : decode cX9_thingHere 12 = .ok (.invokestatic 207, 3) := by decide +kernel
theorem dX9_thingHere_15 : decode cX9_thingHere 15 = .ok (.istore_n 2, 1) := by decide +kernel
theorem dX9_thingHere_16 : decode cX9_thingHere 16 = .ok (.aload_n 0, 1) := by decide +kernel
theorem dX9_thingHere_17 : decode cX9_thingHere 17 = .ok (.invokevirtual 114, 3) := by decide +kernel
theorem dX9_thingHere_20 : decode cX9_thingHere 20 = .ok (.ifCond .ne 12, 3) := by decide +kernel
theorem dX9_thingHere_23 : decode cX9_thingHere 23 = .ok (.iload_n 2, 1) := by decide +kernel
theorem dX9_thingHere_24 : decode cX9_thingHere 24 = .ok (.iconst (-1), 1) := by decide +kernel
theorem dX9_thingHere_25 : decode cX9_thingHere 25 = .ok (.if_icmp .eq 7, 3) := by decide +kernel
theorem dX9_thingHere_28 : decode cX9_thingHere 28 = .ok (.iconst 1, 1) := by decide +kernel
theorem dX9_thingHere_29 : decode cX9_thingHere 29 = .ok (.goto 4, 3) := by decide +kernel
theorem dX9_thingHere_32 : decode cX9_thingHere 32 = .ok (.iconst 0, 1) := by decide +kernel
theorem dX9_thingHere_33 : decode cX9_thingHere 33 = .ok (.istore_n 3, 1) := by decide +kernel
theorem dX9_thingHere_34 : decode cX9_thingHere 34 = .ok (.iload_n 3, 1) := by decide +kernel
theorem dX9_thingHere_35 : decode cX9_thingHere 35 = .ok (.ifCond .eq 30, 3) := by decide +kernel
theorem dX9_thingHere_38 : decode cX9_thingHere 38 = .ok (.iload_n 1, 1) := by decide +kernel
theorem dX9_thingHere_39 : decode cX9_thingHere 39 = .ok (.iconst 1, 1) := by decide +kernel
theorem dX9_thingHere_40 : decode cX9_thingHere 40 = .ok (.if_icmp .ne 21, 3) := by decide +kernel
theorem dX9_thingHere_43 : decode cX9_thingHere 43 = .ok (.aload_n 0, 1) := by decide +kernel
theorem dX9_thingHere_44 : decode cX9_thingHere 44 = .ok (.iconst 0, 1) := by decide +kernel
theorem dX9_thingHere_45 : decode cX9_thingHere 45 = .ok (.iload_n 2, 1) := by decide +kernel
theorem dX9_thingHere_46 : decode cX9_thingHere 46 = .ok (.invokevirtual 217, 3) := by decide +kernel
theorem dX9_thingHere_49 : decode cX9_thingHere 49 = .ok (.ifCond .ne 16, 3) := by decide +kernel
theorem dX9_thingHere_52 : decode cX9_thingHere 52 = .ok (.aload_n 0, 1) := by decide +kernel
theorem dX9_thingHere_53 : decode cX9_thingHere 53 = .ok (.iconst 2, 1) := by decide +kernel
theorem dX9_thingHere_54 : decode cX9_thingHere 54 = .ok (.iload_n 2, 1) := by decide +kernel
theorem dX9_thingHere_55 : decode cX9_thingHere 55 = .ok (.invokevirtual 217, 3) := by decide +kernel
theorem dX9_thingHere_58 : decode cX9_thingHere 58 = .ok (.ifCond .ne 7, 3) := by decide +kernel
theorem dX9_thingHere_61 : decode cX9_thingHere 61 = .ok (.iconst 1, 1) := by decide +kernel
theorem dX9_thingHere_62 : decode cX9_thingHere 62 = .ok (.goto 4, 3) := by decide +kernel
theorem dX9_thingHere_65 : decode cX9_thingHere 65 = .ok (.iconst 0, 1) := by decide +kernel
theorem dX9_thingHere_66 : decode cX9_thingHere 66 = .ok (.istore_n 3, 1) := by decide +kernel
theorem dX9_thingHere_67 : decode cX9_thingHere 67 = .ok (.iload_n 3, 1) := by decide +kernel
theorem dX9_thingHere_68 : decode cX9_thingHere 68 = .ok (.ifCond .eq 21, 3) := by decide +kernel
theorem dX9_thingHere_71 : decode cX9_thingHere 71 = .ok (.iload_n 1, 1) := by decide +kernel
theorem dX9_thingHere_72 : decode cX9_thingHere 72 = .ok (.iconst 2, 1) := by decide +kernel
theorem dX9_thingHere_73 : decode cX9_thingHere 73 = .ok (.if_icmp .ne 12, 3) := by decide +kernel
theorem dX9_thingHere_76 : decode cX9_thingHere 76 = .ok (.aload_n 0, 1) := by decide +kernel
theorem dX9_thingHere_77 : decode cX9_thingHere 77 = .ok (.iconst 0, 1) := by decide +kernel
theorem dX9_thingHere_78 : decode cX9_thingHere 78 = .ok (.iload_n 2, 1) := by decide +kernel
theorem dX9_thingHere_79 : decode cX9_thingHere 79 = .ok (.invokevirtual 217, 3) := by decide +kernel
theorem dX9_thingHere_82 : decode cX9_thingHere 82 = .ok (.ifCond .ne 7, 3) := by decide +kernel
theorem dX9_thingHere_85 : decode cX9_thingHere 85 = .ok (.iconst 1, 1) := by decide +kernel
theorem dX9_thingHere_86 : decode cX9_thingHere 86 = .ok (.goto 4, 3) := by decide +kernel
theorem dX9_thingHere_89 : decode cX9_thingHere 89 = .ok (.iconst 0, 1) := by decide +kernel
theorem dX9_thingHere_90 : decode cX9_thingHere 90 = .ok (.istore_n 3, 1) := by decide +kernel
theorem dX9_thingHere_91 : decode cX9_thingHere 91 = .ok (.iload_n 3, 1) := by decide +kernel
theorem dX9_thingHere_92 : decode cX9_thingHere 92 = .ok (.ifCond .eq 27, 3) := by decide +kernel
theorem dX9_thingHere_95 : decode cX9_thingHere 95 = .ok (.iload_n 1, 1) := by decide +kernel
theorem dX9_thingHere_96 : decode cX9_thingHere 96 = .ok (.iconst 3, 1) := by decide +kernel
theorem dX9_thingHere_97 : decode cX9_thingHere 97 = .ok (.if_icmp .ne 18, 3) := by decide +kernel
theorem dX9_thingHere_100 : decode cX9_thingHere 100 = .ok (.aload_n 0, 1) := by decide +kernel
theorem dX9_thingHere_101 : decode cX9_thingHere 101 = .ok (.getfield 43, 3) := by decide +kernel
theorem dX9_thingHere_104 : decode cX9_thingHere 104 = .ok (.iconst 0, 1) := by decide +kernel
theorem dX9_thingHere_105 : decode cX9_thingHere 105 = .ok (.iconst 4, 1) := by decide +kernel
theorem dX9_thingHere_106 : decode cX9_thingHere 106 = .ok (.iload_n 2, 1) := by decide +kernel
theorem dX9_thingHere_107 : decode cX9_thingHere 107 = .ok (.imul, 1) := by decide +kernel
theorem dX9_thingHere_108 : decode cX9_thingHere 108 = .ok (.iadd, 1) := by decide +kernel
theorem dX9_thingHere_109 : decode cX9_thingHere 109 = .ok (.iconst 1, 1) := by decide +kernel
theorem dX9_thingHere_110 : decode cX9_thingHere 110 = .ok (.iadd, 1) := by decide +kernel
theorem dX9_thingHere_111 : decode cX9_thingHere 111 = .ok (.iaload, 1) := by decide +kernel
theorem dX9_thingHere_112 : decode cX9_thingHere 112 = .ok (.ifCond .ne 7, 3) := by decide +kernel
theorem dX9_thingHere_115 : decode cX9_thingHere 115 = .ok (.iconst 1, 1) := by decide +kernel
theorem dX9_thingHere_116 : decode cX9_thingHere 116 = .ok (.goto 4, 3) := by decide +kernel
theorem dX9_thingHere_119 : decode cX9_thingHere 119 = .ok (.iconst 0, 1) := by decide +kernel
theorem dX9_thingHere_120 : decode cX9_thingHere 120 = .ok (.istore_n 3, 1) := by decide +kernel
theorem dX9_thingHere_121 : decode cX9_thingHere 121 = .ok (.iload_n 3, 1) := by decide +kernel
theorem dX9_thingHere_122 : decode cX9_thingHere 122 = .ok (.ifCond .ne 13, 3) := by decide +kernel
theorem dX9_thingHere_125 : decode cX9_thingHere 125 = .ok (.aload_n 0, 1) := by decide +kernel
theorem dX9_thingHere_126 : decode cX9_thingHere 126 = .ok (.aload_n 0, 1) := by decide +kernel
theorem dX9_thingHere_127 : decode cX9_thingHere 127 = .ok (.getfield 104, 3) := by decide +kernel
theorem dX9_thingHere_130 : decode cX9_thingHere 130 = .ok (.invokevirtual 137, 3) := by decide +kernel
theorem dX9_thingHere_133 : decode cX9_thingHere 133 = .ok (.iconst 0, 1) := by decide +kernel
theorem dX9_thingHere_134 : decode cX9_thingHere 134 = .ok (.ireturn, 1) := by decide +kernel
theorem dX9_thingHere_135 : decode cX9_thingHere 135 = .ok (.aload_n 0, 1) := by decide +kernel
theorem dX9_thingHere_136 : decode cX9_thingHere 136 = .ok (.dup, 1) := by decide +kernel
theorem dX9_thingHere_137 : decode cX9_thingHere 137 = .ok (.getfield 104, 3) := by decide +kernel
theorem dX9_thingHere_140 : decode cX9_thingHere 140 = .ok (.aload_n 0, 1) := by decide +kernel
theorem dX9_thingHere_141 : decode cX9_thingHere 141 = .ok (.invokevirtual 118, 3) := by decide +kernel
theorem dX9_thingHere_144 : decode cX9_thingHere 144 = .ok (.iadd, 1) := by decide +kernel
theorem dX9_thingHere_145 : decode cX9_thingHere 145 = .ok (.putfield 104, 3) := by decide +kernel
theorem dX9_thingHere_148 : decode cX9_thingHere 148 = .ok (.iload_n 2, 1) := by decide +kernel
theorem dX9_thingHere_149 : decode cX9_thingHere 149 = .ok (.ireturn, 1) := by decide +kernel
theorem dX9_thingLine_0 : decode cX9_thingLine 0 = .ok (.aload_n 0, 1) := by decide +kernel
theorem dX9_thingLine_1 : decode cX9_thingLine 1 = .ok (.getfield 211, 3) := by decide +kernel
theorem dX9_thingLine_4 : decode cX9_thingLine 4 = .ok (.bipush 8, 2) := by decide +kernel
theorem dX9_thingLine_6 : decode cX9_thingLine 6 = .ok (.if_icmp .ne 11, 3) := by decide +kernel
theorem dX9_thingLine_9 : decode cX9_thingLine 9 = .ok (.aload_n 0, 1) := by decide +kernel
theorem dX9_thingLine_10 : decode cX9_thingLine 10 = .ok (.aload_n 0, 1) := by decide +kernel
theorem dX9_thingLine_11 : decode cX9_thingLine 11 = .ok (.getfield 104, 3) := by decide +kernel
theorem dX9_thingLine_14 : decode cX9_thingLine 14 = .ok (.invokevirtual 137, 3) := by decide +kernel
theorem dX9_thingLine_17 : decode cX9_thingLine 17 = .ok (.aload_n 0, 1) := by decide +kernel
theorem dX9_thingLine_18 : decode cX9_thingLine 18 = .ok (.ldc 150, 2) := by decide +kernel
theorem dX9_thingLine_20 : decode cX9_thingLine 20 = .ok (.invokevirtual 221, 3) := by decide +kernel
theorem dX9_thingLine_23 : decode cX9_thingLine 23 = .ok (.aload_n 0, 1) := by decide +kernel
theorem dX9_thingLine_24 : decode cX9_thingLine 24 = .ok (.iconst 0, 1) := by decide +kernel
theorem dX9_thingLine_25 : decode cX9_thingLine 25 = .ok (.invokevirtual 225, 3) := by decide +kernel
theorem dX9_thingLine_28 : decode cX9_thingLine 28 = .ok (.istore_n 1, 1) := by decide +kernel
theorem dX9_thingLine_29 : decode cX9_thingLine 29 = .ok (.aload_n 0, 1) := by decide +kernel
theorem dX9_thingLine_30 : decode cX9_thingLine 30 = .ok (.iconst 1, 1) := by decide +kernel
theorem dX9_thingLine_31 : decode cX9_thingLine 31 = .ok (.sipush 9999, 3) := by decide +kernel
theorem dX9_thingLine_34 : decode cX9_thingLine 34 = .ok (.invokevirtual 229, 3) := by decide +kernel
theorem dX9_thingLine_37 : decode cX9_thingLine 37 = .ok (.istore_n 2, 1) := by decide +kernel
theorem dX9_thingLine_38 : decode cX9_thingLine 38 = .ok (.aload_n 0, 1) := by decide +kernel
theorem dX9_thingLine_39 : decode cX9_thingLine 39 = .ok (.invokevirtual 114, 3) := by decide +kernel
theorem dX9_thingLine_42 : decode cX9_thingLine 42 = .ok (.ifCond .eq 4, 3) := by decide +kernel
theorem dX9_thingLine_45 : decode cX9_thingLine 45 = .ok (.return_, 1) := by decide +kernel
theorem dX9_thingLine_46 : decode cX9_thingLine 46 = .ok (.aload_n 0, 1) := by decide +kernel
theorem dX9_thingLine_47 : decode cX9_thingLine 47 = .ok (.getfield 46, 3) := by decide +kernel
theorem dX9_thingLine_50 : decode cX9_thingLine 50 = .ok (.aload_n 0, 1) := by decide +kernel
theorem dX9_thingLine_51 : decode cX9_thingLine 51 = .ok (.getfield 211, 3) := by decide +kernel
theorem dX9_thingLine_54 : decode cX9_thingLine 54 = .ok (.iload_n 1, 1) := by decide +kernel
theorem dX9_thingLine_55 : decode cX9_thingLine 55 = .ok (.iastore, 1) := by decide +kernel
theorem dX9_thingLine_56 : decode cX9_thingLine 56 = .ok (.aload_n 0, 1) := by decide +kernel
theorem dX9_thingLine_57 : decode cX9_thingLine 57 = .ok (.getfield 43, 3) := by decide +kernel
theorem dX9_thingLine_60 : decode cX9_thingLine 60 = .ok (.iconst 0, 1) := by decide +kernel
theorem dX9_thingLine_61 : decode cX9_thingLine 61 = .ok (.iconst 4, 1) := by decide +kernel
theorem dX9_thingLine_62 : decode cX9_thingLine 62 = .ok (.aload_n 0, 1) := by decide +kernel
theorem dX9_thingLine_63 : decode cX9_thingLine 63 = .ok (.getfield 211, 3) := by decide +kernel
theorem dX9_thingLine_66 : decode cX9_thingLine 66 = .ok (.imul, 1) := by decide +kernel
theorem dX9_thingLine_67 : decode cX9_thingLine 67 = .ok (.iadd, 1) := by decide +kernel
theorem dX9_thingLine_68 : decode cX9_thingLine 68 = .ok (.iconst 0, 1) := by decide +kernel
theorem dX9_thingLine_69 : decode cX9_thingLine 69 = .ok (.iadd, 1) := by decide +kernel
theorem dX9_thingLine_70 : decode cX9_thingLine 70 = .ok (.iload_n 2, 1) := by decide +kernel
theorem dX9_thingLine_71 : decode cX9_thingLine 71 = .ok (.iastore, 1) := by decide +kernel
theorem dX9_thingLine_72 : decode cX9_thingLine 72 = .ok (.aload_n 0, 1) := by decide +kernel
theorem dX9_thingLine_73 : decode cX9_thingLine 73 = .ok (.dup, 1) := by decide +kernel
theorem dX9_thingLine_74 : decode cX9_thingLine 74 = .ok (.getfield 211, 3) := by decide +kernel
theorem dX9_thingLine_77 : decode cX9_thingLine 77 = .ok (.iconst 1, 1) := by decide +kernel
theorem dX9_thingLine_78 : decode cX9_thingLine 78 = .ok (.iadd, 1) := by decide +kernel
theorem dX9_thingLine_79 : decode cX9_thingLine 79 = .ok (.putfield 211, 3) := by decide +kernel
theorem dX9_thingLine_82 : decode cX9_thingLine 82 = .ok (.return_, 1) := by decide +kernel
theorem dX9_personLine_0 : decode cX9_personLine 0 = .ok (.aload_n 0, 1) := by decide +kernel
theorem dX9_personLine_1 : decode cX9_personLine 1 = .ok (.getfield 204, 3) := by decide +kernel
theorem dX9_personLine_4 : decode cX9_personLine 4 = .ok (.bipush 12, 2) := by decide +kernel
theorem dX9_personLine_6 : decode cX9_personLine 6 = .ok (.if_icmp .ne 11, 3) := by decide +kernel
theorem dX9_personLine_9 : decode cX9_personLine 9 = .ok (.aload_n 0, 1) := by decide +kernel
theorem dX9_personLine_10 : decode cX9_personLine 10 = .ok (.aload_n 0, 1) := by decide +kernel
theorem dX9_personLine_11 : decode cX9_personLine 11 = .ok (.getfield 104, 3) := by decide +kernel
theorem dX9_personLine_14 : decode cX9_personLine 14 = .ok (.invokevirtual 137, 3) := by decide +kernel
theorem dX9_personLine_17 : decode cX9_personLine 17 = .ok (.aload_n 0, 1) := by decide +kernel
theorem dX9_personLine_18 : decode cX9_personLine 18 = .ok (.iload_n 1, 1) := by decide +kernel
theorem dX9_personLine_19 : decode cX9_personLine 19 = .ok (.ifCond .ne 8, 3) := by decide +kernel
theorem dX9_personLine_22 : decode cX9_personLine 22 = .ok (.ldc 156, 2) := by decide +kernel
theorem dX9_personLine_24 : decode cX9_personLine 24 = .ok (.goto 15, 3) := by decide +kernel
theorem dX9_personLine_27 : decode cX9_personLine 27 = .ok (.iload_n 1, 1) := by decide +kernel
theorem dX9_personLine_28 : decode cX9_personLine 28 = .ok (.iconst 1, 1) := by decide +kernel
theorem dX9_personLine_29 : decode cX9_personLine 29 = .ok (.if_icmp .ne 8, 3) := by decide +kernel
theorem dX9_personLine_32 : decode cX9_personLine 32 = .ok (.ldc 158, 2) := by decide +kernel
theorem dX9_personLine_34 : decode cX9_personLine 34 = .ok (.goto 5, 3) := by decide +kernel
theorem dX9_personLine_37 : decode cX9_personLine 37 = .ok (.ldc 160, 2) := by decide +kernel
theorem dX9_personLine_39 : decode cX9_personLine 39 = .ok (.invokevirtual 221, 3) := by decide +kernel
theorem dX9_personLine_42 : decode cX9_personLine 42 = .ok (.aload_n 0, 1) := by decide +kernel
theorem dX9_personLine_43 : decode cX9_personLine 43 = .ok (.iconst 1, 1) := by decide +kernel
theorem dX9_personLine_44 : decode cX9_personLine 44 = .ok (.invokevirtual 225, 3) := by decide +kernel
theorem dX9_personLine_47 : decode cX9_personLine 47 = .ok (.istore_n 2, 1) := by decide +kernel
theorem dX9_personLine_48 : decode cX9_personLine 48 = .ok (.iconst (-1), 1) := by decide +kernel
theorem dX9_personLine_49 : decode cX9_personLine 49 = .ok (.istore_n 3, 1) := by decide +kernel
theorem dX9_personLine_50 : decode cX9_personLine 50 = .ok (.iload_n 1, 1) := by decide +kernel
theorem dX9_personLine_51 : decode cX9_personLine 51 = .ok (.iconst 2, 1) := by decide +kernel
theorem dX9_personLine_52 : decode cX9_personLine 52 = .ok (.if_icmp .ne 14, 3) := by decide +kernel
theorem dX9_personLine_55 : decode cX9_personLine 55 = .ok (.aload_n 0, 1) := by decide +kernel
theorem dX9_personLine_56 : decode cX9_personLine 56 = .ok (.ldc 162, 2) := by decide +kernel
theorem dX9_personLine_58 : decode cX9_personLine 58 = .ok (.invokevirtual 221, 3) := by decide +kernel
theorem dX9_personLine_61 : decode cX9_personLine 61 = .ok (.aload_n 0, 1) := by decide +kernel
theorem dX9_personLine_62 : decode cX9_personLine 62 = .ok (.invokevirtual 233, 3) := by decide +kernel
theorem dX9_personLine_65 : decode cX9_personLine 65 = .ok (.istore_n 3, 1) := by decide +kernel
theorem dX9_personLine_66 : decode cX9_personLine 66 = .ok (.aload_n 0, 1) := by decide +kernel
theorem dX9_personLine_67 : decode cX9_personLine 67 = .ok (.invokevirtual 114, 3) := by decide +kernel
theorem dX9_personLine_70 : decode cX9_personLine 70 = .ok (.ifCond .eq 4, 3) := by decide +kernel
theorem dX9_personLine_73 : decode cX9_personLine 73 = .ok (.return_, 1) := by decide +kernel
theorem dX9_personLine_74 : decode cX9_personLine 74 = .ok (.aload_n 0, 1) := by decide +kernel
theorem dX9_personLine_75 : decode cX9_personLine 75 = .ok (.getfield 49, 3) := by decide +kernel
theorem dX9_personLine_78 : decode cX9_personLine 78 = .ok (.aload_n 0, 1) := by decide +kernel
theorem dX9_personLine_79 : decode cX9_personLine 79 = .ok (.getfield 204, 3) := by decide +kernel
theorem dX9_personLine_82 : decode cX9_personLine 82 = .ok (.iload_n 2, 1) := by decide +kernel
theorem dX9_personLine_83 : decode cX9_personLine 83 = .ok (.iastore, 1) := by decide +kernel
theorem dX9_personLine_84 : decode cX9_personLine 84 = .ok (.aload_n 0, 1) := by decide +kernel
theorem dX9_personLine_85 : decode cX9_personLine 85 = .ok (.getfield 52, 3) := by decide +kernel
theorem dX9_personLine_88 : decode cX9_personLine 88 = .ok (.aload_n 0, 1) := by decide +kernel
theorem dX9_personLine_89 : decode cX9_personLine 89 = .ok (.getfield 204, 3) := by decide +kernel
theorem dX9_personLine_92 : decode cX9_personLine 92 = .ok (.iload_n 3, 1) := by decide +kernel
theorem dX9_personLine_93 : decode cX9_personLine 93 = .ok (.iastore, 1) := by decide +kernel
theorem dX9_personLine_94 : decode cX9_personLine 94 = .ok (.aload_n 0, 1) := by decide +kernel
theorem dX9_personLine_95 : decode cX9_personLine 95 = .ok (.getfield 55, 3) := by decide +kernel
theorem dX9_personLine_98 : decode cX9_personLine 98 = .ok (.aload_n 0, 1) := by decide +kernel
theorem dX9_personLine_99 : decode cX9_personLine 99 = .ok (.getfield 204, 3) := by decide +kernel
theorem dX9_personLine_102 : decode cX9_personLine 102 = .ok (.iload_n 1, 1) := by decide +kernel
theorem dX9_personLine_103 : decode cX9_personLine 103 = .ok (.ifCond .ne 7, 3) := by decide +kernel
theorem dX9_personLine_106 : decode cX9_personLine 106 = .ok (.iconst 1, 1) := by decide +kernel
theorem dX9_personLine_107 : decode cX9_personLine 107 = .ok (.goto 4, 3) := by decide +kernel
theorem dX9_personLine_110 : decode cX9_personLine 110 = .ok (.iconst 0, 1) := by decide +kernel
theorem dX9_personLine_111 : decode cX9_personLine 111 = .ok (.bastore, 1) := by decide +kernel
theorem dX9_personLine_112 : decode cX9_personLine 112 = .ok (.aload_n 0, 1) := by decide +kernel
theorem dX9_personLine_113 : decode cX9_personLine 113 = .ok (.dup, 1) := by decide +kernel
theorem dX9_personLine_114 : decode cX9_personLine 114 = .ok (.getfield 204, 3) := by decide +kernel
theorem dX9_personLine_117 : decode cX9_personLine 117 = .ok (.iconst 1, 1) := by decide +kernel
theorem dX9_personLine_118 : decode cX9_personLine 118 = .ok (.iadd, 1) := by decide +kernel
theorem dX9_personLine_119 : decode cX9_personLine 119 = .ok (.putfield 204, 3) := by decide +kernel
theorem dX9_personLine_122 : decode cX9_personLine 122 = .ok (.return_, 1) := by decide +kernel
theorem dX9_giftLine_0 : decode cX9_giftLine 0 = .ok (.aload_n 0, 1) := by decide +kernel
theorem dX9_giftLine_1 : decode cX9_giftLine 1 = .ok (.getfield 214, 3) := by decide +kernel
theorem dX9_giftLine_4 : decode cX9_giftLine 4 = .ok (.bipush 12, 2) := by decide +kernel
theorem dX9_giftLine_6 : decode cX9_giftLine 6 = .ok (.if_icmp .ne 11, 3) := by decide +kernel
theorem dX9_giftLine_9 : decode cX9_giftLine 9 = .ok (.aload_n 0, 1) := by decide +kernel
theorem dX9_giftLine_10 : decode cX9_giftLine 10 = .ok (.aload_n 0, 1) := by decide +kernel
theorem dX9_giftLine_11 : decode cX9_giftLine 11 = .ok (.getfield 104, 3) := by decide +kernel
theorem dX9_giftLine_14 : decode cX9_giftLine 14 = .ok (.invokevirtual 137, 3) := by decide +kernel
theorem dX9_giftLine_17 : decode cX9_giftLine 17 = .ok (.aload_n 0, 1) := by decide +kernel
theorem dX9_giftLine_18 : decode cX9_giftLine 18 = .ok (.iload_n 1, 1) := by decide +kernel
theorem dX9_giftLine_19 : decode cX9_giftLine 19 = .ok (.ifCond .ne 8, 3) := by decide +kernel
theorem dX9_giftLine_22 : decode cX9_giftLine 22 = .ok (.ldc 164, 2) := by decide +kernel
theorem dX9_giftLine_24 : decode cX9_giftLine 24 = .ok (.goto 25, 3) := by decide +kernel
theorem dX9_giftLine_27 : decode cX9_giftLine 27 = .ok (.iload_n 1, 1) := by decide +kernel
theorem dX9_giftLine_28 : decode cX9_giftLine 28 = .ok (.iconst 1, 1) := by decide +kernel
theorem dX9_giftLine_29 : decode cX9_giftLine 29 = .ok (.if_icmp .ne 8, 3) := by decide +kernel
theorem dX9_giftLine_32 : decode cX9_giftLine 32 = .ok (.ldc 168, 2) := by decide +kernel
theorem dX9_giftLine_34 : decode cX9_giftLine 34 = .ok (.goto 15, 3) := by decide +kernel
theorem dX9_giftLine_37 : decode cX9_giftLine 37 = .ok (.iload_n 1, 1) := by decide +kernel
theorem dX9_giftLine_38 : decode cX9_giftLine 38 = .ok (.iconst 2, 1) := by decide +kernel
theorem dX9_giftLine_39 : decode cX9_giftLine 39 = .ok (.if_icmp .ne 8, 3) := by decide +kernel
theorem dX9_giftLine_42 : decode cX9_giftLine 42 = .ok (.ldc 172, 2) := by decide +kernel
theorem dX9_giftLine_44 : decode cX9_giftLine 44 = .ok (.goto 5, 3) := by decide +kernel
theorem dX9_giftLine_47 : decode cX9_giftLine 47 = .ok (.ldc 174, 2) := by decide +kernel
theorem dX9_giftLine_49 : decode cX9_giftLine 49 = .ok (.invokevirtual 221, 3) := by decide +kernel
theorem dX9_giftLine_52 : decode cX9_giftLine 52 = .ok (.iload_n 1, 1) := by decide +kernel
theorem dX9_giftLine_53 : decode cX9_giftLine 53 = .ok (.ifCond .ne 11, 3) := by decide +kernel
theorem dX9_giftLine_56 : decode cX9_giftLine 56 = .ok (.aload_n 0, 1) := by decide +kernel
theorem dX9_giftLine_57 : decode cX9_giftLine 57 = .ok (.iconst 1, 1) := by decide +kernel
theorem dX9_giftLine_58 : decode cX9_giftLine 58 = .ok (.invokevirtual 236, 3) := by decide +kernel
theorem dX9_giftLine_61 : decode cX9_giftLine 61 = .ok (.goto 17, 3) := by decide +kernel
theorem dX9_giftLine_64 : decode cX9_giftLine 64 = .ok (.iload_n 1, 1) := by decide +kernel
theorem dX9_giftLine_65 : decode cX9_giftLine 65 = .ok (.iconst 2, 1) := by decide +kernel
theorem dX9_giftLine_66 : decode cX9_giftLine 66 = .ok (.if_icmp .ne 11, 3) := by decide +kernel
theorem dX9_giftLine_69 : decode cX9_giftLine 69 = .ok (.aload_n 0, 1) := by decide +kernel
theorem dX9_giftLine_70 : decode cX9_giftLine 70 = .ok (.iconst 2, 1) := by decide +kernel
theorem dX9_giftLine_71 : decode cX9_giftLine 71 = .ok (.invokevirtual 236, 3) := by decide +kernel
theorem dX9_giftLine_74 : decode cX9_giftLine 74 = .ok (.goto 4, 3) := by decide +kernel
theorem dX9_giftLine_77 : decode cX9_giftLine 77 = .ok (.iconst (-1), 1) := by decide +kernel
theorem dX9_giftLine_78 : decode cX9_giftLine 78 = .ok (.istore_n 2, 1) := by decide +kernel
theorem dX9_giftLine_79 : decode cX9_giftLine 79 = .ok (.iload_n 1, 1) := by decide +kernel
theorem dX9_giftLine_80 : decode cX9_giftLine 80 = .ok (.ifCond .ne 7, 3) := by decide +kernel
theorem dX9_giftLine_83 : decode cX9_giftLine 83 = .ok (.iconst (-1), 1) := by decide +kernel
theorem dX9_giftLine_84 : decode cX9_giftLine 84 = .ok (.goto 21, 3) := by decide +kernel
theorem dX9_giftLine_87 : decode cX9_giftLine 87 = .ok (.aload_n 0, 1) := by decide +kernel
theorem dX9_giftLine_88 : decode cX9_giftLine 88 = .ok (.iconst 1, 1) := by decide +kernel
theorem dX9_giftLine_89 : decode cX9_giftLine 89 = .ok (.iload_n 1, 1) := by decide +kernel
theorem dX9_giftLine_90 : decode cX9_giftLine 90 = .ok (.iconst 3, 1) := by decide +kernel
theorem dX9_giftLine_91 : decode cX9_giftLine 91 = .ok (.if_icmp .ne 8, 3) := by decide +kernel
theorem dX9_giftLine_94 : decode cX9_giftLine 94 = .ok (.bipush 9, 2) := by decide +kernel
theorem dX9_giftLine_96 : decode cX9_giftLine 96 = .ok (.goto 6, 3) := by decide +kernel
theorem dX9_giftLine_99 : decode cX9_giftLine 99 = .ok (.sipush 9999, 3) := by decide +kernel
theorem dX9_giftLine_102 : decode cX9_giftLine 102 = .ok (.invokevirtual 229, 3) := by decide +kernel
theorem dX9_giftLine_105 : decode cX9_giftLine 105 = .ok (.istore_n 3, 1) := by decide +kernel
theorem dX9_giftLine_106 : decode cX9_giftLine 106 = .ok (.aload_n 0, 1) := by decide +kernel
theorem dX9_giftLine_107 : decode cX9_giftLine 107 = .ok (.ldc 166, 2) := by decide +kernel
theorem dX9_giftLine_109 : decode cX9_giftLine 109 = .ok (.invokevirtual 221, 3) := by decide +kernel
theorem dX9_giftLine_112 : decode cX9_giftLine 112 = .ok (.aload_n 0, 1) := by decide +kernel
theorem dX9_giftLine_113 : decode cX9_giftLine 113 = .ok (.invokevirtual 233, 3) := by decide +kernel
theorem dX9_giftLine_116 : decode cX9_giftLine 116 = .ok (.istore 4, 2) := by decide +kernel
theorem dX9_giftLine_118 : decode cX9_giftLine 118 = .ok (.iload_n 1, 1) := by decide +kernel
theorem dX9_giftLine_119 : decode cX9_giftLine 119 = .ok (.iconst 1, 1) := by decide +kernel
theorem dX9_giftLine_120 : decode cX9_giftLine 120 = .ok (.if_icmp .eq 8, 3) := by decide +kernel
theorem dX9_giftLine_123 : decode cX9_giftLine 123 = .ok (.iload_n 1, 1) := by decide +kernel
theorem dX9_giftLine_124 : decode cX9_giftLine 124 = .ok (.iconst 2, 1) := by decide +kernel
theorem dX9_giftLine_125 : decode cX9_giftLine 125 = .ok (.if_icmp .ne 7, 3) := by decide +kernel
theorem dX9_giftLine_128 : decode cX9_giftLine 128 = .ok (.iconst 4, 1) := by decide +kernel
theorem dX9_giftLine_129 : decode cX9_giftLine 129 = .ok (.goto 4, 3) := by decide +kernel
theorem dX9_giftLine_132 : decode cX9_giftLine 132 = .ok (.iconst (-1), 1) := by decide +kernel
theorem dX9_giftLine_133 : decode cX9_giftLine 133 = .ok (.istore 5, 2) := by decide +kernel
theorem dX9_giftLine_135 : decode cX9_giftLine 135 = .ok (.iload 5, 2) := by decide +kernel
theorem dX9_giftLine_137 : decode cX9_giftLine 137 = .ok (.iconst 4, 1) := by decide +kernel
theorem dX9_giftLine_138 : decode cX9_giftLine 138 = .ok (.if_icmp .ne 20, 3) := by decide +kernel
theorem dX9_giftLine_141 : decode cX9_giftLine 141 = .ok (.aload_n 0, 1) := by decide +kernel
theorem dX9_giftLine_142 : decode cX9_giftLine 142 = .ok (.ldc 170, 2) := by decide +kernel
theorem dX9_giftLine_144 : decode cX9_giftLine 144 = .ok (.invokevirtual 134, 3) := by decide +kernel
theorem dX9_giftLine_147 : decode cX9_giftLine 147 = .ok (.ifCond .eq 11, 3) := by decide +kernel
theorem dX9_giftLine_150 : decode cX9_giftLine 150 = .ok (.aload_n 0, 1) := by decide +kernel
theorem dX9_giftLine_151 : decode cX9_giftLine 151 = .ok (.iconst 1, 1) := by decide +kernel
theorem dX9_giftLine_152 : decode cX9_giftLine 152 = .ok (.iconst 4, 1) := by decide +kernel
theorem dX9_giftLine_153 : decode cX9_giftLine 153 = .ok (.invokevirtual 229, 3) := by decide +kernel
theorem dX9_giftLine_156 : decode cX9_giftLine 156 = .ok (.istore 5, 2) := by decide +kernel
theorem dX9_giftLine_158 : decode cX9_giftLine 158 = .ok (.aload_n 0, 1) := by decide +kernel
theorem dX9_giftLine_159 : decode cX9_giftLine 159 = .ok (.invokevirtual 114, 3) := by decide +kernel
theorem dX9_giftLine_162 : decode cX9_giftLine 162 = .ok (.ifCond .eq 4, 3) := by decide +kernel
theorem dX9_giftLine_165 : decode cX9_giftLine 165 = .ok (.return_, 1) := by decide +kernel
theorem dX9_giftLine_166 : decode cX9_giftLine 166 = .ok (.iconst 5, 1) := by decide +kernel
theorem dX9_giftLine_167 : decode cX9_giftLine 167 = .ok (.aload_n 0, 1) := by decide +kernel
theorem dX9_giftLine_168 : decode cX9_giftLine 168 = .ok (.getfield 214, 3) := by decide +kernel
theorem dX9_giftLine_171 : decode cX9_giftLine 171 = .ok (.imul, 1) := by decide +kernel
theorem dX9_giftLine_172 : decode cX9_giftLine 172 = .ok (.istore 6, 2) := by decide +kernel
theorem dX9_giftLine_174 : decode cX9_giftLine 174 = .ok (.aload_n 0, 1) := by decide +kernel
theorem dX9_giftLine_175 : decode cX9_giftLine 175 = .ok (.getfield 58, 3) := by decide +kernel
theorem dX9_giftLine_178 : decode cX9_giftLine 178 = .ok (.iload 6, 2) := by decide +kernel
theorem dX9_giftLine_180 : decode cX9_giftLine 180 = .ok (.iload_n 1, 1) := by decide +kernel
theorem dX9_giftLine_181 : decode cX9_giftLine 181 = .ok (.iastore, 1) := by decide +kernel
theorem dX9_giftLine_182 : decode cX9_giftLine 182 = .ok (.aload_n 0, 1) := by decide +kernel
theorem dX9_giftLine_183 : decode cX9_giftLine 183 = .ok (.getfield 58, 3) := by decide +kernel
theorem dX9_giftLine_186 : decode cX9_giftLine 186 = .ok (.iload 6, 2) := by decide +kernel
theorem dX9_giftLine_188 : decode cX9_giftLine 188 = .ok (.iconst 1, 1) := by decide +kernel
theorem dX9_giftLine_189 : decode cX9_giftLine 189 = .ok (.iadd, 1) := by decide +kernel
theorem dX9_giftLine_190 : decode cX9_giftLine 190 = .ok (.iload 4, 2) := by decide +kernel
theorem dX9_giftLine_192 : decode cX9_giftLine 192 = .ok (.iastore, 1) := by decide +kernel
theorem dX9_giftLine_193 : decode cX9_giftLine 193 = .ok (.aload_n 0, 1) := by decide +kernel
theorem dX9_giftLine_194 : decode cX9_giftLine 194 = .ok (.getfield 58, 3) := by decide +kernel
theorem dX9_giftLine_197 : decode cX9_giftLine 197 = .ok (.iload 6, 2) := by decide +kernel
theorem dX9_giftLine_199 : decode cX9_giftLine 199 = .ok (.iconst 2, 1) := by decide +kernel
theorem dX9_giftLine_200 : decode cX9_giftLine 200 = .ok (.iadd, 1) := by decide +kernel
theorem dX9_giftLine_201 : decode cX9_giftLine 201 = .ok (.iload_n 2, 1) := by decide +kernel
theorem dX9_giftLine_202 : decode cX9_giftLine 202 = .ok (.iastore, 1) := by decide +kernel
theorem dX9_giftLine_203 : decode cX9_giftLine 203 = .ok (.aload_n 0, 1) := by decide +kernel
theorem dX9_giftLine_204 : decode cX9_giftLine 204 = .ok (.getfield 58, 3) := by decide +kernel
theorem dX9_giftLine_207 : decode cX9_giftLine 207 = .ok (.iload 6, 2) := by decide +kernel
theorem dX9_giftLine_209 : decode cX9_giftLine 209 = .ok (.iconst 3, 1) := by decide +kernel
theorem dX9_giftLine_210 : decode cX9_giftLine 210 = .ok (.iadd, 1) := by decide +kernel
theorem dX9_giftLine_211 : decode cX9_giftLine 211 = .ok (.iload_n 3, 1) := by decide +kernel
theorem dX9_giftLine_212 : decode cX9_giftLine 212 = .ok (.iastore, 1) := by decide +kernel
theorem dX9_giftLine_213 : decode cX9_giftLine 213 = .ok (.aload_n 0, 1) := by decide +kernel
theorem dX9_giftLine_214 : decode cX9_giftLine 214 = .ok (.getfield 58, 3) := by decide +kernel
theorem dX9_giftLine_217 : decode cX9_giftLine 217 = .ok (.iload 6, 2) := by decide +kernel
theorem dX9_giftLine_219 : decode cX9_giftLine 219 = .ok (.iconst 4, 1) := by decide +kernel
theorem dX9_giftLine_220 : decode cX9_giftLine 220 = .ok (.iadd, 1) := by decide +kernel
theorem dX9_giftLine_221 : decode cX9_giftLine 221 = .ok (.iload 5, 2) := by decide +kernel
theorem dX9_giftLine_223 : decode cX9_giftLine 223 = .ok (.iastore, 1) := by decide +kernel
theorem dX9_giftLine_224 : decode cX9_giftLine 224 = .ok (.aload_n 0, 1) := by decide +kernel
theorem dX9_giftLine_225 : decode cX9_giftLine 225 = .ok (.dup, 1) := by decide +kernel
theorem dX9_giftLine_226 : decode cX9_giftLine 226 = .ok (.getfield 214, 3) := by decide +kernel
theorem dX9_giftLine_229 : decode cX9_giftLine 229 = .ok (.iconst 1, 1) := by decide +kernel
theorem dX9_giftLine_230 : decode cX9_giftLine 230 = .ok (.iadd, 1) := by decide +kernel
theorem dX9_giftLine_231 : decode cX9_giftLine 231 = .ok (.putfield 214, 3) := by decide +kernel
theorem dX9_giftLine_234 : decode cX9_giftLine 234 = .ok (.return_, 1) := by decide +kernel
theorem dX9_soldLine_0 : decode cX9_soldLine 0 = .ok (.aload_n 0, 1) := by decide +kernel
theorem dX9_soldLine_1 : decode cX9_soldLine 1 = .ok (.ldc 176, 2) := by decide +kernel
theorem dX9_soldLine_3 : decode cX9_soldLine 3 = .ok (.invokevirtual 221, 3) := by decide +kernel
theorem dX9_soldLine_6 : decode cX9_soldLine 6 = .ok (.aload_n 0, 1) := by decide +kernel
theorem dX9_soldLine_7 : decode cX9_soldLine 7 = .ok (.iconst 3, 1) := by decide +kernel
theorem dX9_soldLine_8 : decode cX9_soldLine 8 = .ok (.invokevirtual 236, 3) := by decide +kernel
theorem dX9_soldLine_11 : decode cX9_soldLine 11 = .ok (.istore_n 1, 1) := by decide +kernel
theorem dX9_soldLine_12 : decode cX9_soldLine 12 = .ok (.aload_n 0, 1) := by decide +kernel
theorem dX9_soldLine_13 : decode cX9_soldLine 13 = .ok (.iconst 1, 1) := by decide +kernel
theorem dX9_soldLine_14 : decode cX9_soldLine 14 = .ok (.sipush 9999, 3) := by decide +kernel
theorem dX9_soldLine_17 : decode cX9_soldLine 17 = .ok (.invokevirtual 229, 3) := by decide +kernel
theorem dX9_soldLine_20 : decode cX9_soldLine 20 = .ok (.istore_n 2, 1) := by decide +kernel
theorem dX9_soldLine_21 : decode cX9_soldLine 21 = .ok (.aload_n 0, 1) := by decide +kernel
theorem dX9_soldLine_22 : decode cX9_soldLine 22 = .ok (.ldc 178, 2) := by decide +kernel
theorem dX9_soldLine_24 : decode cX9_soldLine 24 = .ok (.invokevirtual 221, 3) := by decide +kernel
theorem dX9_soldLine_27 : decode cX9_soldLine 27 = .ok (.aload_n 0, 1) := by decide +kernel
theorem dX9_soldLine_28 : decode cX9_soldLine 28 = .ok (.iconst 0, 1) := by decide +kernel
theorem dX9_soldLine_29 : decode cX9_soldLine 29 = .ok (.iload_n 2, 1) := by decide +kernel
theorem dX9_soldLine_30 : decode cX9_soldLine 30 = .ok (.invokevirtual 229, 3) := by decide +kernel
theorem dX9_soldLine_33 : decode cX9_soldLine 33 = .ok (.istore_n 3, 1) := by decide +kernel
theorem dX9_soldLine_34 : decode cX9_soldLine 34 = .ok (.aload_n 0, 1) := by decide +kernel
theorem dX9_soldLine_35 : decode cX9_soldLine 35 = .ok (.invokevirtual 114, 3) := by decide +kernel
theorem dX9_soldLine_38 : decode cX9_soldLine 38 = .ok (.ifCond .ne 27, 3) := by decide +kernel
theorem dX9_soldLine_41 : decode cX9_soldLine 41 = .ok (.aload_n 0, 1) := by decide +kernel
theorem dX9_soldLine_42 : decode cX9_soldLine 42 = .ok (.getfield 43, 3) := by decide +kernel
theorem dX9_soldLine_45 : decode cX9_soldLine 45 = .ok (.bipush 56, 2) := by decide +kernel
theorem dX9_soldLine_47 : decode cX9_soldLine 47 = .ok (.iaload, 1) := by decide +kernel
theorem dX9_soldLine_48 : decode cX9_soldLine 48 = .ok (.iload_n 2, 1) := by decide +kernel
theorem dX9_soldLine_49 : decode cX9_soldLine 49 = .ok (.iadd, 1) := by decide +kernel
theorem dX9_soldLine_50 : decode cX9_soldLine 50 = .ok (.iload_n 3, 1) := by decide +kernel
theorem dX9_soldLine_51 : decode cX9_soldLine 51 = .ok (.isub, 1) := by decide +kernel
theorem dX9_soldLine_52 : decode cX9_soldLine 52 = .ok (.ldc 240, 2) := by decide +kernel
theorem dX9_soldLine_54 : decode cX9_soldLine 54 = .ok (.if_icmp .le 11, 3) := by decide +kernel
theorem dX9_soldLine_57 : decode cX9_soldLine 57 = .ok (.aload_n 0, 1) := by decide +kernel
theorem dX9_soldLine_58 : decode cX9_soldLine 58 = .ok (.aload_n 0, 1) := by decide +kernel
theorem dX9_soldLine_59 : decode cX9_soldLine 59 = .ok (.getfield 147, 3) := by decide +kernel
theorem dX9_soldLine_62 : decode cX9_soldLine 62 = .ok (.invokevirtual 137, 3) := by decide +kernel
theorem dX9_soldLine_65 : decode cX9_soldLine 65 = .ok (.aload_n 0, 1) := by decide +kernel
theorem dX9_soldLine_66 : decode cX9_soldLine 66 = .ok (.invokevirtual 114, 3) := by decide +kernel
theorem dX9_soldLine_69 : decode cX9_soldLine 69 = .ok (.ifCond .eq 4, 3) := by decide +kernel
theorem dX9_soldLine_72 : decode cX9_soldLine 72 = .ok (.return_, 1) := by decide +kernel
theorem dX9_soldLine_73 : decode cX9_soldLine 73 = .ok (.aload_n 0, 1) := by decide +kernel
theorem dX9_soldLine_74 : decode cX9_soldLine 74 = .ok (.getfield 43, 3) := by decide +kernel
theorem dX9_soldLine_77 : decode cX9_soldLine 77 = .ok (.bipush 56, 2) := by decide +kernel
theorem dX9_soldLine_79 : decode cX9_soldLine 79 = .ok (.dup2, 1) := by decide +kernel
theorem dX9_soldLine_80 : decode cX9_soldLine 80 = .ok (.iaload, 1) := by decide +kernel
theorem dX9_soldLine_81 : decode cX9_soldLine 81 = .ok (.iload_n 2, 1) := by decide +kernel
theorem dX9_soldLine_82 : decode cX9_soldLine 82 = .ok (.iload_n 3, 1) := by decide +kernel
theorem dX9_soldLine_83 : decode cX9_soldLine 83 = .ok (.isub, 1) := by decide +kernel
theorem dX9_soldLine_84 : decode cX9_soldLine 84 = .ok (.iadd, 1) := by decide +kernel
theorem dX9_soldLine_85 : decode cX9_soldLine 85 = .ok (.iastore, 1) := by decide +kernel
theorem dX9_soldLine_86 : decode cX9_soldLine 86 = .ok (.aload_n 0, 1) := by decide +kernel
theorem dX9_soldLine_87 : decode cX9_soldLine 87 = .ok (.getfield 43, 3) := by decide +kernel
theorem dX9_soldLine_90 : decode cX9_soldLine 90 = .ok (.iconst 0, 1) := by decide +kernel
theorem dX9_soldLine_91 : decode cX9_soldLine 91 = .ok (.iconst 4, 1) := by decide +kernel
theorem dX9_soldLine_92 : decode cX9_soldLine 92 = .ok (.iload_n 1, 1) := by decide +kernel
theorem dX9_soldLine_93 : decode cX9_soldLine 93 = .ok (.imul, 1) := by decide +kernel
theorem dX9_soldLine_94 : decode cX9_soldLine 94 = .ok (.iadd, 1) := by decide +kernel
theorem dX9_soldLine_95 : decode cX9_soldLine 95 = .ok (.iconst 1, 1) := by decide +kernel
theorem dX9_soldLine_96 : decode cX9_soldLine 96 = .ok (.iadd, 1) := by decide +kernel
theorem dX9_soldLine_97 : decode cX9_soldLine 97 = .ok (.iconst 1, 1) := by decide +kernel
theorem dX9_soldLine_98 : decode cX9_soldLine 98 = .ok (.iastore, 1) := by decide +kernel
theorem dX9_soldLine_99 : decode cX9_soldLine 99 = .ok (.aload_n 0, 1) := by decide +kernel
theorem dX9_soldLine_100 : decode cX9_soldLine 100 = .ok (.getfield 43, 3) := by decide +kernel
theorem dX9_soldLine_103 : decode cX9_soldLine 103 = .ok (.iconst 0, 1) := by decide +kernel
theorem dX9_soldLine_104 : decode cX9_soldLine 104 = .ok (.iconst 4, 1) := by decide +kernel
theorem dX9_soldLine_105 : decode cX9_soldLine 105 = .ok (.iload_n 1, 1) := by decide +kernel
theorem dX9_soldLine_106 : decode cX9_soldLine 106 = .ok (.imul, 1) := by decide +kernel
theorem dX9_soldLine_107 : decode cX9_soldLine 107 = .ok (.iadd, 1) := by decide +kernel
theorem dX9_soldLine_108 : decode cX9_soldLine 108 = .ok (.iconst 2, 1) := by decide +kernel
theorem dX9_soldLine_109 : decode cX9_soldLine 109 = .ok (.iadd, 1) := by decide +kernel
theorem dX9_soldLine_110 : decode cX9_soldLine 110 = .ok (.iload_n 2, 1) := by decide +kernel
theorem dX9_soldLine_111 : decode cX9_soldLine 111 = .ok (.iastore, 1) := by decide +kernel
theorem dX9_soldLine_112 : decode cX9_soldLine 112 = .ok (.aload_n 0, 1) := by decide +kernel
theorem dX9_soldLine_113 : decode cX9_soldLine 113 = .ok (.getfield 43, 3) := by decide +kernel
theorem dX9_soldLine_116 : decode cX9_soldLine 116 = .ok (.iconst 0, 1) := by decide +kernel
theorem dX9_soldLine_117 : decode cX9_soldLine 117 = .ok (.iconst 4, 1) := by decide +kernel
theorem dX9_soldLine_118 : decode cX9_soldLine 118 = .ok (.iload_n 1, 1) := by decide +kernel
theorem dX9_soldLine_119 : decode cX9_soldLine 119 = .ok (.imul, 1) := by decide +kernel
theorem dX9_soldLine_120 : decode cX9_soldLine 120 = .ok (.iadd, 1) := by decide +kernel
theorem dX9_soldLine_121 : decode cX9_soldLine 121 = .ok (.iconst 3, 1) := by decide +kernel
theorem dX9_soldLine_122 : decode cX9_soldLine 122 = .ok (.iadd, 1) := by decide +kernel
theorem dX9_soldLine_123 : decode cX9_soldLine 123 = .ok (.iload_n 3, 1) := by decide +kernel
theorem dX9_soldLine_124 : decode cX9_soldLine 124 = .ok (.iastore, 1) := by decide +kernel
theorem dX9_soldLine_125 : decode cX9_soldLine 125 = .ok (.return_, 1) := by decide +kernel
theorem dX9_lostLine_0 : decode cX9_lostLine 0 = .ok (.aload_n 0, 1) := by decide +kernel
theorem dX9_lostLine_1 : decode cX9_lostLine 1 = .ok (.ldc 182, 2) := by decide +kernel
theorem dX9_lostLine_3 : decode cX9_lostLine 3 = .ok (.invokevirtual 221, 3) := by decide +kernel
theorem dX9_lostLine_6 : decode cX9_lostLine 6 = .ok (.aload_n 0, 1) := by decide +kernel
theorem dX9_lostLine_7 : decode cX9_lostLine 7 = .ok (.iconst 3, 1) := by decide +kernel
theorem dX9_lostLine_8 : decode cX9_lostLine 8 = .ok (.invokevirtual 236, 3) := by decide +kernel
theorem dX9_lostLine_11 : decode cX9_lostLine 11 = .ok (.istore_n 1, 1) := by decide +kernel
theorem dX9_lostLine_12 : decode cX9_lostLine 12 = .ok (.aload_n 0, 1) := by decide +kernel
theorem dX9_lostLine_13 : decode cX9_lostLine 13 = .ok (.ldc 184, 2) := by decide +kernel
theorem dX9_lostLine_15 : decode cX9_lostLine 15 = .ok (.invokevirtual 221, 3) := by decide +kernel
theorem dX9_lostLine_18 : decode cX9_lostLine 18 = .ok (.aload_n 0, 1) := by decide +kernel
theorem dX9_lostLine_19 : decode cX9_lostLine 19 = .ok (.iconst 0, 1) := by decide +kernel
theorem dX9_lostLine_20 : decode cX9_lostLine 20 = .ok (.sipush 9999, 3) := by decide +kernel
theorem dX9_lostLine_23 : decode cX9_lostLine 23 = .ok (.invokevirtual 229, 3) := by decide +kernel
theorem dX9_lostLine_26 : decode cX9_lostLine 26 = .ok (.istore_n 2, 1) := by decide +kernel
theorem dX9_lostLine_27 : decode cX9_lostLine 27 = .ok (.aload_n 0, 1) := by decide +kernel
theorem dX9_lostLine_28 : decode cX9_lostLine 28 = .ok (.invokevirtual 114, 3) := by decide +kernel
theorem dX9_lostLine_31 : decode cX9_lostLine 31 = .ok (.ifCond .eq 4, 3) := by decide +kernel
theorem dX9_lostLine_34 : decode cX9_lostLine 34 = .ok (.return_, 1) := by decide +kernel
theorem dX9_lostLine_35 : decode cX9_lostLine 35 = .ok (.aload_n 0, 1) := by decide +kernel
theorem dX9_lostLine_36 : decode cX9_lostLine 36 = .ok (.getfield 43, 3) := by decide +kernel
theorem dX9_lostLine_39 : decode cX9_lostLine 39 = .ok (.iconst 0, 1) := by decide +kernel
theorem dX9_lostLine_40 : decode cX9_lostLine 40 = .ok (.iconst 4, 1) := by decide +kernel
theorem dX9_lostLine_41 : decode cX9_lostLine 41 = .ok (.iload_n 1, 1) := by decide +kernel
theorem dX9_lostLine_42 : decode cX9_lostLine 42 = .ok (.imul, 1) := by decide +kernel
theorem dX9_lostLine_43 : decode cX9_lostLine 43 = .ok (.iadd, 1) := by decide +kernel
theorem dX9_lostLine_44 : decode cX9_lostLine 44 = .ok (.iconst 1, 1) := by decide +kernel
theorem dX9_lostLine_45 : decode cX9_lostLine 45 = .ok (.iadd, 1) := by decide +kernel
theorem dX9_lostLine_46 : decode cX9_lostLine 46 = .ok (.iconst 2, 1) := by decide +kernel
theorem dX9_lostLine_47 : decode cX9_lostLine 47 = .ok (.iastore, 1) := by decide +kernel
theorem dX9_lostLine_48 : decode cX9_lostLine 48 = .ok (.aload_n 0, 1) := by decide +kernel
theorem dX9_lostLine_49 : decode cX9_lostLine 49 = .ok (.getfield 43, 3) := by decide +kernel
theorem dX9_lostLine_52 : decode cX9_lostLine 52 = .ok (.iconst 0, 1) := by decide +kernel
theorem dX9_lostLine_53 : decode cX9_lostLine 53 = .ok (.iconst 4, 1) := by decide +kernel
theorem dX9_lostLine_54 : decode cX9_lostLine 54 = .ok (.iload_n 1, 1) := by decide +kernel
theorem dX9_lostLine_55 : decode cX9_lostLine 55 = .ok (.imul, 1) := by decide +kernel
theorem dX9_lostLine_56 : decode cX9_lostLine 56 = .ok (.iadd, 1) := by decide +kernel
theorem dX9_lostLine_57 : decode cX9_lostLine 57 = .ok (.iconst 3, 1) := by decide +kernel
theorem dX9_lostLine_58 : decode cX9_lostLine 58 = .ok (.iadd, 1) := by decide +kernel
theorem dX9_lostLine_59 : decode cX9_lostLine 59 = .ok (.iload_n 2, 1) := by decide +kernel
theorem dX9_lostLine_60 : decode cX9_lostLine 60 = .ok (.iastore, 1) := by decide +kernel
theorem dX9_lostLine_61 : decode cX9_lostLine 61 = .ok (.return_, 1) := by decide +kernel
theorem dX9_deadLine_0 : decode cX9_deadLine 0 = .ok (.aload_n 0, 1) := by decide +kernel
theorem dX9_deadLine_1 : decode cX9_deadLine 1 = .ok (.ldc 186, 2) := by decide +kernel
theorem dX9_deadLine_3 : decode cX9_deadLine 3 = .ok (.invokevirtual 221, 3) := by decide +kernel
theorem dX9_deadLine_6 : decode cX9_deadLine 6 = .ok (.aload_n 0, 1) := by decide +kernel
theorem dX9_deadLine_7 : decode cX9_deadLine 7 = .ok (.getfield 104, 3) := by decide +kernel
theorem dX9_deadLine_10 : decode cX9_deadLine 10 = .ok (.istore_n 1, 1) := by decide +kernel
theorem dX9_deadLine_11 : decode cX9_deadLine 11 = .ok (.aload_n 0, 1) := by decide +kernel

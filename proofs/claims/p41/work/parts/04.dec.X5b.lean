theorem dX5_partByWeights_49 : decode cX5_partByWeights 49 = .ok (.aload_n 0, 1) := by decide +kernel
theorem dX5_partByWeights_50 : decode cX5_partByWeights 50 = .ok (.getfield 46, 3) := by decide +kernel
theorem dX5_partByWeights_53 : decode cX5_partByWeights 53 = .ok (.getfield 63, 3) := by decide +kernel
theorem dX5_partByWeights_56 : decode cX5_partByWeights 56 = .ok (.if_icmp .ge 61, 3) := by decide +kernel
theorem dX5_partByWeights_59 : decode cX5_partByWeights 59 = .ok (.aload_n 0, 1) := by decide +kernel
theorem dX5_partByWeights_60 : decode cX5_partByWeights 60 = .ok (.getfield 36, 3) := by decide +kernel
theorem dX5_partByWeights_63 : decode cX5_partByWeights 63 = .ok (.iload 6, 2) := by decide +kernel
theorem dX5_partByWeights_65 : decode cX5_partByWeights 65 = .ok (.iaload, 1) := by decide +kernel
theorem dX5_partByWeights_66 : decode cX5_partByWeights 66 = .ok (.i2l, 1) := by decide +kernel
theorem dX5_partByWeights_67 : decode cX5_partByWeights 67 = .ok (.iload_n 2, 1) := by decide +kernel
theorem dX5_partByWeights_68 : decode cX5_partByWeights 68 = .ok (.i2l, 1) := by decide +kernel
theorem dX5_partByWeights_69 : decode cX5_partByWeights 69 = .ok (.lmul, 1) := by decide +kernel
theorem dX5_partByWeights_70 : decode cX5_partByWeights 70 = .ok (.lstore 7, 2) := by decide +kernel
theorem dX5_partByWeights_72 : decode cX5_partByWeights 72 = .ok (.aload_n 0, 1) := by decide +kernel
theorem dX5_partByWeights_73 : decode cX5_partByWeights 73 = .ok (.getfield 27, 3) := by decide +kernel
theorem dX5_partByWeights_76 : decode cX5_partByWeights 76 = .ok (.iload 6, 2) := by decide +kernel
theorem dX5_partByWeights_78 : decode cX5_partByWeights 78 = .ok (.aaload, 1) := by decide +kernel
theorem dX5_partByWeights_79 : decode cX5_partByWeights 79 = .ok (.iload_n 1, 1) := by decide +kernel
theorem dX5_partByWeights_80 : decode cX5_partByWeights 80 = .ok (.lload 7, 2) := by decide +kernel
theorem dX5_partByWeights_82 : decode cX5_partByWeights 82 = .ok (.lload_n 3, 1) := by decide +kernel
theorem dX5_partByWeights_83 : decode cX5_partByWeights 83 = .ok (.ldiv, 1) := by decide +kernel
theorem dX5_partByWeights_84 : decode cX5_partByWeights 84 = .ok (.l2i, 1) := by decide +kernel
theorem dX5_partByWeights_85 : decode cX5_partByWeights 85 = .ok (.iastore, 1) := by decide +kernel
theorem dX5_partByWeights_86 : decode cX5_partByWeights 86 = .ok (.aload_n 0, 1) := by decide +kernel
theorem dX5_partByWeights_87 : decode cX5_partByWeights 87 = .ok (.getfield 39, 3) := by decide +kernel
theorem dX5_partByWeights_90 : decode cX5_partByWeights 90 = .ok (.iload 6, 2) := by decide +kernel
theorem dX5_partByWeights_92 : decode cX5_partByWeights 92 = .ok (.lload 7, 2) := by decide +kernel
theorem dX5_partByWeights_94 : decode cX5_partByWeights 94 = .ok (.lload_n 3, 1) := by decide +kernel
theorem dX5_partByWeights_95 : decode cX5_partByWeights 95 = .ok (.lrem, 1) := by decide +kernel
theorem dX5_partByWeights_96 : decode cX5_partByWeights 96 = .ok (.lastore, 1) := by decide +kernel
theorem dX5_partByWeights_97 : decode cX5_partByWeights 97 = .ok (.iload 5, 2) := by decide +kernel
theorem dX5_partByWeights_99 : decode cX5_partByWeights 99 = .ok (.aload_n 0, 1) := by decide +kernel
theorem dX5_partByWeights_100 : decode cX5_partByWeights 100 = .ok (.getfield 27, 3) := by decide +kernel
theorem dX5_partByWeights_103 : decode cX5_partByWeights 103 = .ok (.iload 6, 2) := by decide +kernel
theorem dX5_partByWeights_105 : decode cX5_partByWeights 105 = .ok (.aaload, 1) := by decide +kernel
theorem dX5_partByWeights_106 : decode cX5_partByWeights 106 = .ok (.iload_n 1, 1) := by decide +kernel
theorem dX5_partByWeights_107 : decode cX5_partByWeights 107 = .ok (.iaload, 1) := by decide +kernel
theorem dX5_partByWeights_108 : decode cX5_partByWeights 108 = .ok (.isub, 1) := by decide +kernel
theorem dX5_partByWeights_109 : decode cX5_partByWeights 109 = .ok (.istore 5, 2) := by decide +kernel
theorem dX5_partByWeights_111 : decode cX5_partByWeights 111 = .ok (.iinc 6 1, 3) := by decide +kernel
theorem dX5_partByWeights_114 : decode cX5_partByWeights 114 = .ok (.goto (-67), 3) := by decide +kernel
theorem dX5_partByWeights_117 : decode cX5_partByWeights 117 = .ok (.iconst 0, 1) := by decide +kernel
theorem dX5_partByWeights_118 : decode cX5_partByWeights 118 = .ok (.istore 6, 2) := by decide +kernel
theorem dX5_partByWeights_120 : decode cX5_partByWeights 120 = .ok (.iload 6, 2) := by decide +kernel
theorem dX5_partByWeights_122 : decode cX5_partByWeights 122 = .ok (.iload 5, 2) := by decide +kernel
theorem dX5_partByWeights_124 : decode cX5_partByWeights 124 = .ok (.if_icmp .ge 36, 3) := by decide +kernel
theorem dX5_partByWeights_127 : decode cX5_partByWeights 127 = .ok (.aload_n 0, 1) := by decide +kernel
theorem dX5_partByWeights_128 : decode cX5_partByWeights 128 = .ok (.invokevirtual 207, 3) := by decide +kernel
theorem dX5_partByWeights_131 : decode cX5_partByWeights 131 = .ok (.istore 7, 2) := by decide +kernel
theorem dX5_partByWeights_133 : decode cX5_partByWeights 133 = .ok (.aload_n 0, 1) := by decide +kernel
theorem dX5_partByWeights_134 : decode cX5_partByWeights 134 = .ok (.getfield 27, 3) := by decide +kernel
theorem dX5_partByWeights_137 : decode cX5_partByWeights 137 = .ok (.iload 7, 2) := by decide +kernel
theorem dX5_partByWeights_139 : decode cX5_partByWeights 139 = .ok (.aaload, 1) := by decide +kernel
theorem dX5_partByWeights_140 : decode cX5_partByWeights 140 = .ok (.iload_n 1, 1) := by decide +kernel
theorem dX5_partByWeights_141 : decode cX5_partByWeights 141 = .ok (.dup2, 1) := by decide +kernel
theorem dX5_partByWeights_142 : decode cX5_partByWeights 142 = .ok (.iaload, 1) := by decide +kernel
theorem dX5_partByWeights_143 : decode cX5_partByWeights 143 = .ok (.iconst 1, 1) := by decide +kernel
theorem dX5_partByWeights_144 : decode cX5_partByWeights 144 = .ok (.iadd, 1) := by decide +kernel
theorem dX5_partByWeights_145 : decode cX5_partByWeights 145 = .ok (.iastore, 1) := by decide +kernel
theorem dX5_partByWeights_146 : decode cX5_partByWeights 146 = .ok (.aload_n 0, 1) := by decide +kernel
theorem dX5_partByWeights_147 : decode cX5_partByWeights 147 = .ok (.getfield 39, 3) := by decide +kernel
theorem dX5_partByWeights_150 : decode cX5_partByWeights 150 = .ok (.iload 7, 2) := by decide +kernel
theorem dX5_partByWeights_152 : decode cX5_partByWeights 152 = .ok (.lconst 0, 1) := by decide +kernel
theorem dX5_partByWeights_153 : decode cX5_partByWeights 153 = .ok (.lastore, 1) := by decide +kernel
theorem dX5_partByWeights_154 : decode cX5_partByWeights 154 = .ok (.iinc 6 1, 3) := by decide +kernel
theorem dX5_partByWeights_157 : decode cX5_partByWeights 157 = .ok (.goto (-37), 3) := by decide +kernel
theorem dX5_partByWeights_160 : decode cX5_partByWeights 160 = .ok (.return_, 1) := by decide +kernel
theorem dX5_greatestRest_0 : decode cX5_greatestRest 0 = .ok (.iconst 0, 1) := by decide +kernel
theorem dX5_greatestRest_1 : decode cX5_greatestRest 1 = .ok (.istore_n 1, 1) := by decide +kernel
theorem dX5_greatestRest_2 : decode cX5_greatestRest 2 = .ok (.iconst 1, 1) := by decide +kernel
theorem dX5_greatestRest_3 : decode cX5_greatestRest 3 = .ok (.istore_n 2, 1) := by decide +kernel
theorem dX5_greatestRest_4 : decode cX5_greatestRest 4 = .ok (.iload_n 2, 1) := by decide +kernel
theorem dX5_greatestRest_5 : decode cX5_greatestRest 5 = .ok (.aload_n 0, 1) := by decide +kernel
theorem dX5_greatestRest_6 : decode cX5_greatestRest 6 = .ok (.getfield 46, 3) := by decide +kernel
theorem dX5_greatestRest_9 : decode cX5_greatestRest 9 = .ok (.getfield 63, 3) := by decide +kernel
theorem dX5_greatestRest_12 : decode cX5_greatestRest 12 = .ok (.if_icmp .ge 27, 3) := by decide +kernel
theorem dX5_greatestRest_15 : decode cX5_greatestRest 15 = .ok (.aload_n 0, 1) := by decide +kernel
theorem dX5_greatestRest_16 : decode cX5_greatestRest 16 = .ok (.getfield 39, 3) := by decide +kernel
theorem dX5_greatestRest_19 : decode cX5_greatestRest 19 = .ok (.iload_n 2, 1) := by decide +kernel
theorem dX5_greatestRest_20 : decode cX5_greatestRest 20 = .ok (.laload, 1) := by decide +kernel
theorem dX5_greatestRest_21 : decode cX5_greatestRest 21 = .ok (.aload_n 0, 1) := by decide +kernel
theorem dX5_greatestRest_22 : decode cX5_greatestRest 22 = .ok (.getfield 39, 3) := by decide +kernel
theorem dX5_greatestRest_25 : decode cX5_greatestRest 25 = .ok (.iload_n 1, 1) := by decide +kernel
theorem dX5_greatestRest_26 : decode cX5_greatestRest 26 = .ok (.laload, 1) := by decide +kernel
theorem dX5_greatestRest_27 : decode cX5_greatestRest 27 = .ok (.lcmp, 1) := by decide +kernel
theorem dX5_greatestRest_28 : decode cX5_greatestRest 28 = .ok (.ifCond .le 5, 3) := by decide +kernel
theorem dX5_greatestRest_31 : decode cX5_greatestRest 31 = .ok (.iload_n 2, 1) := by decide +kernel
theorem dX5_greatestRest_32 : decode cX5_greatestRest 32 = .ok (.istore_n 1, 1) := by decide +kernel
theorem dX5_greatestRest_33 : decode cX5_greatestRest 33 = .ok (.iinc 2 1, 3) := by decide +kernel
theorem dX5_greatestRest_36 : decode cX5_greatestRest 36 = .ok (.goto (-32), 3) := by decide +kernel
theorem dX5_greatestRest_39 : decode cX5_greatestRest 39 = .ok (.iload_n 1, 1) := by decide +kernel
theorem dX5_greatestRest_40 : decode cX5_greatestRest 40 = .ok (.ireturn, 1) := by decide +kernel
theorem dX5_passGifts_0 : decode cX5_passGifts 0 = .ok (.iconst 0, 1) := by decide +kernel
theorem dX5_passGifts_1 : decode cX5_passGifts 1 = .ok (.istore_n 1, 1) := by decide +kernel
theorem dX5_passGifts_2 : decode cX5_passGifts 2 = .ok (.iload_n 1, 1) := by decide +kernel
theorem dX5_passGifts_3 : decode cX5_passGifts 3 = .ok (.aload_n 0, 1) := by decide +kernel
theorem dX5_passGifts_4 : decode cX5_passGifts 4 = .ok (.getfield 46, 3) := by decide +kernel
theorem dX5_passGifts_7 : decode cX5_passGifts 7 = .ok (.getfield 63, 3) := by decide +kernel
theorem dX5_passGifts_10 : decode cX5_passGifts 10 = .ok (.if_icmp .ge 61, 3) := by decide +kernel
theorem dX5_passGifts_13 : decode cX5_passGifts 13 = .ok (.iconst 0, 1) := by decide +kernel
theorem dX5_passGifts_14 : decode cX5_passGifts 14 = .ok (.istore_n 2, 1) := by decide +kernel
theorem dX5_passGifts_15 : decode cX5_passGifts 15 = .ok (.iload_n 2, 1) := by decide +kernel
theorem dX5_passGifts_16 : decode cX5_passGifts 16 = .ok (.bipush 7, 2) := by decide +kernel
theorem dX5_passGifts_18 : decode cX5_passGifts 18 = .ok (.if_icmp .ge 47, 3) := by decide +kernel
theorem dX5_passGifts_21 : decode cX5_passGifts 21 = .ok (.aload_n 0, 1) := by decide +kernel
theorem dX5_passGifts_22 : decode cX5_passGifts 22 = .ok (.getfield 27, 3) := by decide +kernel
theorem dX5_passGifts_25 : decode cX5_passGifts 25 = .ok (.iload_n 1, 1) := by decide +kernel
theorem dX5_passGifts_26 : decode cX5_passGifts 26 = .ok (.aaload, 1) := by decide +kernel
theorem dX5_passGifts_27 : decode cX5_passGifts 27 = .ok (.iload_n 2, 1) := by decide +kernel
theorem dX5_passGifts_28 : decode cX5_passGifts 28 = .ok (.iaload, 1) := by decide +kernel
theorem dX5_passGifts_29 : decode cX5_passGifts 29 = .ok (.ifCond .le 30, 3) := by decide +kernel
theorem dX5_passGifts_32 : decode cX5_passGifts 32 = .ok (.aload_n 0, 1) := by decide +kernel
theorem dX5_passGifts_33 : decode cX5_passGifts 33 = .ok (.aload_n 0, 1) := by decide +kernel
theorem dX5_passGifts_34 : decode cX5_passGifts 34 = .ok (.getfield 27, 3) := by decide +kernel
theorem dX5_passGifts_37 : decode cX5_passGifts 37 = .ok (.iload_n 1, 1) := by decide +kernel
theorem dX5_passGifts_38 : decode cX5_passGifts 38 = .ok (.aaload, 1) := by decide +kernel
theorem dX5_passGifts_39 : decode cX5_passGifts 39 = .ok (.iload_n 2, 1) := by decide +kernel
theorem dX5_passGifts_40 : decode cX5_passGifts 40 = .ok (.iaload, 1) := by decide +kernel
theorem dX5_passGifts_41 : decode cX5_passGifts 41 = .ok (.aload_n 0, 1) := by decide +kernel
theorem dX5_passGifts_42 : decode cX5_passGifts 42 = .ok (.getfield 46, 3) := by decide +kernel
theorem dX5_passGifts_45 : decode cX5_passGifts 45 = .ok (.getfield 130, 3) := by decide +kernel
theorem dX5_passGifts_48 : decode cX5_passGifts 48 = .ok (.iload_n 1, 1) := by decide +kernel
theorem dX5_passGifts_49 : decode cX5_passGifts 49 = .ok (.iaload, 1) := by decide +kernel
theorem dX5_passGifts_50 : decode cX5_passGifts 50 = .ok (.aload_n 0, 1) := by decide +kernel
theorem dX5_passGifts_51 : decode cX5_passGifts 51 = .ok (.getfield 30, 3) := by decide +kernel
theorem dX5_passGifts_54 : decode cX5_passGifts 54 = .ok (.iload_n 1, 1) := by decide +kernel
theorem dX5_passGifts_55 : decode cX5_passGifts 55 = .ok (.aaload, 1) := by decide +kernel
theorem dX5_passGifts_56 : decode cX5_passGifts 56 = .ok (.invokevirtual 211, 3) := by decide +kernel
theorem dX5_passGifts_59 : decode cX5_passGifts 59 = .ok (.iinc 2 1, 3) := by decide +kernel
theorem dX5_passGifts_62 : decode cX5_passGifts 62 = .ok (.goto (-47), 3) := by decide +kernel
theorem dX5_passGifts_65 : decode cX5_passGifts 65 = .ok (.iinc 1 1, 3) := by decide +kernel
theorem dX5_passGifts_68 : decode cX5_passGifts 68 = .ok (.goto (-66), 3) := by decide +kernel
theorem dX5_passGifts_71 : decode cX5_passGifts 71 = .ok (.return_, 1) := by decide +kernel
theorem dX5_passIntestate_0 : decode cX5_passIntestate 0 = .ok (.aload_n 0, 1) := by decide +kernel
theorem dX5_passIntestate_1 : decode cX5_passIntestate 1 = .ok (.getfield 104, 3) := by decide +kernel
theorem dX5_passIntestate_4 : decode cX5_passIntestate 4 = .ok (.ifCond .ne 4, 3) := by decide +kernel
theorem dX5_passIntestate_7 : decode cX5_passIntestate 7 = .ok (.return_, 1) := by decide +kernel
theorem dX5_passIntestate_8 : decode cX5_passIntestate 8 = .ok (.aload_n 0, 1) := by decide +kernel
theorem dX5_passIntestate_9 : decode cX5_passIntestate 9 = .ok (.getfield 95, 3) := by decide +kernel
theorem dX5_passIntestate_12 : decode cX5_passIntestate 12 = .ok (.aload_n 0, 1) := by decide +kernel
theorem dX5_passIntestate_13 : decode cX5_passIntestate 13 = .ok (.getfield 104, 3) := by decide +kernel
theorem dX5_passIntestate_16 : decode cX5_passIntestate 16 = .ok (.idiv, 1) := by decide +kernel
theorem dX5_passIntestate_17 : decode cX5_passIntestate 17 = .ok (.istore_n 1, 1) := by decide +kernel
theorem dX5_passIntestate_18 : decode cX5_passIntestate 18 = .ok (.aload_n 0, 1) := by decide +kernel
theorem dX5_passIntestate_19 : decode cX5_passIntestate 19 = .ok (.getfield 95, 3) := by decide +kernel
theorem dX5_passIntestate_22 : decode cX5_passIntestate 22 = .ok (.aload_n 0, 1) := by decide +kernel
theorem dX5_passIntestate_23 : decode cX5_passIntestate 23 = .ok (.getfield 104, 3) := by decide +kernel
theorem dX5_passIntestate_26 : decode cX5_passIntestate 26 = .ok (.irem, 1) := by decide +kernel
theorem dX5_passIntestate_27 : decode cX5_passIntestate 27 = .ok (.istore_n 2, 1) := by decide +kernel
theorem dX5_passIntestate_28 : decode cX5_passIntestate 28 = .ok (.iconst 0, 1) := by decide +kernel
theorem dX5_passIntestate_29 : decode cX5_passIntestate 29 = .ok (.istore_n 3, 1) := by decide +kernel
theorem dX5_passIntestate_30 : decode cX5_passIntestate 30 = .ok (.iload_n 3, 1) := by decide +kernel
theorem dX5_passIntestate_31 : decode cX5_passIntestate 31 = .ok (.aload_n 0, 1) := by decide +kernel
theorem dX5_passIntestate_32 : decode cX5_passIntestate 32 = .ok (.getfield 46, 3) := by decide +kernel
theorem dX5_passIntestate_35 : decode cX5_passIntestate 35 = .ok (.getfield 107, 3) := by decide +kernel
theorem dX5_passIntestate_38 : decode cX5_passIntestate 38 = .ok (.getfield 111, 3) := by decide +kernel
theorem dX5_passIntestate_41 : decode cX5_passIntestate 41 = .ok (.if_icmp .ge 40, 3) := by decide +kernel
theorem dX5_passIntestate_44 : decode cX5_passIntestate 44 = .ok (.aload_n 0, 1) := by decide +kernel
theorem dX5_passIntestate_45 : decode cX5_passIntestate 45 = .ok (.iload_n 3, 1) := by decide +kernel
theorem dX5_passIntestate_46 : decode cX5_passIntestate 46 = .ok (.invokevirtual 124, 3) := by decide +kernel
theorem dX5_passIntestate_49 : decode cX5_passIntestate 49 = .ok (.ifCond .eq 26, 3) := by decide +kernel
theorem dX5_passIntestate_52 : decode cX5_passIntestate 52 = .ok (.aload_n 0, 1) := by decide +kernel
theorem dX5_passIntestate_53 : decode cX5_passIntestate 53 = .ok (.iload_n 2, 1) := by decide +kernel
theorem dX5_passIntestate_54 : decode cX5_passIntestate 54 = .ok (.ifCond .le 9, 3) := by decide +kernel
theorem dX5_passIntestate_57 : decode cX5_passIntestate 57 = .ok (.iload_n 1, 1) := by decide +kernel
theorem dX5_passIntestate_58 : decode cX5_passIntestate 58 = .ok (.iconst 1, 1) := by decide +kernel
theorem dX5_passIntestate_59 : decode cX5_passIntestate 59 = .ok (.iadd, 1) := by decide +kernel
theorem dX5_passIntestate_60 : decode cX5_passIntestate 60 = .ok (.goto 4, 3) := by decide +kernel
theorem dX5_passIntestate_63 : decode cX5_passIntestate 63 = .ok (.iload_n 1, 1) := by decide +kernel
theorem dX5_passIntestate_64 : decode cX5_passIntestate 64 = .ok (.iload_n 3, 1) := by decide +kernel
theorem dX5_passIntestate_65 : decode cX5_passIntestate 65 = .ok (.aload_n 0, 1) := by decide +kernel
theorem dX5_passIntestate_66 : decode cX5_passIntestate 66 = .ok (.getfield 33, 3) := by decide +kernel
theorem dX5_passIntestate_69 : decode cX5_passIntestate 69 = .ok (.invokevirtual 211, 3) := by decide +kernel
theorem dX5_passIntestate_72 : decode cX5_passIntestate 72 = .ok (.iinc 2 (-1), 3) := by decide +kernel
theorem dX5_passIntestate_75 : decode cX5_passIntestate 75 = .ok (.iinc 3 1, 3) := by decide +kernel
theorem dX5_passIntestate_78 : decode cX5_passIntestate 78 = .ok (.goto (-48), 3) := by decide +kernel
theorem dX5_passIntestate_81 : decode cX5_passIntestate 81 = .ok (.return_, 1) := by decide +kernel
theorem dX5_passOn_0 : decode cX5_passOn 0 = .ok (.aload_n 0, 1) := by decide +kernel
theorem dX5_passOn_1 : decode cX5_passOn 1 = .ok (.getfield 43, 3) := by decide +kernel
theorem dX5_passOn_4 : decode cX5_passOn 4 = .ok (.iconst 0, 1) := by decide +kernel
theorem dX5_passOn_5 : decode cX5_passOn 5 = .ok (.invokestatic 89, 3) := by decide +kernel
theorem dX5_passOn_8 : decode cX5_passOn 8 = .ok (.aload_n 0, 1) := by decide +kernel
theorem dX5_passOn_9 : decode cX5_passOn 9 = .ok (.getfield 43, 3) := by decide +kernel
theorem dX5_passOn_12 : decode cX5_passOn 12 = .ok (.iload_n 2, 1) := by decide +kernel
theorem dX5_passOn_13 : decode cX5_passOn 13 = .ok (.iload_n 1, 1) := by decide +kernel
theorem dX5_passOn_14 : decode cX5_passOn 14 = .ok (.iastore, 1) := by decide +kernel
theorem dX5_passOn_15 : decode cX5_passOn 15 = .ok (.iload_n 2, 1) := by decide +kernel
theorem dX5_passOn_16 : decode cX5_passOn 16 = .ok (.istore 4, 2) := by decide +kernel
theorem dX5_passOn_18 : decode cX5_passOn 18 = .ok (.iload 4, 2) := by decide +kernel
theorem dX5_passOn_20 : decode cX5_passOn 20 = .ok (.aload_n 0, 1) := by decide +kernel
theorem dX5_passOn_21 : decode cX5_passOn 21 = .ok (.getfield 46, 3) := by decide +kernel
theorem dX5_passOn_24 : decode cX5_passOn 24 = .ok (.getfield 107, 3) := by decide +kernel
theorem dX5_passOn_27 : decode cX5_passOn 27 = .ok (.getfield 111, 3) := by decide +kernel
theorem dX5_passOn_30 : decode cX5_passOn 30 = .ok (.if_icmp .ge 54, 3) := by decide +kernel
theorem dX5_passOn_33 : decode cX5_passOn 33 = .ok (.aload_n 0, 1) := by decide +kernel
theorem dX5_passOn_34 : decode cX5_passOn 34 = .ok (.getfield 50, 3) := by decide +kernel
theorem dX5_passOn_37 : decode cX5_passOn 37 = .ok (.iload 4, 2) := by decide +kernel
theorem dX5_passOn_39 : decode cX5_passOn 39 = .ok (.invokevirtual 116, 3) := by decide +kernel
theorem dX5_passOn_42 : decode cX5_passOn 42 = .ok (.ifCond .ne 20, 3) := by decide +kernel
theorem dX5_passOn_45 : decode cX5_passOn 45 = .ok (.aload_n 3, 1) := by decide +kernel
theorem dX5_passOn_46 : decode cX5_passOn 46 = .ok (.iload 4, 2) := by decide +kernel
theorem dX5_passOn_48 : decode cX5_passOn 48 = .ok (.dup2, 1) := by decide +kernel
theorem dX5_passOn_49 : decode cX5_passOn 49 = .ok (.iaload, 1) := by decide +kernel
theorem dX5_passOn_50 : decode cX5_passOn 50 = .ok (.aload_n 0, 1) := by decide +kernel
theorem dX5_passOn_51 : decode cX5_passOn 51 = .ok (.getfield 43, 3) := by decide +kernel
theorem dX5_passOn_54 : decode cX5_passOn 54 = .ok (.iload 4, 2) := by decide +kernel
theorem dX5_passOn_56 : decode cX5_passOn 56 = .ok (.iaload, 1) := by decide +kernel
theorem dX5_passOn_57 : decode cX5_passOn 57 = .ok (.iadd, 1) := by decide +kernel
theorem dX5_passOn_58 : decode cX5_passOn 58 = .ok (.iastore, 1) := by decide +kernel
theorem dX5_passOn_59 : decode cX5_passOn 59 = .ok (.goto 19, 3) := by decide +kernel
theorem dX5_passOn_62 : decode cX5_passOn 62 = .ok (.aload_n 0, 1) := by decide +kernel
theorem dX5_passOn_63 : decode cX5_passOn 63 = .ok (.getfield 43, 3) := by decide +kernel
theorem dX5_passOn_66 : decode cX5_passOn 66 = .ok (.iload 4, 2) := by decide +kernel
theorem dX5_passOn_68 : decode cX5_passOn 68 = .ok (.iaload, 1) := by decide +kernel
theorem dX5_passOn_69 : decode cX5_passOn 69 = .ok (.ifCond .le 9, 3) := by decide +kernel
theorem dX5_passOn_72 : decode cX5_passOn 72 = .ok (.aload_n 0, 1) := by decide +kernel
theorem dX5_passOn_73 : decode cX5_passOn 73 = .ok (.iload 4, 2) := by decide +kernel
theorem dX5_passOn_75 : decode cX5_passOn 75 = .ok (.invokevirtual 215, 3) := by decide +kernel
theorem dX5_passOn_78 : decode cX5_passOn 78 = .ok (.iinc 4 1, 3) := by decide +kernel
theorem dX5_passOn_81 : decode cX5_passOn 81 = .ok (.goto (-63), 3) := by decide +kernel
theorem dX5_passOn_84 : decode cX5_passOn 84 = .ok (.return_, 1) := by decide +kernel
theorem dX5_passToIssue_0 : decode cX5_passToIssue 0 = .ok (.iconst 0, 1) := by decide +kernel
theorem dX5_passToIssue_1 : decode cX5_passToIssue 1 = .ok (.istore_n 2, 1) := by decide +kernel
theorem dX5_passToIssue_2 : decode cX5_passToIssue 2 = .ok (.iload_n 1, 1) := by decide +kernel
theorem dX5_passToIssue_3 : decode cX5_passToIssue 3 = .ok (.iconst 1, 1) := by decide +kernel
theorem dX5_passToIssue_4 : decode cX5_passToIssue 4 = .ok (.iadd, 1) := by decide +kernel
theorem dX5_passToIssue_5 : decode cX5_passToIssue 5 = .ok (.istore_n 3, 1) := by decide +kernel
theorem dX5_passToIssue_6 : decode cX5_passToIssue 6 = .ok (.iload_n 3, 1) := by decide +kernel
theorem dX5_passToIssue_7 : decode cX5_passToIssue 7 = .ok (.aload_n 0, 1) := by decide +kernel
theorem dX5_passToIssue_8 : decode cX5_passToIssue 8 = .ok (.getfield 46, 3) := by decide +kernel
theorem dX5_passToIssue_11 : decode cX5_passToIssue 11 = .ok (.getfield 107, 3) := by decide +kernel
theorem dX5_passToIssue_14 : decode cX5_passToIssue 14 = .ok (.getfield 111, 3) := by decide +kernel
theorem dX5_passToIssue_17 : decode cX5_passToIssue 17 = .ok (.if_icmp .ge 26, 3) := by decide +kernel
theorem dX5_passToIssue_20 : decode cX5_passToIssue 20 = .ok (.iload_n 2, 1) := by decide +kernel
theorem dX5_passToIssue_21 : decode cX5_passToIssue 21 = .ok (.aload_n 0, 1) := by decide +kernel
theorem dX5_passToIssue_22 : decode cX5_passToIssue 22 = .ok (.iload_n 3, 1) := by decide +kernel
theorem dX5_passToIssue_23 : decode cX5_passToIssue 23 = .ok (.iload_n 1, 1) := by decide +kernel
theorem dX5_passToIssue_24 : decode cX5_passToIssue 24 = .ok (.invokevirtual 218, 3) := by decide +kernel
theorem dX5_passToIssue_27 : decode cX5_passToIssue 27 = .ok (.ifCond .eq 7, 3) := by decide +kernel
theorem dX5_passToIssue_30 : decode cX5_passToIssue 30 = .ok (.iconst 1, 1) := by decide +kernel
theorem dX5_passToIssue_31 : decode cX5_passToIssue 31 = .ok (.goto 4, 3) := by decide +kernel
theorem dX5_passToIssue_34 : decode cX5_passToIssue 34 = .ok (.iconst 0, 1) := by decide +kernel
theorem dX5_passToIssue_35 : decode cX5_passToIssue 35 = .ok (.iadd, 1) := by decide +kernel
theorem dX5_passToIssue_36 : decode cX5_passToIssue 36 = .ok (.istore_n 2, 1) := by decide +kernel
theorem dX5_passToIssue_37 : decode cX5_passToIssue 37 = .ok (.iinc 3 1, 3) := by decide +kernel
theorem dX5_passToIssue_40 : decode cX5_passToIssue 40 = .ok (.goto (-34), 3) := by decide +kernel
theorem dX5_passToIssue_43 : decode cX5_passToIssue 43 = .ok (.iload_n 2, 1) := by decide +kernel
theorem dX5_passToIssue_44 : decode cX5_passToIssue 44 = .ok (.ifCond .ne 4, 3) := by decide +kernel
theorem dX5_passToIssue_47 : decode cX5_passToIssue 47 = .ok (.return_, 1) := by decide +kernel
theorem dX5_passToIssue_48 : decode cX5_passToIssue 48 = .ok (.aload_n 0, 1) := by decide +kernel
theorem dX5_passToIssue_49 : decode cX5_passToIssue 49 = .ok (.getfield 43, 3) := by decide +kernel
theorem dX5_passToIssue_52 : decode cX5_passToIssue 52 = .ok (.iload_n 1, 1) := by decide +kernel
theorem dX5_passToIssue_53 : decode cX5_passToIssue 53 = .ok (.iaload, 1) := by decide +kernel
theorem dX5_passToIssue_54 : decode cX5_passToIssue 54 = .ok (.iload_n 2, 1) := by decide +kernel
theorem dX5_passToIssue_55 : decode cX5_passToIssue 55 = .ok (.idiv, 1) := by decide +kernel
theorem dX5_passToIssue_56 : decode cX5_passToIssue 56 = .ok (.istore_n 3, 1) := by decide +kernel
theorem dX5_passToIssue_57 : decode cX5_passToIssue 57 = .ok (.aload_n 0, 1) := by decide +kernel
theorem dX5_passToIssue_58 : decode cX5_passToIssue 58 = .ok (.getfield 43, 3) := by decide +kernel
theorem dX5_passToIssue_61 : decode cX5_passToIssue 61 = .ok (.iload_n 1, 1) := by decide +kernel
theorem dX5_passToIssue_62 : decode cX5_passToIssue 62 = .ok (.iaload, 1) := by decide +kernel
theorem dX5_passToIssue_63 : decode cX5_passToIssue 63 = .ok (.iload_n 2, 1) := by decide +kernel
theorem dX5_passToIssue_64 : decode cX5_passToIssue 64 = .ok (.irem, 1) := by decide +kernel
theorem dX5_passToIssue_65 : decode cX5_passToIssue 65 = .ok (.istore 4, 2) := by decide +kernel
theorem dX5_passToIssue_67 : decode cX5_passToIssue 67 = .ok (.iload_n 1, 1) := by decide +kernel
theorem dX5_passToIssue_68 : decode cX5_passToIssue 68 = .ok (.iconst 1, 1) := by decide +kernel
theorem dX5_passToIssue_69 : decode cX5_passToIssue 69 = .ok (.iadd, 1) := by decide +kernel
theorem dX5_passToIssue_70 : decode cX5_passToIssue 70 = .ok (.istore 5, 2) := by decide +kernel
theorem dX5_passToIssue_72 : decode cX5_passToIssue 72 = .ok (.iload 5, 2) := by decide +kernel
theorem dX5_passToIssue_74 : decode cX5_passToIssue 74 = .ok (.aload_n 0, 1) := by decide +kernel
theorem dX5_passToIssue_75 : decode cX5_passToIssue 75 = .ok (.getfield 46, 3) := by decide +kernel
theorem dX5_passToIssue_78 : decode cX5_passToIssue 78 = .ok (.getfield 107, 3) := by decide +kernel
theorem dX5_passToIssue_81 : decode cX5_passToIssue 81 = .ok (.getfield 111, 3) := by decide +kernel
theorem dX5_passToIssue_84 : decode cX5_passToIssue 84 = .ok (.if_icmp .ge 41, 3) := by decide +kernel
theorem dX5_passToIssue_87 : decode cX5_passToIssue 87 = .ok (.aload_n 0, 1) := by decide +kernel
theorem dX5_passToIssue_88 : decode cX5_passToIssue 88 = .ok (.iload 5, 2) := by decide +kernel
theorem dX5_passToIssue_90 : decode cX5_passToIssue 90 = .ok (.iload_n 1, 1) := by decide +kernel
theorem dX5_passToIssue_91 : decode cX5_passToIssue 91 = .ok (.invokevirtual 218, 3) := by decide +kernel
theorem dX5_passToIssue_94 : decode cX5_passToIssue 94 = .ok (.ifCond .eq 25, 3) := by decide +kernel
theorem dX5_passToIssue_97 : decode cX5_passToIssue 97 = .ok (.aload_n 0, 1) := by decide +kernel
theorem dX5_passToIssue_98 : decode cX5_passToIssue 98 = .ok (.getfield 43, 3) := by decide +kernel
theorem dX5_passToIssue_101 : decode cX5_passToIssue 101 = .ok (.iload 5, 2) := by decide +kernel
theorem dX5_passToIssue_103 : decode cX5_passToIssue 103 = .ok (.iload 4, 2) := by decide +kernel
theorem dX5_passToIssue_105 : decode cX5_passToIssue 105 = .ok (.ifCond .le 9, 3) := by decide +kernel
theorem dX5_passToIssue_108 : decode cX5_passToIssue 108 = .ok (.iload_n 3, 1) := by decide +kernel
theorem dX5_passToIssue_109 : decode cX5_passToIssue 109 = .ok (.iconst 1, 1) := by decide +kernel
theorem dX5_passToIssue_110 : decode cX5_passToIssue 110 = .ok (.iadd, 1) := by decide +kernel
theorem dX5_passToIssue_111 : decode cX5_passToIssue 111 = .ok (.goto 4, 3) := by decide +kernel
theorem dX5_passToIssue_114 : decode cX5_passToIssue 114 = .ok (.iload_n 3, 1) := by decide +kernel
theorem dX5_passToIssue_115 : decode cX5_passToIssue 115 = .ok (.iastore, 1) := by decide +kernel
theorem dX5_passToIssue_116 : decode cX5_passToIssue 116 = .ok (.iinc 4 (-1), 3) := by decide +kernel
theorem dX5_passToIssue_119 : decode cX5_passToIssue 119 = .ok (.iinc 5 1, 3) := by decide +kernel
theorem dX5_passToIssue_122 : decode cX5_passToIssue 122 = .ok (.goto (-50), 3) := by decide +kernel
theorem dX5_passToIssue_125 : decode cX5_passToIssue 125 = .ok (.return_, 1) := by decide +kernel
theorem dX5_isLivingIssue_0 : decode cX5_isLivingIssue 0 = .ok (.aload_n 0, 1) := by decide +kernel
theorem dX5_isLivingIssue_1 : decode cX5_isLivingIssue 1 = .ok (.getfield 46, 3) := by decide +kernel
theorem dX5_isLivingIssue_4 : decode cX5_isLivingIssue 4 = .ok (.getfield 121, 3) := by decide +kernel
theorem dX5_isLivingIssue_7 : decode cX5_isLivingIssue 7 = .ok (.iload_n 1, 1) := by decide +kernel
theorem dX5_isLivingIssue_8 : decode cX5_isLivingIssue 8 = .ok (.iaload, 1) := by decide +kernel
theorem dX5_isLivingIssue_9 : decode cX5_isLivingIssue 9 = .ok (.iload_n 2, 1) := by decide +kernel
theorem dX5_isLivingIssue_10 : decode cX5_isLivingIssue 10 = .ok (.if_icmp .ne 16, 3) := by decide +kernel
theorem dX5_isLivingIssue_13 : decode cX5_isLivingIssue 13 = .ok (.aload_n 0, 1) := by decide +kernel
theorem dX5_isLivingIssue_14 : decode cX5_isLivingIssue 14 = .ok (.getfield 9, 3) := by decide +kernel
theorem dX5_isLivingIssue_17 : decode cX5_isLivingIssue 17 = .ok (.iload_n 1, 1) := by decide +kernel
theorem dX5_isLivingIssue_18 : decode cX5_isLivingIssue 18 = .ok (.iaload, 1) := by decide +kernel
theorem dX5_isLivingIssue_19 : decode cX5_isLivingIssue 19 = .ok (.ifCond .le 7, 3) := by decide +kernel
theorem dX5_isLivingIssue_22 : decode cX5_isLivingIssue 22 = .ok (.iconst 1, 1) := by decide +kernel
theorem dX5_isLivingIssue_23 : decode cX5_isLivingIssue 23 = .ok (.goto 4, 3) := by decide +kernel
theorem dX5_isLivingIssue_26 : decode cX5_isLivingIssue 26 = .ok (.iconst 0, 1) := by decide +kernel
theorem dX5_isLivingIssue_27 : decode cX5_isLivingIssue 27 = .ok (.ireturn, 1) := by decide +kernel
theorem dX5_gotIn_0 : decode cX5_gotIn 0 = .ok (.aload_n 0, 1) := by decide +kernel
theorem dX5_gotIn_1 : decode cX5_gotIn 1 = .ok (.getfield 27, 3) := by decide +kernel
theorem dX5_gotIn_4 : decode cX5_gotIn 4 = .ok (.iload_n 1, 1) := by decide +kernel
theorem dX5_gotIn_5 : decode cX5_gotIn 5 = .ok (.aaload, 1) := by decide +kernel
theorem dX5_gotIn_6 : decode cX5_gotIn 6 = .ok (.iload_n 2, 1) := by decide +kernel
theorem dX5_gotIn_7 : decode cX5_gotIn 7 = .ok (.iload_n 3, 1) := by decide +kernel
theorem dX5_gotIn_8 : decode cX5_gotIn 8 = .ok (.invokestatic 222, 3) := by decide +kernel
theorem dX5_gotIn_11 : decode cX5_gotIn 11 = .ok (.ireturn, 1) := by decide +kernel
theorem dX5_sumOf_0 : decode cX5_sumOf 0 = .ok (.iconst 0, 1) := by decide +kernel
theorem dX5_sumOf_1 : decode cX5_sumOf 1 = .ok (.istore_n 3, 1) := by decide +kernel
theorem dX5_sumOf_2 : decode cX5_sumOf 2 = .ok (.iload_n 1, 1) := by decide +kernel
theorem dX5_sumOf_3 : decode cX5_sumOf 3 = .ok (.istore 4, 2) := by decide +kernel
theorem dX5_sumOf_5 : decode cX5_sumOf 5 = .ok (.iload 4, 2) := by decide +kernel
theorem dX5_sumOf_7 : decode cX5_sumOf 7 = .ok (.iload_n 2, 1) := by decide +kernel
theorem dX5_sumOf_8 : decode cX5_sumOf 8 = .ok (.if_icmp .gt 16, 3) := by decide +kernel
theorem dX5_sumOf_11 : decode cX5_sumOf 11 = .ok (.iload_n 3, 1) := by decide +kernel
theorem dX5_sumOf_12 : decode cX5_sumOf 12 = .ok (.aload_n 0, 1) := by decide +kernel
theorem dX5_sumOf_13 : decode cX5_sumOf 13 = .ok (.iload 4, 2) := by decide +kernel
theorem dX5_sumOf_15 : decode cX5_sumOf 15 = .ok (.iaload, 1) := by decide +kernel
theorem dX5_sumOf_16 : decode cX5_sumOf 16 = .ok (.iadd, 1) := by decide +kernel
theorem dX5_sumOf_17 : decode cX5_sumOf 17 = .ok (.istore_n 3, 1) := by decide +kernel
theorem dX5_sumOf_18 : decode cX5_sumOf 18 = .ok (.iinc 4 1, 3) := by decide +kernel
theorem dX5_sumOf_21 : decode cX5_sumOf 21 = .ok (.goto (-16), 3) := by decide +kernel
theorem dX5_sumOf_24 : decode cX5_sumOf 24 = .ok (.iload_n 3, 1) := by decide +kernel
theorem dX5_sumOf_25 : decode cX5_sumOf 25 = .ok (.ireturn, 1) := by decide +kernel
theorem dX5_dueOfAll_0 : decode cX5_dueOfAll 0 = .ok (.aload_n 0, 1) := by decide +kernel
theorem dX5_dueOfAll_1 : decode cX5_dueOfAll 1 = .ok (.aload_n 0, 1) := by decide +kernel
theorem dX5_dueOfAll_2 : decode cX5_dueOfAll 2 = .ok (.getfield 24, 3) := by decide +kernel
theorem dX5_dueOfAll_5 : decode cX5_dueOfAll 5 = .ok (.iload_n 1, 1) := by decide +kernel
theorem dX5_dueOfAll_6 : decode cX5_dueOfAll 6 = .ok (.invokevirtual 226, 3) := by decide +kernel
theorem dX5_dueOfAll_9 : decode cX5_dueOfAll 9 = .ok (.ireturn, 1) := by decide +kernel
theorem dX5_gotByAll_0 : decode cX5_gotByAll 0 = .ok (.aload_n 0, 1) := by decide +kernel
theorem dX5_gotByAll_1 : decode cX5_gotByAll 1 = .ok (.aload_n 0, 1) := by decide +kernel
theorem dX5_gotByAll_2 : decode cX5_gotByAll 2 = .ok (.getfield 27, 3) := by decide +kernel
theorem dX5_gotByAll_5 : decode cX5_gotByAll 5 = .ok (.iload_n 1, 1) := by decide +kernel
theorem dX5_gotByAll_6 : decode cX5_gotByAll 6 = .ok (.invokevirtual 226, 3) := by decide +kernel
theorem dX5_gotByAll_9 : decode cX5_gotByAll 9 = .ok (.ireturn, 1) := by decide +kernel
theorem dX5_sumOfGifts_0 : decode cX5_sumOfGifts 0 = .ok (.iconst 0, 1) := by decide +kernel
theorem dX5_sumOfGifts_1 : decode cX5_sumOfGifts 1 = .ok (.istore_n 3, 1) := by decide +kernel
theorem dX5_sumOfGifts_2 : decode cX5_sumOfGifts 2 = .ok (.iconst 0, 1) := by decide +kernel
theorem dX5_sumOfGifts_3 : decode cX5_sumOfGifts 3 = .ok (.istore 4, 2) := by decide +kernel
theorem dX5_sumOfGifts_5 : decode cX5_sumOfGifts 5 = .ok (.iload 4, 2) := by decide +kernel
theorem dX5_sumOfGifts_7 : decode cX5_sumOfGifts 7 = .ok (.aload_n 0, 1) := by decide +kernel
theorem dX5_sumOfGifts_8 : decode cX5_sumOfGifts 8 = .ok (.getfield 46, 3) := by decide +kernel
theorem dX5_sumOfGifts_11 : decode cX5_sumOfGifts 11 = .ok (.getfield 63, 3) := by decide +kernel
theorem dX5_sumOfGifts_14 : decode cX5_sumOfGifts 14 = .ok (.if_icmp .ge 18, 3) := by decide +kernel
theorem dX5_sumOfGifts_17 : decode cX5_sumOfGifts 17 = .ok (.iload_n 3, 1) := by decide +kernel
theorem dX5_sumOfGifts_18 : decode cX5_sumOfGifts 18 = .ok (.aload_n 1, 1) := by decide +kernel
theorem dX5_sumOfGifts_19 : decode cX5_sumOfGifts 19 = .ok (.iload 4, 2) := by decide +kernel
theorem dX5_sumOfGifts_21 : decode cX5_sumOfGifts 21 = .ok (.aaload, 1) := by decide +kernel
theorem dX5_sumOfGifts_22 : decode cX5_sumOfGifts 22 = .ok (.iload_n 2, 1) := by decide +kernel
theorem dX5_sumOfGifts_23 : decode cX5_sumOfGifts 23 = .ok (.iaload, 1) := by decide +kernel
theorem dX5_sumOfGifts_24 : decode cX5_sumOfGifts 24 = .ok (.iadd, 1) := by decide +kernel
theorem dX5_sumOfGifts_25 : decode cX5_sumOfGifts 25 = .ok (.istore_n 3, 1) := by decide +kernel
theorem dX5_sumOfGifts_26 : decode cX5_sumOfGifts 26 = .ok (.iinc 4 1, 3) := by decide +kernel
theorem dX5_sumOfGifts_29 : decode cX5_sumOfGifts 29 = .ok (.goto (-24), 3) := by decide +kernel
theorem dX5_sumOfGifts_32 : decode cX5_sumOfGifts 32 = .ok (.iload_n 3, 1) := by decide +kernel
theorem dX5_sumOfGifts_33 : decode cX5_sumOfGifts 33 = .ok (.ireturn, 1) := by decide +kernel
theorem dX5_dueUpTo_0 : decode cX5_dueUpTo 0 = .ok (.iconst 0, 1) := by decide +kernel
theorem dX5_dueUpTo_1 : decode cX5_dueUpTo 1 = .ok (.istore_n 2, 1) := by decide +kernel
theorem dX5_dueUpTo_2 : decode cX5_dueUpTo 2 = .ok (.iconst 0, 1) := by decide +kernel
theorem dX5_dueUpTo_3 : decode cX5_dueUpTo 3 = .ok (.istore_n 3, 1) := by decide +kernel
theorem dX5_dueUpTo_4 : decode cX5_dueUpTo 4 = .ok (.iload_n 3, 1) := by decide +kernel
theorem dX5_dueUpTo_5 : decode cX5_dueUpTo 5 = .ok (.iload_n 1, 1) := by decide +kernel
theorem dX5_dueUpTo_6 : decode cX5_dueUpTo 6 = .ok (.if_icmp .gt 17, 3) := by decide +kernel
theorem dX5_dueUpTo_9 : decode cX5_dueUpTo 9 = .ok (.iload_n 2, 1) := by decide +kernel
theorem dX5_dueUpTo_10 : decode cX5_dueUpTo 10 = .ok (.aload_n 0, 1) := by decide +kernel
theorem dX5_dueUpTo_11 : decode cX5_dueUpTo 11 = .ok (.iload_n 3, 1) := by decide +kernel
theorem dX5_dueUpTo_12 : decode cX5_dueUpTo 12 = .ok (.invokevirtual 201, 3) := by decide +kernel
theorem dX5_dueUpTo_15 : decode cX5_dueUpTo 15 = .ok (.iadd, 1) := by decide +kernel
theorem dX5_dueUpTo_16 : decode cX5_dueUpTo 16 = .ok (.istore_n 2, 1) := by decide +kernel
theorem dX5_dueUpTo_17 : decode cX5_dueUpTo 17 = .ok (.iinc 3 1, 3) := by decide +kernel
theorem dX5_dueUpTo_20 : decode cX5_dueUpTo 20 = .ok (.goto (-16), 3) := by decide +kernel
theorem dX5_dueUpTo_23 : decode cX5_dueUpTo 23 = .ok (.iload_n 2, 1) := by decide +kernel
theorem dX5_dueUpTo_24 : decode cX5_dueUpTo 24 = .ok (.ireturn, 1) := by decide +kernel
theorem dX5_countDue_0 : decode cX5_countDue 0 = .ok (.iconst 0, 1) := by decide +kernel
theorem dX5_countDue_1 : decode cX5_countDue 1 = .ok (.istore_n 2, 1) := by decide +kernel
theorem dX5_countDue_2 : decode cX5_countDue 2 = .ok (.iconst 0, 1) := by decide +kernel
theorem dX5_countDue_3 : decode cX5_countDue 3 = .ok (.istore_n 3, 1) := by decide +kernel
theorem dX5_countDue_4 : decode cX5_countDue 4 = .ok (.iload_n 3, 1) := by decide +kernel
theorem dX5_countDue_5 : decode cX5_countDue 5 = .ok (.aload_n 0, 1) := by decide +kernel
theorem dX5_countDue_6 : decode cX5_countDue 6 = .ok (.getfield 46, 3) := by decide +kernel
theorem dX5_countDue_9 : decode cX5_countDue 9 = .ok (.getfield 63, 3) := by decide +kernel
theorem dX5_countDue_12 : decode cX5_countDue 12 = .ok (.if_icmp .ge 28, 3) := by decide +kernel
theorem dX5_countDue_15 : decode cX5_countDue 15 = .ok (.iload_n 2, 1) := by decide +kernel
theorem dX5_countDue_16 : decode cX5_countDue 16 = .ok (.aload_n 0, 1) := by decide +kernel
theorem dX5_countDue_17 : decode cX5_countDue 17 = .ok (.getfield 24, 3) := by decide +kernel
theorem dX5_countDue_20 : decode cX5_countDue 20 = .ok (.iload_n 3, 1) := by decide +kernel
theorem dX5_countDue_21 : decode cX5_countDue 21 = .ok (.aaload, 1) := by decide +kernel
theorem dX5_countDue_22 : decode cX5_countDue 22 = .ok (.iload_n 1, 1) := by decide +kernel
theorem dX5_countDue_23 : decode cX5_countDue 23 = .ok (.iaload, 1) := by decide +kernel
theorem dX5_countDue_24 : decode cX5_countDue 24 = .ok (.ifCond .le 7, 3) := by decide +kernel
theorem dX5_countDue_27 : decode cX5_countDue 27 = .ok (.iconst 1, 1) := by decide +kernel
theorem dX5_countDue_28 : decode cX5_countDue 28 = .ok (.goto 4, 3) := by decide +kernel
theorem dX5_countDue_31 : decode cX5_countDue 31 = .ok (.iconst 0, 1) := by decide +kernel
theorem dX5_countDue_32 : decode cX5_countDue 32 = .ok (.iadd, 1) := by decide +kernel
theorem dX5_countDue_33 : decode cX5_countDue 33 = .ok (.istore_n 2, 1) := by decide +kernel
theorem dX5_countDue_34 : decode cX5_countDue 34 = .ok (.iinc 3 1, 3) := by decide +kernel
theorem dX5_countDue_37 : decode cX5_countDue 37 = .ok (.goto (-33), 3) := by decide +kernel
theorem dX5_countDue_40 : decode cX5_countDue 40 = .ok (.iload_n 2, 1) := by decide +kernel
theorem dX5_countDue_41 : decode cX5_countDue 41 = .ok (.ireturn, 1) := by decide +kernel
theorem dX5_countLapsed_0 : decode cX5_countLapsed 0 = .ok (.iconst 0, 1) := by decide +kernel
theorem dX5_countLapsed_1 : decode cX5_countLapsed 1 = .ok (.istore_n 1, 1) := by decide +kernel
theorem dX5_countLapsed_2 : decode cX5_countLapsed 2 = .ok (.iconst 0, 1) := by decide +kernel
theorem dX5_countLapsed_3 : decode cX5_countLapsed 3 = .ok (.istore_n 2, 1) := by decide +kernel
theorem dX5_countLapsed_4 : decode cX5_countLapsed 4 = .ok (.iload_n 2, 1) := by decide +kernel
theorem dX5_countLapsed_5 : decode cX5_countLapsed 5 = .ok (.aload_n 0, 1) := by decide +kernel
theorem dX5_countLapsed_6 : decode cX5_countLapsed 6 = .ok (.getfield 46, 3) := by decide +kernel
theorem dX5_countLapsed_9 : decode cX5_countLapsed 9 = .ok (.getfield 63, 3) := by decide +kernel
theorem dX5_countLapsed_12 : decode cX5_countLapsed 12 = .ok (.if_icmp .ge 26, 3) := by decide +kernel
theorem dX5_countLapsed_15 : decode cX5_countLapsed 15 = .ok (.iload_n 1, 1) := by decide +kernel
theorem dX5_countLapsed_16 : decode cX5_countLapsed 16 = .ok (.aload_n 0, 1) := by decide +kernel
theorem dX5_countLapsed_17 : decode cX5_countLapsed 17 = .ok (.getfield 15, 3) := by decide +kernel
theorem dX5_countLapsed_20 : decode cX5_countLapsed 20 = .ok (.iload_n 2, 1) := by decide +kernel
theorem dX5_countLapsed_21 : decode cX5_countLapsed 21 = .ok (.baload, 1) := by decide +kernel
theorem dX5_countLapsed_22 : decode cX5_countLapsed 22 = .ok (.ifCond .eq 7, 3) := by decide +kernel
theorem dX5_countLapsed_25 : decode cX5_countLapsed 25 = .ok (.iconst 1, 1) := by decide +kernel
theorem dX5_countLapsed_26 : decode cX5_countLapsed 26 = .ok (.goto 4, 3) := by decide +kernel
theorem dX5_countLapsed_29 : decode cX5_countLapsed 29 = .ok (.iconst 0, 1) := by decide +kernel
theorem dX5_countLapsed_30 : decode cX5_countLapsed 30 = .ok (.iadd, 1) := by decide +kernel
theorem dX5_countLapsed_31 : decode cX5_countLapsed 31 = .ok (.istore_n 1, 1) := by decide +kernel
theorem dX5_countLapsed_32 : decode cX5_countLapsed 32 = .ok (.iinc 2 1, 3) := by decide +kernel
theorem dX5_countLapsed_35 : decode cX5_countLapsed 35 = .ok (.goto (-31), 3) := by decide +kernel
theorem dX5_countLapsed_38 : decode cX5_countLapsed 38 = .ok (.iload_n 1, 1) := by decide +kernel
theorem dX5_countLapsed_39 : decode cX5_countLapsed 39 = .ok (.ireturn, 1) := by decide +kernel
theorem dX5_takenInAll_0 : decode cX5_takenInAll 0 = .ok (.aload_n 0, 1) := by decide +kernel
theorem dX5_takenInAll_1 : decode cX5_takenInAll 1 = .ok (.getfield 33, 3) := by decide +kernel
theorem dX5_takenInAll_4 : decode cX5_takenInAll 4 = .ok (.iload_n 1, 1) := by decide +kernel
theorem dX5_takenInAll_5 : decode cX5_takenInAll 5 = .ok (.iaload, 1) := by decide +kernel
theorem dX5_takenInAll_6 : decode cX5_takenInAll 6 = .ok (.istore_n 2, 1) := by decide +kernel
theorem dX5_takenInAll_7 : decode cX5_takenInAll 7 = .ok (.iconst 0, 1) := by decide +kernel
theorem dX5_takenInAll_8 : decode cX5_takenInAll 8 = .ok (.istore_n 3, 1) := by decide +kernel
theorem dX5_takenInAll_9 : decode cX5_takenInAll 9 = .ok (.iload_n 3, 1) := by decide +kernel
theorem dX5_takenInAll_10 : decode cX5_takenInAll 10 = .ok (.aload_n 0, 1) := by decide +kernel
theorem dX5_takenInAll_11 : decode cX5_takenInAll 11 = .ok (.getfield 46, 3) := by decide +kernel
theorem dX5_takenInAll_14 : decode cX5_takenInAll 14 = .ok (.getfield 63, 3) := by decide +kernel
theorem dX5_takenInAll_17 : decode cX5_takenInAll 17 = .ok (.if_icmp .ge 20, 3) := by decide +kernel
theorem dX5_takenInAll_20 : decode cX5_takenInAll 20 = .ok (.iload_n 2, 1) := by decide +kernel
theorem dX5_takenInAll_21 : decode cX5_takenInAll 21 = .ok (.aload_n 0, 1) := by decide +kernel
theorem dX5_takenInAll_22 : decode cX5_takenInAll 22 = .ok (.getfield 30, 3) := by decide +kernel
theorem dX5_takenInAll_25 : decode cX5_takenInAll 25 = .ok (.iload_n 3, 1) := by decide +kernel
theorem dX5_takenInAll_26 : decode cX5_takenInAll 26 = .ok (.aaload, 1) := by decide +kernel
theorem dX5_takenInAll_27 : decode cX5_takenInAll 27 = .ok (.iload_n 1, 1) := by decide +kernel
theorem dX5_takenInAll_28 : decode cX5_takenInAll 28 = .ok (.iaload, 1) := by decide +kernel
theorem dX5_takenInAll_29 : decode cX5_takenInAll 29 = .ok (.iadd, 1) := by decide +kernel
theorem dX5_takenInAll_30 : decode cX5_takenInAll 30 = .ok (.istore_n 2, 1) := by decide +kernel
theorem dX5_takenInAll_31 : decode cX5_takenInAll 31 = .ok (.iinc 3 1, 3) := by decide +kernel
theorem dX5_takenInAll_34 : decode cX5_takenInAll 34 = .ok (.goto (-25), 3) := by decide +kernel
theorem dX5_takenInAll_37 : decode cX5_takenInAll 37 = .ok (.iload_n 2, 1) := by decide +kernel
theorem dX5_takenInAll_38 : decode cX5_takenInAll 38 = .ok (.ireturn, 1) := by decide +kernel
theorem dX5_takenOfOthers_0 : decode cX5_takenOfOthers 0 = .ok (.iconst 0, 1) := by decide +kernel
theorem dX5_takenOfOthers_1 : decode cX5_takenOfOthers 1 = .ok (.istore_n 2, 1) := by decide +kernel
theorem dX5_takenOfOthers_2 : decode cX5_takenOfOthers 2 = .ok (.iconst 0, 1) := by decide +kernel
theorem dX5_takenOfOthers_3 : decode cX5_takenOfOthers 3 = .ok (.istore_n 3, 1) := by decide +kernel
theorem dX5_takenOfOthers_4 : decode cX5_takenOfOthers 4 = .ok (.iload_n 3, 1) := by decide +kernel
theorem dX5_takenOfOthers_5 : decode cX5_takenOfOthers 5 = .ok (.aload_n 0, 1) := by decide +kernel
theorem dX5_takenOfOthers_6 : decode cX5_takenOfOthers 6 = .ok (.getfield 46, 3) := by decide +kernel
theorem dX5_takenOfOthers_9 : decode cX5_takenOfOthers 9 = .ok (.getfield 63, 3) := by decide +kernel
theorem dX5_takenOfOthers_12 : decode cX5_takenOfOthers 12 = .ok (.if_icmp .ge 37, 3) := by decide +kernel
theorem dX5_takenOfOthers_15 : decode cX5_takenOfOthers 15 = .ok (.iload_n 2, 1) := by decide +kernel
theorem dX5_takenOfOthers_16 : decode cX5_takenOfOthers 16 = .ok (.aload_n 0, 1) := by decide +kernel
theorem dX5_takenOfOthers_17 : decode cX5_takenOfOthers 17 = .ok (.getfield 46, 3) := by decide +kernel
theorem dX5_takenOfOthers_20 : decode cX5_takenOfOthers 20 = .ok (.getfield 130, 3) := by decide +kernel
theorem dX5_takenOfOthers_23 : decode cX5_takenOfOthers 23 = .ok (.iload_n 3, 1) := by decide +kernel
theorem dX5_takenOfOthers_24 : decode cX5_takenOfOthers 24 = .ok (.iaload, 1) := by decide +kernel
theorem dX5_takenOfOthers_25 : decode cX5_takenOfOthers 25 = .ok (.iload_n 1, 1) := by decide +kernel
theorem dX5_takenOfOthers_26 : decode cX5_takenOfOthers 26 = .ok (.if_icmp .ne 7, 3) := by decide +kernel
theorem dX5_takenOfOthers_29 : decode cX5_takenOfOthers 29 = .ok (.iconst 0, 1) := by decide +kernel
theorem dX5_takenOfOthers_30 : decode cX5_takenOfOthers 30 = .ok (.goto 11, 3) := by decide +kernel
theorem dX5_takenOfOthers_33 : decode cX5_takenOfOthers 33 = .ok (.aload_n 0, 1) := by decide +kernel
theorem dX5_takenOfOthers_34 : decode cX5_takenOfOthers 34 = .ok (.getfield 30, 3) := by decide +kernel
theorem dX5_takenOfOthers_37 : decode cX5_takenOfOthers 37 = .ok (.iload_n 3, 1) := by decide +kernel
theorem dX5_takenOfOthers_38 : decode cX5_takenOfOthers 38 = .ok (.aaload, 1) := by decide +kernel
theorem dX5_takenOfOthers_39 : decode cX5_takenOfOthers 39 = .ok (.iload_n 1, 1) := by decide +kernel
theorem dX5_takenOfOthers_40 : decode cX5_takenOfOthers 40 = .ok (.iaload, 1) := by decide +kernel
theorem dX5_takenOfOthers_41 : decode cX5_takenOfOthers 41 = .ok (.iadd, 1) := by decide +kernel
theorem dX5_takenOfOthers_42 : decode cX5_takenOfOthers 42 = .ok (.istore_n 2, 1) := by decide +kernel
theorem dX5_takenOfOthers_43 : decode cX5_takenOfOthers 43 = .ok (.iinc 3 1, 3) := by decide +kernel
theorem dX5_takenOfOthers_46 : decode cX5_takenOfOthers 46 = .ok (.goto (-42), 3) := by decide +kernel
theorem dX5_takenOfOthers_49 : decode cX5_takenOfOthers 49 = .ok (.iload_n 2, 1) := by decide +kernel
theorem dX5_takenOfOthers_50 : decode cX5_takenOfOthers 50 = .ok (.ireturn, 1) := by decide +kernel

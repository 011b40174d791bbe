theorem dX4_takeNumber_58 : decode cX4_takeNumber 58 = .ok (.getfield 29, 3) := by decide +kernel
theorem dX4_takeNumber_61 : decode cX4_takeNumber 61 = .ok (.aload_n 0, 1) := by decide +kernel
theorem dX4_takeNumber_62 : decode cX4_takeNumber 62 = .ok (.getfield 36, 3) := by decide +kernel
theorem dX4_takeNumber_65 : decode cX4_takeNumber 65 = .ok (.baload, 1) := by decide +kernel
theorem dX4_takeNumber_66 : decode cX4_takeNumber 66 = .ok (.bipush 48, 2) := by decide +kernel
theorem dX4_takeNumber_68 : decode cX4_takeNumber 68 = .ok (.isub, 1) := by decide +kernel
theorem dX4_takeNumber_69 : decode cX4_takeNumber 69 = .ok (.iadd, 1) := by decide +kernel
theorem dX4_takeNumber_70 : decode cX4_takeNumber 70 = .ok (.istore_n 3, 1) := by decide +kernel
theorem dX4_takeNumber_71 : decode cX4_takeNumber 71 = .ok (.aload_n 0, 1) := by decide +kernel
theorem dX4_takeNumber_72 : decode cX4_takeNumber 72 = .ok (.dup, 1) := by decide +kernel
theorem dX4_takeNumber_73 : decode cX4_takeNumber 73 = .ok (.getfield 36, 3) := by decide +kernel
theorem dX4_takeNumber_76 : decode cX4_takeNumber 76 = .ok (.iconst 1, 1) := by decide +kernel
theorem dX4_takeNumber_77 : decode cX4_takeNumber 77 = .ok (.iadd, 1) := by decide +kernel
theorem dX4_takeNumber_78 : decode cX4_takeNumber 78 = .ok (.putfield 36, 3) := by decide +kernel
theorem dX4_takeNumber_81 : decode cX4_takeNumber 81 = .ok (.goto (-67), 3) := by decide +kernel
theorem dX4_takeNumber_84 : decode cX4_takeNumber 84 = .ok (.aload_n 0, 1) := by decide +kernel
theorem dX4_takeNumber_85 : decode cX4_takeNumber 85 = .ok (.getfield 36, 3) := by decide +kernel
theorem dX4_takeNumber_88 : decode cX4_takeNumber 88 = .ok (.aload_n 0, 1) := by decide +kernel
theorem dX4_takeNumber_89 : decode cX4_takeNumber 89 = .ok (.getfield 105, 3) := by decide +kernel
theorem dX4_takeNumber_92 : decode cX4_takeNumber 92 = .ok (.isub, 1) := by decide +kernel
theorem dX4_takeNumber_93 : decode cX4_takeNumber 93 = .ok (.istore 4, 2) := by decide +kernel
theorem dX4_takeNumber_95 : decode cX4_takeNumber 95 = .ok (.aload_n 0, 1) := by decide +kernel
theorem dX4_takeNumber_96 : decode cX4_takeNumber 96 = .ok (.iload 4, 2) := by decide +kernel
theorem dX4_takeNumber_98 : decode cX4_takeNumber 98 = .ok (.ifCond .le 23, 3) := by decide +kernel
theorem dX4_takeNumber_101 : decode cX4_takeNumber 101 = .ok (.iload 4, 2) := by decide +kernel
theorem dX4_takeNumber_103 : decode cX4_takeNumber 103 = .ok (.iconst 5, 1) := by decide +kernel
theorem dX4_takeNumber_104 : decode cX4_takeNumber 104 = .ok (.if_icmp .gt 17, 3) := by decide +kernel
theorem dX4_takeNumber_107 : decode cX4_takeNumber 107 = .ok (.iload_n 3, 1) := by decide +kernel
theorem dX4_takeNumber_108 : decode cX4_takeNumber 108 = .ok (.iload_n 1, 1) := by decide +kernel
theorem dX4_takeNumber_109 : decode cX4_takeNumber 109 = .ok (.if_icmp .lt 12, 3) := by decide +kernel
theorem dX4_takeNumber_112 : decode cX4_takeNumber 112 = .ok (.iload_n 3, 1) := by decide +kernel
theorem dX4_takeNumber_113 : decode cX4_takeNumber 113 = .ok (.iload_n 2, 1) := by decide +kernel
theorem dX4_takeNumber_114 : decode cX4_takeNumber 114 = .ok (.if_icmp .gt 7, 3) := by decide +kernel
theorem dX4_takeNumber_117 : decode cX4_takeNumber 117 = .ok (.iconst 1, 1) := by decide +kernel
theorem dX4_takeNumber_118 : decode cX4_takeNumber 118 = .ok (.goto 4, 3) := by decide +kernel
theorem dX4_takeNumber_121 : decode cX4_takeNumber 121 = .ok (.iconst 0, 1) := by decide +kernel
theorem dX4_takeNumber_122 : decode cX4_takeNumber 122 = .ok (.aload_n 0, 1) := by decide +kernel
theorem dX4_takeNumber_123 : decode cX4_takeNumber 123 = .ok (.getfield 105, 3) := by decide +kernel
theorem dX4_takeNumber_126 : decode cX4_takeNumber 126 = .ok (.invokevirtual 108, 3) := by decide +kernel
theorem dX4_takeNumber_129 : decode cX4_takeNumber 129 = .ok (.iload_n 3, 1) := by decide +kernel
theorem dX4_takeNumber_130 : decode cX4_takeNumber 130 = .ok (.ireturn, 1) := by decide +kernel
theorem dX4_takeEnd_0 : decode cX4_takeEnd 0 = .ok (.aload_n 0, 1) := by decide +kernel
theorem dX4_takeEnd_1 : decode cX4_takeEnd 1 = .ok (.invokevirtual 43, 3) := by decide +kernel
theorem dX4_takeEnd_4 : decode cX4_takeEnd 4 = .ok (.aload_n 0, 1) := by decide +kernel
theorem dX4_takeEnd_5 : decode cX4_takeEnd 5 = .ok (.aload_n 0, 1) := by decide +kernel
theorem dX4_takeEnd_6 : decode cX4_takeEnd 6 = .ok (.getfield 36, 3) := by decide +kernel
theorem dX4_takeEnd_9 : decode cX4_takeEnd 9 = .ok (.aload_n 0, 1) := by decide +kernel
theorem dX4_takeEnd_10 : decode cX4_takeEnd 10 = .ok (.getfield 33, 3) := by decide +kernel
theorem dX4_takeEnd_13 : decode cX4_takeEnd 13 = .ok (.if_icmp .ge 21, 3) := by decide +kernel
theorem dX4_takeEnd_16 : decode cX4_takeEnd 16 = .ok (.aload_n 0, 1) := by decide +kernel
theorem dX4_takeEnd_17 : decode cX4_takeEnd 17 = .ok (.getfield 29, 3) := by decide +kernel
theorem dX4_takeEnd_20 : decode cX4_takeEnd 20 = .ok (.aload_n 0, 1) := by decide +kernel
theorem dX4_takeEnd_21 : decode cX4_takeEnd 21 = .ok (.getfield 36, 3) := by decide +kernel
theorem dX4_takeEnd_24 : decode cX4_takeEnd 24 = .ok (.baload, 1) := by decide +kernel
theorem dX4_takeEnd_25 : decode cX4_takeEnd 25 = .ok (.bipush 59, 2) := by decide +kernel
theorem dX4_takeEnd_27 : decode cX4_takeEnd 27 = .ok (.if_icmp .ne 7, 3) := by decide +kernel
theorem dX4_takeEnd_30 : decode cX4_takeEnd 30 = .ok (.iconst 1, 1) := by decide +kernel
theorem dX4_takeEnd_31 : decode cX4_takeEnd 31 = .ok (.goto 4, 3) := by decide +kernel
theorem dX4_takeEnd_34 : decode cX4_takeEnd 34 = .ok (.iconst 0, 1) := by decide +kernel
theorem dX4_takeEnd_35 : decode cX4_takeEnd 35 = .ok (.aload_n 0, 1) := by decide +kernel
theorem dX4_takeEnd_36 : decode cX4_takeEnd 36 = .ok (.getfield 36, 3) := by decide +kernel
theorem dX4_takeEnd_39 : decode cX4_takeEnd 39 = .ok (.invokevirtual 108, 3) := by decide +kernel
theorem dX4_takeEnd_42 : decode cX4_takeEnd 42 = .ok (.aload_n 0, 1) := by decide +kernel
theorem dX4_takeEnd_43 : decode cX4_takeEnd 43 = .ok (.dup, 1) := by decide +kernel
theorem dX4_takeEnd_44 : decode cX4_takeEnd 44 = .ok (.getfield 36, 3) := by decide +kernel
theorem dX4_takeEnd_47 : decode cX4_takeEnd 47 = .ok (.iconst 1, 1) := by decide +kernel
theorem dX4_takeEnd_48 : decode cX4_takeEnd 48 = .ok (.iadd, 1) := by decide +kernel
theorem dX4_takeEnd_49 : decode cX4_takeEnd 49 = .ok (.putfield 36, 3) := by decide +kernel
theorem dX4_takeEnd_52 : decode cX4_takeEnd 52 = .ok (.aload_n 0, 1) := by decide +kernel
theorem dX4_takeEnd_53 : decode cX4_takeEnd 53 = .ok (.invokevirtual 43, 3) := by decide +kernel
theorem dX4_takeEnd_56 : decode cX4_takeEnd 56 = .ok (.return_, 1) := by decide +kernel
theorem dX4_skipBlanks_0 : decode cX4_skipBlanks 0 = .ok (.aload_n 0, 1) := by decide +kernel
theorem dX4_skipBlanks_1 : decode cX4_skipBlanks 1 = .ok (.getfield 36, 3) := by decide +kernel
theorem dX4_skipBlanks_4 : decode cX4_skipBlanks 4 = .ok (.aload_n 0, 1) := by decide +kernel
theorem dX4_skipBlanks_5 : decode cX4_skipBlanks 5 = .ok (.getfield 33, 3) := by decide +kernel
theorem dX4_skipBlanks_8 : decode cX4_skipBlanks 8 = .ok (.if_icmp .ge 58, 3) := by decide +kernel
theorem dX4_skipBlanks_11 : decode cX4_skipBlanks 11 = .ok (.aload_n 0, 1) := by decide +kernel
theorem dX4_skipBlanks_12 : decode cX4_skipBlanks 12 = .ok (.getfield 29, 3) := by decide +kernel
theorem dX4_skipBlanks_15 : decode cX4_skipBlanks 15 = .ok (.aload_n 0, 1) := by decide +kernel
theorem dX4_skipBlanks_16 : decode cX4_skipBlanks 16 = .ok (.getfield 36, 3) := by decide +kernel
theorem dX4_skipBlanks_19 : decode cX4_skipBlanks 19 = .ok (.baload, 1) := by decide +kernel
theorem dX4_skipBlanks_20 : decode cX4_skipBlanks 20 = .ok (.bipush 32, 2) := by decide +kernel
theorem dX4_skipBlanks_22 : decode cX4_skipBlanks 22 = .ok (.if_icmp .eq 31, 3) := by decide +kernel
theorem dX4_skipBlanks_25 : decode cX4_skipBlanks 25 = .ok (.aload_n 0, 1) := by decide +kernel
theorem dX4_skipBlanks_26 : decode cX4_skipBlanks 26 = .ok (.getfield 29, 3) := by decide +kernel
theorem dX4_skipBlanks_29 : decode cX4_skipBlanks 29 = .ok (.aload_n 0, 1) := by decide +kernel
theorem dX4_skipBlanks_30 : decode cX4_skipBlanks 30 = .ok (.getfield 36, 3) := by decide +kernel
theorem dX4_skipBlanks_33 : decode cX4_skipBlanks 33 = .ok (.baload, 1) := by decide +kernel
theorem dX4_skipBlanks_34 : decode cX4_skipBlanks 34 = .ok (.bipush 10, 2) := by decide +kernel
theorem dX4_skipBlanks_36 : decode cX4_skipBlanks 36 = .ok (.if_icmp .eq 17, 3) := by decide +kernel
theorem dX4_skipBlanks_39 : decode cX4_skipBlanks 39 = .ok (.aload_n 0, 1) := by decide +kernel
theorem dX4_skipBlanks_40 : decode cX4_skipBlanks 40 = .ok (.getfield 29, 3) := by decide +kernel
theorem dX4_skipBlanks_43 : decode cX4_skipBlanks 43 = .ok (.aload_n 0, 1) := by decide +kernel
theorem dX4_skipBlanks_44 : decode cX4_skipBlanks 44 = .ok (.getfield 36, 3) := by decide +kernel
theorem dX4_skipBlanks_47 : decode cX4_skipBlanks 47 = .ok (.baload, 1) := by decide +kernel
theorem dX4_skipBlanks_48 : decode cX4_skipBlanks 48 = .ok (.bipush 9, 2) := by decide +kernel
theorem dX4_skipBlanks_50 : decode cX4_skipBlanks 50 = .ok (.if_icmp .ne 16, 3) := by decide +kernel
theorem dX4_skipBlanks_53 : decode cX4_skipBlanks 53 = .ok (.aload_n 0, 1) := by decide +kernel
theorem dX4_skipBlanks_54 : decode cX4_skipBlanks 54 = .ok (.dup, 1) := by decide +kernel
theorem dX4_skipBlanks_55 : decode cX4_skipBlanks 55 = .ok (.getfield 36, 3) := by decide +kernel
theorem dX4_skipBlanks_58 : decode cX4_skipBlanks 58 = .ok (.iconst 1, 1) := by decide +kernel
theorem dX4_skipBlanks_59 : decode cX4_skipBlanks 59 = .ok (.iadd, 1) := by decide +kernel
theorem dX4_skipBlanks_60 : decode cX4_skipBlanks 60 = .ok (.putfield 36, 3) := by decide +kernel
theorem dX4_skipBlanks_63 : decode cX4_skipBlanks 63 = .ok (.goto (-63), 3) := by decide +kernel
theorem dX4_skipBlanks_66 : decode cX4_skipBlanks 66 = .ok (.return_, 1) := by decide +kernel
theorem dX4_takenWord_0 : decode cX4_takenWord 0 = .ok (.iconst 0, 1) := by decide +kernel
theorem dX4_takenWord_1 : decode cX4_takenWord 1 = .ok (.istore_n 1, 1) := by decide +kernel
theorem dX4_takenWord_2 : decode cX4_takenWord 2 = .ok (.iload_n 1, 1) := by decide +kernel
theorem dX4_takenWord_3 : decode cX4_takenWord 3 = .ok (.getstatic 228, 3) := by decide +kernel
theorem dX4_takenWord_6 : decode cX4_takenWord 6 = .ok (.arraylength, 1) := by decide +kernel
theorem dX4_takenWord_7 : decode cX4_takenWord 7 = .ok (.if_icmp .ge 30, 3) := by decide +kernel
theorem dX4_takenWord_10 : decode cX4_takenWord 10 = .ok (.aload_n 0, 1) := by decide +kernel
theorem dX4_takenWord_11 : decode cX4_takenWord 11 = .ok (.getstatic 228, 3) := by decide +kernel
theorem dX4_takenWord_14 : decode cX4_takenWord 14 = .ok (.iload_n 1, 1) := by decide +kernel
theorem dX4_takenWord_15 : decode cX4_takenWord 15 = .ok (.aaload, 1) := by decide +kernel
theorem dX4_takenWord_16 : decode cX4_takenWord 16 = .ok (.getfield 217, 3) := by decide +kernel
theorem dX4_takenWord_19 : decode cX4_takenWord 19 = .ok (.invokevirtual 221, 3) := by decide +kernel
theorem dX4_takenWord_22 : decode cX4_takenWord 22 = .ok (.ifCond .eq 9, 3) := by decide +kernel
theorem dX4_takenWord_25 : decode cX4_takenWord 25 = .ok (.getstatic 228, 3) := by decide +kernel
theorem dX4_takenWord_28 : decode cX4_takenWord 28 = .ok (.iload_n 1, 1) := by decide +kernel
theorem dX4_takenWord_29 : decode cX4_takenWord 29 = .ok (.aaload, 1) := by decide +kernel
theorem dX4_takenWord_30 : decode cX4_takenWord 30 = .ok (.areturn, 1) := by decide +kernel
theorem dX4_takenWord_31 : decode cX4_takenWord 31 = .ok (.iinc 1 1, 3) := by decide +kernel
theorem dX4_takenWord_34 : decode cX4_takenWord 34 = .ok (.goto (-32), 3) := by decide +kernel
theorem dX4_takenWord_37 : decode cX4_takenWord 37 = .ok (.getstatic 207, 3) := by decide +kernel
theorem dX4_takenWord_40 : decode cX4_takenWord 40 = .ok (.areturn, 1) := by decide +kernel
theorem dX4_isTaken_0 : decode cX4_isTaken 0 = .ok (.aload_n 1, 1) := by decide +kernel
theorem dX4_isTaken_1 : decode cX4_isTaken 1 = .ok (.invokevirtual 232, 3) := by decide +kernel
theorem dX4_isTaken_4 : decode cX4_isTaken 4 = .ok (.aload_n 0, 1) := by decide +kernel
theorem dX4_isTaken_5 : decode cX4_isTaken 5 = .ok (.getfield 36, 3) := by decide +kernel
theorem dX4_isTaken_8 : decode cX4_isTaken 8 = .ok (.aload_n 0, 1) := by decide +kernel
theorem dX4_isTaken_9 : decode cX4_isTaken 9 = .ok (.getfield 105, 3) := by decide +kernel
theorem dX4_isTaken_12 : decode cX4_isTaken 12 = .ok (.isub, 1) := by decide +kernel
theorem dX4_isTaken_13 : decode cX4_isTaken 13 = .ok (.if_icmp .eq 5, 3) := by decide +kernel
theorem dX4_isTaken_16 : decode cX4_isTaken 16 = .ok (.iconst 0, 1) := by decide +kernel
theorem dX4_isTaken_17 : decode cX4_isTaken 17 = .ok (.ireturn, 1) := by decide +kernel
theorem dX4_isTaken_18 : decode cX4_isTaken 18 = .ok (.iconst 0, 1) := by decide +kernel
theorem dX4_isTaken_19 : decode cX4_isTaken 19 = .ok (.istore_n 2, 1) := by decide +kernel
theorem dX4_isTaken_20 : decode cX4_isTaken 20 = .ok (.iload_n 2, 1) := by decide +kernel
theorem dX4_isTaken_21 : decode cX4_isTaken 21 = .ok (.aload_n 1, 1) := by decide +kernel
theorem dX4_isTaken_22 : decode cX4_isTaken 22 = .ok (.invokevirtual 232, 3) := by decide +kernel
theorem dX4_isTaken_25 : decode cX4_isTaken 25 = .ok (.if_icmp .ge 30, 3) := by decide +kernel
theorem dX4_isTaken_28 : decode cX4_isTaken 28 = .ok (.aload_n 0, 1) := by decide +kernel
theorem dX4_isTaken_29 : decode cX4_isTaken 29 = .ok (.getfield 29, 3) := by decide +kernel
theorem dX4_isTaken_32 : decode cX4_isTaken 32 = .ok (.aload_n 0, 1) := by decide +kernel
theorem dX4_isTaken_33 : decode cX4_isTaken 33 = .ok (.getfield 105, 3) := by decide +kernel
theorem dX4_isTaken_36 : decode cX4_isTaken 36 = .ok (.iload_n 2, 1) := by decide +kernel
theorem dX4_isTaken_37 : decode cX4_isTaken 37 = .ok (.iadd, 1) := by decide +kernel
theorem dX4_isTaken_38 : decode cX4_isTaken 38 = .ok (.baload, 1) := by decide +kernel
theorem dX4_isTaken_39 : decode cX4_isTaken 39 = .ok (.aload_n 1, 1) := by decide +kernel
theorem dX4_isTaken_40 : decode cX4_isTaken 40 = .ok (.iload_n 2, 1) := by decide +kernel
theorem dX4_isTaken_41 : decode cX4_isTaken 41 = .ok (.invokevirtual 236, 3) := by decide +kernel
theorem dX4_isTaken_44 : decode cX4_isTaken 44 = .ok (.if_icmp .eq 5, 3) := by decide +kernel
theorem dX4_isTaken_47 : decode cX4_isTaken 47 = .ok (.iconst 0, 1) := by decide +kernel
theorem dX4_isTaken_48 : decode cX4_isTaken 48 = .ok (.ireturn, 1) := by decide +kernel
theorem dX4_isTaken_49 : decode cX4_isTaken 49 = .ok (.iinc 2 1, 3) := by decide +kernel
theorem dX4_isTaken_52 : decode cX4_isTaken 52 = .ok (.goto (-32), 3) := by decide +kernel
theorem dX4_isTaken_55 : decode cX4_isTaken 55 = .ok (.iconst 1, 1) := by decide +kernel
theorem dX4_isTaken_56 : decode cX4_isTaken 56 = .ok (.ireturn, 1) := by decide +kernel
theorem dX4_demand_0 : decode cX4_demand 0 = .ok (.iload_n 1, 1) := by decide +kernel
theorem dX4_demand_1 : decode cX4_demand 1 = .ok (.ifCond .ne 18, 3) := by decide +kernel
theorem dX4_demand_4 : decode cX4_demand 4 = .ok (.aload_n 0, 1) := by decide +kernel
theorem dX4_demand_5 : decode cX4_demand 5 = .ok (.iload_n 2, 1) := by decide +kernel
theorem dX4_demand_6 : decode cX4_demand 6 = .ok (.putfield 25, 3) := by decide +kernel
theorem dX4_demand_9 : decode cX4_demand 9 = .ok (.new 240, 3) := by decide +kernel
theorem dX4_demand_12 : decode cX4_demand 12 = .ok (.dup, 1) := by decide +kernel
theorem dX4_demand_13 : decode cX4_demand 13 = .ok (.ldc 242, 2) := by decide +kernel
theorem dX4_demand_15 : decode cX4_demand 15 = .ok (.invokespecial 244, 3) := by decide +kernel
theorem dX4_demand_18 : decode cX4_demand 18 = .ok (.athrow, 1) := by decide +kernel
theorem dX4_demand_19 : decode cX4_demand 19 = .ok (.return_, 1) := by decide +kernel
theorem dX4_isLetter_0 : decode cX4_isLetter 0 = .ok (.iload_n 0, 1) := by decide +kernel
theorem dX4_isLetter_1 : decode cX4_isLetter 1 = .ok (.bipush 97, 2) := by decide +kernel
theorem dX4_isLetter_3 : decode cX4_isLetter 3 = .ok (.if_icmp .lt 13, 3) := by decide +kernel
theorem dX4_isLetter_6 : decode cX4_isLetter 6 = .ok (.iload_n 0, 1) := by decide +kernel
theorem dX4_isLetter_7 : decode cX4_isLetter 7 = .ok (.bipush 122, 2) := by decide +kernel
theorem dX4_isLetter_9 : decode cX4_isLetter 9 = .ok (.if_icmp .gt 7, 3) := by decide +kernel
theorem dX4_isLetter_12 : decode cX4_isLetter 12 = .ok (.iconst 1, 1) := by decide +kernel
theorem dX4_isLetter_13 : decode cX4_isLetter 13 = .ok (.goto 4, 3) := by decide +kernel
theorem dX4_isLetter_16 : decode cX4_isLetter 16 = .ok (.iconst 0, 1) := by decide +kernel
theorem dX4_isLetter_17 : decode cX4_isLetter 17 = .ok (.ireturn, 1) := by decide +kernel
theorem dX4_isDigit_0 : decode cX4_isDigit 0 = .ok (.iload_n 0, 1) := by decide +kernel
theorem dX4_isDigit_1 : decode cX4_isDigit 1 = .ok (.bipush 48, 2) := by decide +kernel
theorem dX4_isDigit_3 : decode cX4_isDigit 3 = .ok (.if_icmp .lt 13, 3) := by decide +kernel
theorem dX4_isDigit_6 : decode cX4_isDigit 6 = .ok (.iload_n 0, 1) := by decide +kernel
theorem dX4_isDigit_7 : decode cX4_isDigit 7 = .ok (.bipush 57, 2) := by decide +kernel
theorem dX4_isDigit_9 : decode cX4_isDigit 9 = .ok (.if_icmp .gt 7, 3) := by decide +kernel
theorem dX4_isDigit_12 : decode cX4_isDigit 12 = .ok (.iconst 1, 1) := by decide +kernel
theorem dX4_isDigit_13 : decode cX4_isDigit 13 = .ok (.goto 4, 3) := by decide +kernel
theorem dX4_isDigit_16 : decode cX4_isDigit 16 = .ok (.iconst 0, 1) := by decide +kernel
theorem dX4_isDigit_17 : decode cX4_isDigit 17 = .ok (.ireturn, 1) := by decide +kernel

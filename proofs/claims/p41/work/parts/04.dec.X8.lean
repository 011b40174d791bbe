theorem dX8_init_0 : decode cX8_init 0 = .ok (.aload_n 0, 1) := by decide +kernel
theorem dX8_init_1 : decode cX8_init 1 = .ok (.invokespecial 1, 3) := by decide +kernel
theorem dX8_init_4 : decode cX8_init 4 = .ok (.aload_n 0, 1) := by decide +kernel
theorem dX8_init_5 : decode cX8_init 5 = .ok (.sipush 400, 3) := by decide +kernel
theorem dX8_init_8 : decode cX8_init 8 = .ok (.newarray .byte, 2) := by decide +kernel
theorem dX8_init_10 : decode cX8_init 10 = .ok (.putfield 9, 3) := by decide +kernel
theorem dX8_init_13 : decode cX8_init 13 = .ok (.aload_n 0, 1) := by decide +kernel
theorem dX8_init_14 : decode cX8_init 14 = .ok (.new 13, 3) := by decide +kernel
theorem dX8_init_17 : decode cX8_init 17 = .ok (.dup, 1) := by decide +kernel
theorem dX8_init_18 : decode cX8_init 18 = .ok (.aload_n 0, 1) := by decide +kernel
theorem dX8_init_19 : decode cX8_init 19 = .ok (.getfield 9, 3) := by decide +kernel
theorem dX8_init_22 : decode cX8_init 22 = .ok (.invokespecial 15, 3) := by decide +kernel
theorem dX8_init_25 : decode cX8_init 25 = .ok (.putfield 18, 3) := by decide +kernel
theorem dX8_init_28 : decode cX8_init 28 = .ok (.aload_n 0, 1) := by decide +kernel
theorem dX8_init_29 : decode cX8_init 29 = .ok (.new 22, 3) := by decide +kernel
theorem dX8_init_32 : decode cX8_init 32 = .ok (.dup, 1) := by decide +kernel
theorem dX8_init_33 : decode cX8_init 33 = .ok (.invokespecial 24, 3) := by decide +kernel
theorem dX8_init_36 : decode cX8_init 36 = .ok (.putfield 25, 3) := by decide +kernel
theorem dX8_init_39 : decode cX8_init 39 = .ok (.aload_n 0, 1) := by decide +kernel
theorem dX8_init_40 : decode cX8_init 40 = .ok (.new 29, 3) := by decide +kernel
theorem dX8_init_43 : decode cX8_init 43 = .ok (.dup, 1) := by decide +kernel
theorem dX8_init_44 : decode cX8_init 44 = .ok (.invokespecial 31, 3) := by decide +kernel
theorem dX8_init_47 : decode cX8_init 47 = .ok (.putfield 32, 3) := by decide +kernel
theorem dX8_init_50 : decode cX8_init 50 = .ok (.aload_n 0, 1) := by decide +kernel
theorem dX8_init_51 : decode cX8_init 51 = .ok (.new 36, 3) := by decide +kernel
theorem dX8_init_54 : decode cX8_init 54 = .ok (.dup, 1) := by decide +kernel
theorem dX8_init_55 : decode cX8_init 55 = .ok (.invokespecial 38, 3) := by decide +kernel
theorem dX8_init_58 : decode cX8_init 58 = .ok (.putfield 39, 3) := by decide +kernel
theorem dX8_init_61 : decode cX8_init 61 = .ok (.aload_n 0, 1) := by decide +kernel
theorem dX8_init_62 : decode cX8_init 62 = .ok (.new 43, 3) := by decide +kernel
theorem dX8_init_65 : decode cX8_init 65 = .ok (.dup, 1) := by decide +kernel
theorem dX8_init_66 : decode cX8_init 66 = .ok (.aload_n 0, 1) := by decide +kernel
theorem dX8_init_67 : decode cX8_init 67 = .ok (.getfield 25, 3) := by decide +kernel
theorem dX8_init_70 : decode cX8_init 70 = .ok (.aload_n 0, 1) := by decide +kernel
theorem dX8_init_71 : decode cX8_init 71 = .ok (.getfield 32, 3) := by decide +kernel
theorem dX8_init_74 : decode cX8_init 74 = .ok (.invokespecial 45, 3) := by decide +kernel
theorem dX8_init_77 : decode cX8_init 77 = .ok (.putfield 48, 3) := by decide +kernel
theorem dX8_init_80 : decode cX8_init 80 = .ok (.aload_n 0, 1) := by decide +kernel
theorem dX8_init_81 : decode cX8_init 81 = .ok (.iconst 1, 1) := by decide +kernel
theorem dX8_init_82 : decode cX8_init 82 = .ok (.putfield 52, 3) := by decide +kernel
theorem dX8_init_85 : decode cX8_init 85 = .ok (.aload_n 0, 1) := by decide +kernel
theorem dX8_init_86 : decode cX8_init 86 = .ok (.new 29, 3) := by decide +kernel
theorem dX8_init_89 : decode cX8_init 89 = .ok (.dup, 1) := by decide +kernel
theorem dX8_init_90 : decode cX8_init 90 = .ok (.invokespecial 31, 3) := by decide +kernel
theorem dX8_init_93 : decode cX8_init 93 = .ok (.putfield 56, 3) := by decide +kernel
theorem dX8_init_96 : decode cX8_init 96 = .ok (.aload_n 0, 1) := by decide +kernel
theorem dX8_init_97 : decode cX8_init 97 = .ok (.new 43, 3) := by decide +kernel
theorem dX8_init_100 : decode cX8_init 100 = .ok (.dup, 1) := by decide +kernel
theorem dX8_init_101 : decode cX8_init 101 = .ok (.aload_n 0, 1) := by decide +kernel
theorem dX8_init_102 : decode cX8_init 102 = .ok (.getfield 25, 3) := by decide +kernel
theorem dX8_init_105 : decode cX8_init 105 = .ok (.aload_n 0, 1) := by decide +kernel
theorem dX8_init_106 : decode cX8_init 106 = .ok (.getfield 56, 3) := by decide +kernel
theorem dX8_init_109 : decode cX8_init 109 = .ok (.invokespecial 45, 3) := by decide +kernel
theorem dX8_init_112 : decode cX8_init 112 = .ok (.putfield 59, 3) := by decide +kernel
theorem dX8_init_115 : decode cX8_init 115 = .ok (.aload_n 0, 1) := by decide +kernel
theorem dX8_init_116 : decode cX8_init 116 = .ok (.new 62, 3) := by decide +kernel
theorem dX8_init_119 : decode cX8_init 119 = .ok (.dup, 1) := by decide +kernel
theorem dX8_init_120 : decode cX8_init 120 = .ok (.invokespecial 64, 3) := by decide +kernel
theorem dX8_init_123 : decode cX8_init 123 = .ok (.putfield 65, 3) := by decide +kernel
theorem dX8_init_126 : decode cX8_init 126 = .ok (.return_, 1) := by decide +kernel
theorem dX8_feed_0 : decode cX8_feed 0 = .ok (.aload_n 0, 1) := by decide +kernel
theorem dX8_feed_1 : decode cX8_feed 1 = .ok (.getfield 69, 3) := by decide +kernel
theorem dX8_feed_4 : decode cX8_feed 4 = .ok (.sipush 380, 3) := by decide +kernel
theorem dX8_feed_7 : decode cX8_feed 7 = .ok (.if_icmp .le 5, 3) := by decide +kernel
theorem dX8_feed_10 : decode cX8_feed 10 = .ok (.iconst (-1), 1) := by decide +kernel
theorem dX8_feed_11 : decode cX8_feed 11 = .ok (.ireturn, 1) := by decide +kernel
theorem dX8_feed_12 : decode cX8_feed 12 = .ok (.aload_n 0, 1) := by decide +kernel
theorem dX8_feed_13 : decode cX8_feed 13 = .ok (.iload_n 1, 1) := by decide +kernel
theorem dX8_feed_14 : decode cX8_feed 14 = .ok (.invokevirtual 73, 3) := by decide +kernel
theorem dX8_feed_17 : decode cX8_feed 17 = .ok (.aload_n 0, 1) := by decide +kernel
theorem dX8_feed_18 : decode cX8_feed 18 = .ok (.iload_n 2, 1) := by decide +kernel
theorem dX8_feed_19 : decode cX8_feed 19 = .ok (.invokevirtual 73, 3) := by decide +kernel
theorem dX8_feed_22 : decode cX8_feed 22 = .ok (.aload_n 0, 1) := by decide +kernel
theorem dX8_feed_23 : decode cX8_feed 23 = .ok (.iload_n 3, 1) := by decide +kernel
theorem dX8_feed_24 : decode cX8_feed 24 = .ok (.invokevirtual 73, 3) := by decide +kernel
theorem dX8_feed_27 : decode cX8_feed 27 = .ok (.aload_n 0, 1) := by decide +kernel
theorem dX8_feed_28 : decode cX8_feed 28 = .ok (.iload 4, 2) := by decide +kernel
theorem dX8_feed_30 : decode cX8_feed 30 = .ok (.invokevirtual 73, 3) := by decide +kernel
theorem dX8_feed_33 : decode cX8_feed 33 = .ok (.aload_n 0, 1) := by decide +kernel
theorem dX8_feed_34 : decode cX8_feed 34 = .ok (.iload 5, 2) := by decide +kernel
theorem dX8_feed_36 : decode cX8_feed 36 = .ok (.invokevirtual 73, 3) := by decide +kernel
theorem dX8_feed_39 : decode cX8_feed 39 = .ok (.aload_n 0, 1) := by decide +kernel
theorem dX8_feed_40 : decode cX8_feed 40 = .ok (.getfield 69, 3) := by decide +kernel
theorem dX8_feed_43 : decode cX8_feed 43 = .ok (.ireturn, 1) := by decide +kernel
theorem dX8_putFourBytes_0 : decode cX8_putFourBytes 0 = .ok (.bipush 24, 2) := by decide +kernel
theorem dX8_putFourBytes_2 : decode cX8_putFourBytes 2 = .ok (.istore_n 2, 1) := by decide +kernel
theorem dX8_putFourBytes_3 : decode cX8_putFourBytes 3 = .ok (.iload_n 2, 1) := by decide +kernel
theorem dX8_putFourBytes_4 : decode cX8_putFourBytes 4 = .ok (.ifCond .lt 42, 3) := by decide +kernel
theorem dX8_putFourBytes_7 : decode cX8_putFourBytes 7 = .ok (.aload_n 0, 1) := by decide +kernel
theorem dX8_putFourBytes_8 : decode cX8_putFourBytes 8 = .ok (.getfield 69, 3) := by decide +kernel
theorem dX8_putFourBytes_11 : decode cX8_putFourBytes 11 = .ok (.sipush 400, 3) := by decide +kernel
theorem dX8_putFourBytes_14 : decode cX8_putFourBytes 14 = .ok (.if_icmp .ge 26, 3) := by decide +kernel
theorem dX8_putFourBytes_17 : decode cX8_putFourBytes 17 = .ok (.aload_n 0, 1) := by decide +kernel
theorem dX8_putFourBytes_18 : decode cX8_putFourBytes 18 = .ok (.getfield 9, 3) := by decide +kernel
theorem dX8_putFourBytes_21 : decode cX8_putFourBytes 21 = .ok (.aload_n 0, 1) := by decide +kernel
theorem dX8_putFourBytes_22 : decode cX8_putFourBytes 22 = .ok (.getfield 69, 3) := by decide +kernel
theorem dX8_putFourBytes_25 : decode cX8_putFourBytes 25 = .ok (.iload_n 1, 1) := by decide +kernel
theorem dX8_putFourBytes_26 : decode cX8_putFourBytes 26 = .ok (.iload_n 2, 1) := by decide +kernel
theorem dX8_putFourBytes_27 : decode cX8_putFourBytes 27 = .ok (.ishr, 1) := by decide +kernel
theorem dX8_putFourBytes_28 : decode cX8_putFourBytes 28 = .ok (.i2b, 1) := by decide +kernel
theorem dX8_putFourBytes_29 : decode cX8_putFourBytes 29 = .ok (.bastore, 1) := by decide +kernel
theorem dX8_putFourBytes_30 : decode cX8_putFourBytes 30 = .ok (.aload_n 0, 1) := by decide +kernel
theorem dX8_putFourBytes_31 : decode cX8_putFourBytes 31 = .ok (.dup, 1) := by decide +kernel
theorem dX8_putFourBytes_32 : decode cX8_putFourBytes 32 = .ok (.getfield 69, 3) := by decide +kernel
theorem dX8_putFourBytes_35 : decode cX8_putFourBytes 35 = .ok (.iconst 1, 1) := by decide +kernel
theorem dX8_putFourBytes_36 : decode cX8_putFourBytes 36 = .ok (.iadd, 1) := by decide +kernel
theorem dX8_putFourBytes_37 : decode cX8_putFourBytes 37 = .ok (.putfield 69, 3) := by decide +kernel
theorem dX8_putFourBytes_40 : decode cX8_putFourBytes 40 = .ok (.iinc 2 (-8), 3) := by decide +kernel
theorem dX8_putFourBytes_43 : decode cX8_putFourBytes 43 = .ok (.goto (-40), 3) := by decide +kernel
theorem dX8_putFourBytes_46 : decode cX8_putFourBytes 46 = .ok (.return_, 1) := by decide +kernel
theorem dX8_end_0 : decode cX8_end 0 = .ok (.iload_n 1, 1) := by decide +kernel
theorem dX8_end_1 : decode cX8_end 1 = .ok (.ifCond .lt 11, 3) := by decide +kernel
theorem dX8_end_4 : decode cX8_end 4 = .ok (.iload_n 1, 1) := by decide +kernel
theorem dX8_end_5 : decode cX8_end 5 = .ok (.aload_n 0, 1) := by decide +kernel
theorem dX8_end_6 : decode cX8_end 6 = .ok (.getfield 69, 3) := by decide +kernel
theorem dX8_end_9 : decode cX8_end 9 = .ok (.if_icmp .le 5, 3) := by decide +kernel
theorem dX8_end_12 : decode cX8_end 12 = .ok (.iconst 0, 1) := by decide +kernel
theorem dX8_end_13 : decode cX8_end 13 = .ok (.ireturn, 1) := by decide +kernel
theorem dX8_end_14 : decode cX8_end 14 = .ok (.aload_n 0, 1) := by decide +kernel
theorem dX8_end_15 : decode cX8_end 15 = .ok (.iload_n 1, 1) := by decide +kernel
theorem dX8_end_16 : decode cX8_end 16 = .ok (.putfield 69, 3) := by decide +kernel
theorem dX8_end_19 : decode cX8_end 19 = .ok (.iconst 1, 1) := by decide +kernel
theorem dX8_end_20 : decode cX8_end 20 = .ok (.ireturn, 1) := by decide +kernel
theorem dX8_read_0 : decode cX8_read 0 = .ok (.aload_n 0, 1) := by decide +kernel
theorem dX8_read_1 : decode cX8_read 1 = .ok (.getfield 69, 3) := by decide +kernel
theorem dX8_read_4 : decode cX8_read 4 = .ok (.istore_n 1, 1) := by decide +kernel
theorem dX8_read_5 : decode cX8_read 5 = .ok (.aload_n 0, 1) := by decide +kernel
theorem dX8_read_6 : decode cX8_read 6 = .ok (.iconst 0, 1) := by decide +kernel
theorem dX8_read_7 : decode cX8_read 7 = .ok (.putfield 69, 3) := by decide +kernel
theorem dX8_read_10 : decode cX8_read 10 = .ok (.aload_n 0, 1) := by decide +kernel
theorem dX8_read_11 : decode cX8_read 11 = .ok (.getfield 18, 3) := by decide +kernel
theorem dX8_read_14 : decode cX8_read 14 = .ok (.iload_n 1, 1) := by decide +kernel
theorem dX8_read_15 : decode cX8_read 15 = .ok (.invokevirtual 77, 3) := by decide +kernel
theorem dX8_read_18 : decode cX8_read 18 = .ok (.iconst 0, 1) := by decide +kernel
theorem dX8_read_19 : decode cX8_read 19 = .ok (.istore_n 2, 1) := by decide +kernel
theorem dX8_read_20 : decode cX8_read 20 = .ok (.iload_n 2, 1) := by decide +kernel
theorem dX8_read_21 : decode cX8_read 21 = .ok (.sipush 400, 3) := by decide +kernel
theorem dX8_read_24 : decode cX8_read 24 = .ok (.if_icmp .ge 26, 3) := by decide +kernel
theorem dX8_read_27 : decode cX8_read 27 = .ok (.aload_n 0, 1) := by decide +kernel
theorem dX8_read_28 : decode cX8_read 28 = .ok (.getfield 18, 3) := by decide +kernel
theorem dX8_read_31 : decode cX8_read 31 = .ok (.invokevirtual 80, 3) := by decide +kernel
theorem dX8_read_34 : decode cX8_read 34 = .ok (.ifCond .eq 16, 3) := by decide +kernel
theorem dX8_read_37 : decode cX8_read 37 = .ok (.aload_n 0, 1) := by decide +kernel
theorem dX8_read_38 : decode cX8_read 38 = .ok (.getfield 18, 3) := by decide +kernel
theorem dX8_read_41 : decode cX8_read 41 = .ok (.invokevirtual 84, 3) := by decide +kernel
theorem dX8_read_44 : decode cX8_read 44 = .ok (.iinc 2 1, 3) := by decide +kernel
theorem dX8_read_47 : decode cX8_read 47 = .ok (.goto (-27), 3) := by decide +kernel
theorem dX8_read_50 : decode cX8_read 50 = .ok (.aload_n 0, 1) := by decide +kernel
theorem dX8_read_51 : decode cX8_read 51 = .ok (.getfield 25, 3) := by decide +kernel
theorem dX8_read_54 : decode cX8_read 54 = .ok (.astore_n 2, 1) := by decide +kernel
theorem dX8_read_55 : decode cX8_read 55 = .ok (.aload_n 0, 1) := by decide +kernel
theorem dX8_read_56 : decode cX8_read 56 = .ok (.aload_n 0, 1) := by decide +kernel
theorem dX8_read_57 : decode cX8_read 57 = .ok (.getfield 18, 3) := by decide +kernel
theorem dX8_read_60 : decode cX8_read 60 = .ok (.getfield 87, 3) := by decide +kernel
theorem dX8_read_63 : decode cX8_read 63 = .ok (.putfield 25, 3) := by decide +kernel
theorem dX8_read_66 : decode cX8_read 66 = .ok (.aload_n 0, 1) := by decide +kernel
theorem dX8_read_67 : decode cX8_read 67 = .ok (.getfield 18, 3) := by decide +kernel
theorem dX8_read_70 : decode cX8_read 70 = .ok (.aload_n 2, 1) := by decide +kernel
theorem dX8_read_71 : decode cX8_read 71 = .ok (.putfield 87, 3) := by decide +kernel
theorem dX8_read_74 : decode cX8_read 74 = .ok (.aload_n 0, 1) := by decide +kernel
theorem dX8_read_75 : decode cX8_read 75 = .ok (.getfield 32, 3) := by decide +kernel
theorem dX8_read_78 : decode cX8_read 78 = .ok (.aload_n 0, 1) := by decide +kernel
theorem dX8_read_79 : decode cX8_read 79 = .ok (.getfield 18, 3) := by decide +kernel
theorem dX8_read_82 : decode cX8_read 82 = .ok (.getfield 88, 3) := by decide +kernel
theorem dX8_read_85 : decode cX8_read 85 = .ok (.invokevirtual 89, 3) := by decide +kernel
theorem dX8_read_88 : decode cX8_read 88 = .ok (.aload_n 0, 1) := by decide +kernel
theorem dX8_read_89 : decode cX8_read 89 = .ok (.getfield 39, 3) := by decide +kernel
theorem dX8_read_92 : decode cX8_read 92 = .ok (.invokevirtual 93, 3) := by decide +kernel
theorem dX8_read_95 : decode cX8_read 95 = .ok (.aload_n 0, 1) := by decide +kernel
theorem dX8_read_96 : decode cX8_read 96 = .ok (.iconst 1, 1) := by decide +kernel
theorem dX8_read_97 : decode cX8_read 97 = .ok (.putfield 52, 3) := by decide +kernel
theorem dX8_read_100 : decode cX8_read 100 = .ok (.aload_n 0, 1) := by decide +kernel
theorem dX8_read_101 : decode cX8_read 101 = .ok (.getfield 25, 3) := by decide +kernel
theorem dX8_read_104 : decode cX8_read 104 = .ok (.getfield 96, 3) := by decide +kernel
theorem dX8_read_107 : decode cX8_read 107 = .ok (.ireturn, 1) := by decide +kernel
theorem dX8_set_0 : decode cX8_set 0 = .ok (.iload_n 1, 1) := by decide +kernel
theorem dX8_set_1 : decode cX8_set 1 = .ok (.ifCond .lt 8, 3) := by decide +kernel
theorem dX8_set_4 : decode cX8_set 4 = .ok (.iload_n 1, 1) := by decide +kernel
theorem dX8_set_5 : decode cX8_set 5 = .ok (.iconst 5, 1) := by decide +kernel
theorem dX8_set_6 : decode cX8_set 6 = .ok (.if_icmp .lt 13, 3) := by decide +kernel
theorem dX8_set_9 : decode cX8_set 9 = .ok (.new 138, 3) := by decide +kernel
theorem dX8_set_12 : decode cX8_set 12 = .ok (.dup, 1) := by decide +kernel
theorem dX8_set_13 : decode cX8_set 13 = .ok (.ldc 241, 2) := by decide +kernel
theorem dX8_set_15 : decode cX8_set 15 = .ok (.invokespecial 142, 3) := by decide +kernel
theorem dX8_set_18 : decode cX8_set 18 = .ok (.athrow, 1) := by decide +kernel
theorem dX8_set_19 : decode cX8_set 19 = .ok (.iload_n 2, 1) := by decide +kernel
theorem dX8_set_20 : decode cX8_set 20 = .ok (.ifCond .lt 12, 3) := by decide +kernel
theorem dX8_set_23 : decode cX8_set 23 = .ok (.iload_n 2, 1) := by decide +kernel
theorem dX8_set_24 : decode cX8_set 24 = .ok (.getstatic 243, 3) := by decide +kernel
theorem dX8_set_27 : decode cX8_set 27 = .ok (.iload_n 1, 1) := by decide +kernel
theorem dX8_set_28 : decode cX8_set 28 = .ok (.iaload, 1) := by decide +kernel
theorem dX8_set_29 : decode cX8_set 29 = .ok (.if_icmp .le 13, 3) := by decide +kernel
theorem dX8_set_32 : decode cX8_set 32 = .ok (.new 207, 3) := by decide +kernel
theorem dX8_set_35 : decode cX8_set 35 = .ok (.dup, 1) := by decide +kernel
theorem dX8_set_36 : decode cX8_set 36 = .ok (.ldc 246, 2) := by decide +kernel
theorem dX8_set_38 : decode cX8_set 38 = .ok (.invokespecial 211, 3) := by decide +kernel
theorem dX8_set_41 : decode cX8_set 41 = .ok (.athrow, 1) := by decide +kernel
theorem dX8_set_42 : decode cX8_set 42 = .ok (.aload_n 0, 1) := by decide +kernel
theorem dX8_set_43 : decode cX8_set 43 = .ok (.invokevirtual 198, 3) := by decide +kernel
theorem dX8_set_46 : decode cX8_set 46 = .ok (.aload_n 0, 1) := by decide +kernel
theorem dX8_set_47 : decode cX8_set 47 = .ok (.getfield 32, 3) := by decide +kernel
theorem dX8_set_50 : decode cX8_set 50 = .ok (.iload_n 1, 1) := by decide +kernel
theorem dX8_set_51 : decode cX8_set 51 = .ok (.invokevirtual 204, 3) := by decide +kernel
theorem dX8_set_54 : decode cX8_set 54 = .ok (.istore_n 3, 1) := by decide +kernel
theorem dX8_set_55 : decode cX8_set 55 = .ok (.aload_n 0, 1) := by decide +kernel
theorem dX8_set_56 : decode cX8_set 56 = .ok (.getfield 32, 3) := by decide +kernel
theorem dX8_set_59 : decode cX8_set 59 = .ok (.iload_n 1, 1) := by decide +kernel
theorem dX8_set_60 : decode cX8_set 60 = .ok (.iload_n 2, 1) := by decide +kernel
theorem dX8_set_61 : decode cX8_set 61 = .ok (.invokevirtual 248, 3) := by decide +kernel
theorem dX8_set_64 : decode cX8_set 64 = .ok (.iload_n 3, 1) := by decide +kernel
theorem dX8_set_65 : decode cX8_set 65 = .ok (.ireturn, 1) := by decide +kernel
theorem dX8_undo_0 : decode cX8_undo 0 = .ok (.aload_n 0, 1) := by decide +kernel
theorem dX8_undo_1 : decode cX8_undo 1 = .ok (.getfield 39, 3) := by decide +kernel
theorem dX8_undo_4 : decode cX8_undo 4 = .ok (.getfield 251, 3) := by decide +kernel
theorem dX8_undo_7 : decode cX8_undo 7 = .ok (.ifCond .ne 5, 3) := by decide +kernel
theorem dX8_undo_10 : decode cX8_undo 10 = .ok (.iconst (-1), 1) := by decide +kernel
theorem dX8_undo_11 : decode cX8_undo 11 = .ok (.ireturn, 1) := by decide +kernel
theorem dX8_undo_12 : decode cX8_undo 12 = .ok (.aload_n 0, 1) := by decide +kernel
theorem dX8_undo_13 : decode cX8_undo 13 = .ok (.getfield 39, 3) := by decide +kernel
theorem dX8_undo_16 : decode cX8_undo 16 = .ok (.aload_n 0, 1) := by decide +kernel
theorem dX8_undo_17 : decode cX8_undo 17 = .ok (.getfield 32, 3) := by decide +kernel
theorem dX8_undo_20 : decode cX8_undo 20 = .ok (.invokevirtual 254, 3) := by decide +kernel
theorem dX8_undo_23 : decode cX8_undo 23 = .ok (.aload_n 0, 1) := by decide +kernel
theorem dX8_undo_24 : decode cX8_undo 24 = .ok (.iconst 1, 1) := by decide +kernel
theorem dX8_undo_25 : decode cX8_undo 25 = .ok (.putfield 52, 3) := by decide +kernel
theorem dX8_undo_28 : decode cX8_undo 28 = .ok (.aload_n 0, 1) := by decide +kernel
theorem dX8_undo_29 : decode cX8_undo 29 = .ok (.getfield 39, 3) := by decide +kernel
theorem dX8_undo_32 : decode cX8_undo 32 = .ok (.getfield 251, 3) := by decide +kernel
theorem dX8_undo_35 : decode cX8_undo 35 = .ok (.ireturn, 1) := by decide +kernel
theorem dX8_beginAct_0 : decode cX8_beginAct 0 = .ok (.aload_n 0, 1) := by decide +kernel
theorem dX8_beginAct_1 : decode cX8_beginAct 1 = .ok (.getfield 39, 3) := by decide +kernel
theorem dX8_beginAct_4 : decode cX8_beginAct 4 = .ok (.aload_n 0, 1) := by decide +kernel
theorem dX8_beginAct_5 : decode cX8_beginAct 5 = .ok (.getfield 32, 3) := by decide +kernel
theorem dX8_beginAct_8 : decode cX8_beginAct 8 = .ok (.invokevirtual 257, 3) := by decide +kernel
theorem dX8_beginAct_11 : decode cX8_beginAct 11 = .ok (.aload_n 0, 1) := by decide +kernel
theorem dX8_beginAct_12 : decode cX8_beginAct 12 = .ok (.iconst 1, 1) := by decide +kernel
theorem dX8_beginAct_13 : decode cX8_beginAct 13 = .ok (.putfield 52, 3) := by decide +kernel
theorem dX8_beginAct_16 : decode cX8_beginAct 16 = .ok (.return_, 1) := by decide +kernel
theorem dX8_estate_0 : decode cX8_estate 0 = .ok (.iload_n 1, 1) := by decide +kernel
theorem dX8_estate_1 : decode cX8_estate 1 = .ok (.tableswitch 132 0 7 #[47, 55, 63, 84, 92, 100, 108, 124], 47) := by decide +kernel
theorem dX8_estate_48 : decode cX8_estate 48 = .ok (.aload_n 0, 1) := by decide +kernel
theorem dX8_estate_49 : decode cX8_estate 49 = .ok (.invokevirtual 159, 3) := by decide +kernel
theorem dX8_estate_52 : decode cX8_estate 52 = .ok (.getfield 260, 3) := by decide +kernel
theorem dX8_estate_55 : decode cX8_estate 55 = .ok (.ireturn, 1) := by decide +kernel
theorem dX8_estate_56 : decode cX8_estate 56 = .ok (.aload_n 0, 1) := by decide +kernel
theorem dX8_estate_57 : decode cX8_estate 57 = .ok (.invokevirtual 159, 3) := by decide +kernel
theorem dX8_estate_60 : decode cX8_estate 60 = .ok (.getfield 263, 3) := by decide +kernel
theorem dX8_estate_63 : decode cX8_estate 63 = .ok (.ireturn, 1) := by decide +kernel
theorem dX8_estate_64 : decode cX8_estate 64 = .ok (.iconst 0, 1) := by decide +kernel
theorem dX8_estate_65 : decode cX8_estate 65 = .ok (.aload_n 0, 1) := by decide +kernel
theorem dX8_estate_66 : decode cX8_estate 66 = .ok (.getfield 32, 3) := by decide +kernel
theorem dX8_estate_69 : decode cX8_estate 69 = .ok (.iconst 1, 1) := by decide +kernel
theorem dX8_estate_70 : decode cX8_estate 70 = .ok (.invokevirtual 204, 3) := by decide +kernel
theorem dX8_estate_73 : decode cX8_estate 73 = .ok (.aload_n 0, 1) := by decide +kernel
theorem dX8_estate_74 : decode cX8_estate 74 = .ok (.invokevirtual 159, 3) := by decide +kernel
theorem dX8_estate_77 : decode cX8_estate 77 = .ok (.getfield 260, 3) := by decide +kernel
theorem dX8_estate_80 : decode cX8_estate 80 = .ok (.isub, 1) := by decide +kernel
theorem dX8_estate_81 : decode cX8_estate 81 = .ok (.invokestatic 266, 3) := by decide +kernel
theorem dX8_estate_84 : decode cX8_estate 84 = .ok (.ireturn, 1) := by decide +kernel
theorem dX8_estate_85 : decode cX8_estate 85 = .ok (.aload_n 0, 1) := by decide +kernel
theorem dX8_estate_86 : decode cX8_estate 86 = .ok (.invokevirtual 159, 3) := by decide +kernel
theorem dX8_estate_89 : decode cX8_estate 89 = .ok (.getfield 271, 3) := by decide +kernel
theorem dX8_estate_92 : decode cX8_estate 92 = .ok (.ireturn, 1) := by decide +kernel
theorem dX8_estate_93 : decode cX8_estate 93 = .ok (.aload_n 0, 1) := by decide +kernel
theorem dX8_estate_94 : decode cX8_estate 94 = .ok (.invokevirtual 159, 3) := by decide +kernel
theorem dX8_estate_97 : decode cX8_estate 97 = .ok (.getfield 274, 3) := by decide +kernel
theorem dX8_estate_100 : decode cX8_estate 100 = .ok (.ireturn, 1) := by decide +kernel
theorem dX8_estate_101 : decode cX8_estate 101 = .ok (.aload_n 0, 1) := by decide +kernel
theorem dX8_estate_102 : decode cX8_estate 102 = .ok (.invokevirtual 159, 3) := by decide +kernel
theorem dX8_estate_105 : decode cX8_estate 105 = .ok (.getfield 277, 3) := by decide +kernel
theorem dX8_estate_108 : decode cX8_estate 108 = .ok (.ireturn, 1) := by decide +kernel
theorem dX8_estate_109 : decode cX8_estate 109 = .ok (.aload_n 0, 1) := by decide +kernel
theorem dX8_estate_110 : decode cX8_estate 110 = .ok (.invokevirtual 159, 3) := by decide +kernel
theorem dX8_estate_113 : decode cX8_estate 113 = .ok (.getfield 263, 3) := by decide +kernel
theorem dX8_estate_116 : decode cX8_estate 116 = .ok (.aload_n 0, 1) := by decide +kernel
theorem dX8_estate_117 : decode cX8_estate 117 = .ok (.invokevirtual 159, 3) := by decide +kernel
theorem dX8_estate_120 : decode cX8_estate 120 = .ok (.getfield 271, 3) := by decide +kernel
theorem dX8_estate_123 : decode cX8_estate 123 = .ok (.isub, 1) := by decide +kernel
theorem dX8_estate_124 : decode cX8_estate 124 = .ok (.ireturn, 1) := by decide +kernel
theorem dX8_estate_125 : decode cX8_estate 125 = .ok (.aload_n 0, 1) := by decide +kernel
theorem dX8_estate_126 : decode cX8_estate 126 = .ok (.invokevirtual 159, 3) := by decide +kernel
theorem dX8_estate_129 : decode cX8_estate 129 = .ok (.getfield 280, 3) := by decide +kernel
theorem dX8_estate_132 : decode cX8_estate 132 = .ok (.ireturn, 1) := by decide +kernel
theorem dX8_estate_133 : decode cX8_estate 133 = .ok (.new 138, 3) := by decide +kernel
theorem dX8_estate_136 : decode cX8_estate 136 = .ok (.dup, 1) := by decide +kernel
theorem dX8_estate_137 : decode cX8_estate 137 = .ok (.ldc_w 283, 3) := by decide +kernel
theorem dX8_estate_140 : decode cX8_estate 140 = .ok (.invokespecial 142, 3) := by decide +kernel
theorem dX8_estate_143 : decode cX8_estate 143 = .ok (.athrow, 1) := by decide +kernel
theorem dX8_classed_0 : decode cX8_classed 0 = .ok (.aload_n 0, 1) := by decide +kernel
theorem dX8_classed_1 : decode cX8_classed 1 = .ok (.iload_n 1, 1) := by decide +kernel
theorem dX8_classed_2 : decode cX8_classed 2 = .ok (.bipush 6, 2) := by decide +kernel
theorem dX8_classed_4 : decode cX8_classed 4 = .ok (.invokevirtual 285, 3) := by decide +kernel
theorem dX8_classed_7 : decode cX8_classed 7 = .ok (.iload_n 2, 1) := by decide +kernel
theorem dX8_classed_8 : decode cX8_classed 8 = .ok (.tableswitch 55 0 2 #[28, 37, 46], 28) := by decide +kernel
theorem dX8_classed_36 : decode cX8_classed 36 = .ok (.aload_n 0, 1) := by decide +kernel
theorem dX8_classed_37 : decode cX8_classed 37 = .ok (.invokevirtual 159, 3) := by decide +kernel
theorem dX8_classed_40 : decode cX8_classed 40 = .ok (.iload_n 1, 1) := by decide +kernel
theorem dX8_classed_41 : decode cX8_classed 41 = .ok (.invokevirtual 299, 3) := by decide +kernel
theorem dX8_classed_44 : decode cX8_classed 44 = .ok (.ireturn, 1) := by decide +kernel
theorem dX8_classed_45 : decode cX8_classed 45 = .ok (.aload_n 0, 1) := by decide +kernel
theorem dX8_classed_46 : decode cX8_classed 46 = .ok (.invokevirtual 159, 3) := by decide +kernel
theorem dX8_classed_49 : decode cX8_classed 49 = .ok (.iload_n 1, 1) := by decide +kernel
theorem dX8_classed_50 : decode cX8_classed 50 = .ok (.invokevirtual 302, 3) := by decide +kernel
theorem dX8_classed_53 : decode cX8_classed 53 = .ok (.ireturn, 1) := by decide +kernel
theorem dX8_classed_54 : decode cX8_classed 54 = .ok (.aload_n 0, 1) := by decide +kernel
theorem dX8_classed_55 : decode cX8_classed 55 = .ok (.invokevirtual 159, 3) := by decide +kernel
theorem dX8_classed_58 : decode cX8_classed 58 = .ok (.iload_n 1, 1) := by decide +kernel
theorem dX8_classed_59 : decode cX8_classed 59 = .ok (.invokevirtual 305, 3) := by decide +kernel
theorem dX8_classed_62 : decode cX8_classed 62 = .ok (.ireturn, 1) := by decide +kernel
theorem dX8_classed_63 : decode cX8_classed 63 = .ok (.new 138, 3) := by decide +kernel
theorem dX8_classed_66 : decode cX8_classed 66 = .ok (.dup, 1) := by decide +kernel
theorem dX8_classed_67 : decode cX8_classed 67 = .ok (.ldc_w 308, 3) := by decide +kernel
theorem dX8_classed_70 : decode cX8_classed 70 = .ok (.invokespecial 142, 3) := by decide +kernel
theorem dX8_classed_73 : decode cX8_classed 73 = .ok (.athrow, 1) := by decide +kernel
theorem dX8_leastDebt_0 : decode cX8_leastDebt 0 = .ok (.aload_n 0, 1) := by decide +kernel
theorem dX8_leastDebt_1 : decode cX8_leastDebt 1 = .ok (.iload_n 1, 1) := by decide +kernel
theorem dX8_leastDebt_2 : decode cX8_leastDebt 2 = .ok (.iconst 4, 1) := by decide +kernel
theorem dX8_leastDebt_3 : decode cX8_leastDebt 3 = .ok (.invokevirtual 285, 3) := by decide +kernel
theorem dX8_leastDebt_6 : decode cX8_leastDebt 6 = .ok (.aload_n 0, 1) := by decide +kernel
theorem dX8_leastDebt_7 : decode cX8_leastDebt 7 = .ok (.invokevirtual 159, 3) := by decide +kernel
theorem dX8_leastDebt_10 : decode cX8_leastDebt 10 = .ok (.iload_n 1, 1) := by decide +kernel
theorem dX8_leastDebt_11 : decode cX8_leastDebt 11 = .ok (.invokevirtual 299, 3) := by decide +kernel
theorem dX8_leastDebt_14 : decode cX8_leastDebt 14 = .ok (.ifCond .ne 5, 3) := by decide +kernel
theorem dX8_leastDebt_17 : decode cX8_leastDebt 17 = .ok (.iconst (-1), 1) := by decide +kernel
theorem dX8_leastDebt_18 : decode cX8_leastDebt 18 = .ok (.ireturn, 1) := by decide +kernel
theorem dX8_leastDebt_19 : decode cX8_leastDebt 19 = .ok (.iconst 0, 1) := by decide +kernel
theorem dX8_leastDebt_20 : decode cX8_leastDebt 20 = .ok (.aload_n 0, 1) := by decide +kernel
theorem dX8_leastDebt_21 : decode cX8_leastDebt 21 = .ok (.invokevirtual 159, 3) := by decide +kernel
theorem dX8_leastDebt_24 : decode cX8_leastDebt 24 = .ok (.getfield 260, 3) := by decide +kernel
theorem dX8_leastDebt_27 : decode cX8_leastDebt 27 = .ok (.aload_n 0, 1) := by decide +kernel
theorem dX8_leastDebt_28 : decode cX8_leastDebt 28 = .ok (.invokevirtual 159, 3) := by decide +kernel
theorem dX8_leastDebt_31 : decode cX8_leastDebt 31 = .ok (.iload_n 1, 1) := by decide +kernel
theorem dX8_leastDebt_32 : decode cX8_leastDebt 32 = .ok (.invokevirtual 312, 3) := by decide +kernel
theorem dX8_leastDebt_35 : decode cX8_leastDebt 35 = .ok (.isub, 1) := by decide +kernel
theorem dX8_leastDebt_36 : decode cX8_leastDebt 36 = .ok (.iconst 1, 1) := by decide +kernel
theorem dX8_leastDebt_37 : decode cX8_leastDebt 37 = .ok (.iadd, 1) := by decide +kernel
theorem dX8_leastDebt_38 : decode cX8_leastDebt 38 = .ok (.invokestatic 266, 3) := by decide +kernel
theorem dX8_leastDebt_41 : decode cX8_leastDebt 41 = .ok (.ireturn, 1) := by decide +kernel
theorem dX8_taken_0 : decode cX8_taken 0 = .ok (.aload_n 0, 1) := by decide +kernel
theorem dX8_taken_1 : decode cX8_taken 1 = .ok (.iload_n 1, 1) := by decide +kernel
theorem dX8_taken_2 : decode cX8_taken 2 = .ok (.invokevirtual 102, 3) := by decide +kernel
theorem dX8_taken_5 : decode cX8_taken 5 = .ok (.iload_n 2, 1) := by decide +kernel
theorem dX8_taken_6 : decode cX8_taken 6 = .ok (.tableswitch 54 0 2 #[26, 35, 45], 26) := by decide +kernel
theorem dX8_taken_32 : decode cX8_taken 32 = .ok (.aload_n 0, 1) := by decide +kernel
theorem dX8_taken_33 : decode cX8_taken 33 = .ok (.invokevirtual 159, 3) := by decide +kernel
theorem dX8_taken_36 : decode cX8_taken 36 = .ok (.iload_n 1, 1) := by decide +kernel
theorem dX8_taken_37 : decode cX8_taken 37 = .ok (.invokevirtual 325, 3) := by decide +kernel
theorem dX8_taken_40 : decode cX8_taken 40 = .ok (.ireturn, 1) := by decide +kernel
theorem dX8_taken_41 : decode cX8_taken 41 = .ok (.aload_n 0, 1) := by decide +kernel
theorem dX8_taken_42 : decode cX8_taken 42 = .ok (.invokevirtual 159, 3) := by decide +kernel
theorem dX8_taken_45 : decode cX8_taken 45 = .ok (.getfield 328, 3) := by decide +kernel
theorem dX8_taken_48 : decode cX8_taken 48 = .ok (.iload_n 1, 1) := by decide +kernel
theorem dX8_taken_49 : decode cX8_taken 49 = .ok (.iaload, 1) := by decide +kernel
theorem dX8_taken_50 : decode cX8_taken 50 = .ok (.ireturn, 1) := by decide +kernel
theorem dX8_taken_51 : decode cX8_taken 51 = .ok (.aload_n 0, 1) := by decide +kernel
theorem dX8_taken_52 : decode cX8_taken 52 = .ok (.invokevirtual 159, 3) := by decide +kernel
theorem dX8_taken_55 : decode cX8_taken 55 = .ok (.iload_n 1, 1) := by decide +kernel
theorem dX8_taken_56 : decode cX8_taken 56 = .ok (.invokevirtual 331, 3) := by decide +kernel
theorem dX8_taken_59 : decode cX8_taken 59 = .ok (.ireturn, 1) := by decide +kernel
theorem dX8_taken_60 : decode cX8_taken 60 = .ok (.new 138, 3) := by decide +kernel
theorem dX8_taken_63 : decode cX8_taken 63 = .ok (.dup, 1) := by decide +kernel
theorem dX8_taken_64 : decode cX8_taken 64 = .ok (.ldc_w 334, 3) := by decide +kernel
theorem dX8_taken_67 : decode cX8_taken 67 = .ok (.invokespecial 142, 3) := by decide +kernel
theorem dX8_taken_70 : decode cX8_taken 70 = .ok (.athrow, 1) := by decide +kernel
theorem dX8_count_0 : decode cX8_count 0 = .ok (.iload_n 1, 1) := by decide +kernel
theorem dX8_count_1 : decode cX8_count 1 = .ok (.tableswitch 197 0 14 #[75, 86, 97, 105, 114, 123, 132, 141, 150, 155, 160, 168, 176, 184, 192], 75) := by decide +kernel
theorem dX8_count_76 : decode cX8_count 76 = .ok (.aload_n 0, 1) := by decide +kernel
theorem dX8_count_77 : decode cX8_count 77 = .ok (.getfield 25, 3) := by decide +kernel
theorem dX8_count_80 : decode cX8_count 80 = .ok (.getfield 118, 3) := by decide +kernel
theorem dX8_count_83 : decode cX8_count 83 = .ok (.getfield 339, 3) := by decide +kernel
theorem dX8_count_86 : decode cX8_count 86 = .ok (.ireturn, 1) := by decide +kernel
theorem dX8_count_87 : decode cX8_count 87 = .ok (.aload_n 0, 1) := by decide +kernel
theorem dX8_count_88 : decode cX8_count 88 = .ok (.getfield 25, 3) := by decide +kernel
theorem dX8_count_91 : decode cX8_count 91 = .ok (.getfield 105, 3) := by decide +kernel
theorem dX8_count_94 : decode cX8_count 94 = .ok (.getfield 339, 3) := by decide +kernel
theorem dX8_count_97 : decode cX8_count 97 = .ok (.ireturn, 1) := by decide +kernel
theorem dX8_count_98 : decode cX8_count 98 = .ok (.aload_n 0, 1) := by decide +kernel
theorem dX8_count_99 : decode cX8_count 99 = .ok (.getfield 25, 3) := by decide +kernel
theorem dX8_count_102 : decode cX8_count 102 = .ok (.getfield 96, 3) := by decide +kernel
theorem dX8_count_105 : decode cX8_count 105 = .ok (.ireturn, 1) := by decide +kernel
theorem dX8_count_106 : decode cX8_count 106 = .ok (.aload_n 0, 1) := by decide +kernel
theorem dX8_count_107 : decode cX8_count 107 = .ok (.getfield 32, 3) := by decide +kernel
theorem dX8_count_110 : decode cX8_count 110 = .ok (.iconst 0, 1) := by decide +kernel
theorem dX8_count_111 : decode cX8_count 111 = .ok (.invokevirtual 204, 3) := by decide +kernel
theorem dX8_count_114 : decode cX8_count 114 = .ok (.ireturn, 1) := by decide +kernel
theorem dX8_count_115 : decode cX8_count 115 = .ok (.aload_n 0, 1) := by decide +kernel
theorem dX8_count_116 : decode cX8_count 116 = .ok (.getfield 32, 3) := by decide +kernel
theorem dX8_count_119 : decode cX8_count 119 = .ok (.iconst 1, 1) := by decide +kernel
theorem dX8_count_120 : decode cX8_count 120 = .ok (.invokevirtual 204, 3) := by decide +kernel
theorem dX8_count_123 : decode cX8_count 123 = .ok (.ireturn, 1) := by decide +kernel
theorem dX8_count_124 : decode cX8_count 124 = .ok (.aload_n 0, 1) := by decide +kernel
theorem dX8_count_125 : decode cX8_count 125 = .ok (.getfield 32, 3) := by decide +kernel
theorem dX8_count_128 : decode cX8_count 128 = .ok (.iconst 2, 1) := by decide +kernel
theorem dX8_count_129 : decode cX8_count 129 = .ok (.invokevirtual 204, 3) := by decide +kernel
theorem dX8_count_132 : decode cX8_count 132 = .ok (.ireturn, 1) := by decide +kernel
theorem dX8_count_133 : decode cX8_count 133 = .ok (.aload_n 0, 1) := by decide +kernel
theorem dX8_count_134 : decode cX8_count 134 = .ok (.getfield 32, 3) := by decide +kernel
theorem dX8_count_137 : decode cX8_count 137 = .ok (.iconst 3, 1) := by decide +kernel
theorem dX8_count_138 : decode cX8_count 138 = .ok (.invokevirtual 204, 3) := by decide +kernel
theorem dX8_count_141 : decode cX8_count 141 = .ok (.ireturn, 1) := by decide +kernel
theorem dX8_count_142 : decode cX8_count 142 = .ok (.aload_n 0, 1) := by decide +kernel
theorem dX8_count_143 : decode cX8_count 143 = .ok (.getfield 32, 3) := by decide +kernel
theorem dX8_count_146 : decode cX8_count 146 = .ok (.iconst 4, 1) := by decide +kernel
theorem dX8_count_147 : decode cX8_count 147 = .ok (.invokevirtual 204, 3) := by decide +kernel
theorem dX8_count_150 : decode cX8_count 150 = .ok (.ireturn, 1) := by decide +kernel
theorem dX8_count_151 : decode cX8_count 151 = .ok (.aload_n 0, 1) := by decide +kernel
theorem dX8_count_152 : decode cX8_count 152 = .ok (.invokevirtual 230, 3) := by decide +kernel
theorem dX8_count_155 : decode cX8_count 155 = .ok (.ireturn, 1) := by decide +kernel
theorem dX8_count_156 : decode cX8_count 156 = .ok (.aload_n 0, 1) := by decide +kernel
theorem dX8_count_157 : decode cX8_count 157 = .ok (.invokevirtual 387, 3) := by decide +kernel
theorem dX8_count_160 : decode cX8_count 160 = .ok (.ireturn, 1) := by decide +kernel
theorem dX8_count_161 : decode cX8_count 161 = .ok (.aload_n 0, 1) := by decide +kernel
theorem dX8_count_162 : decode cX8_count 162 = .ok (.invokevirtual 159, 3) := by decide +kernel
theorem dX8_count_165 : decode cX8_count 165 = .ok (.invokevirtual 390, 3) := by decide +kernel
theorem dX8_count_168 : decode cX8_count 168 = .ok (.ireturn, 1) := by decide +kernel
theorem dX8_count_169 : decode cX8_count 169 = .ok (.aload_n 0, 1) := by decide +kernel
theorem dX8_count_170 : decode cX8_count 170 = .ok (.invokevirtual 159, 3) := by decide +kernel
theorem dX8_count_173 : decode cX8_count 173 = .ok (.getfield 393, 3) := by decide +kernel
theorem dX8_count_176 : decode cX8_count 176 = .ok (.ireturn, 1) := by decide +kernel
theorem dX8_count_177 : decode cX8_count 177 = .ok (.aload_n 0, 1) := by decide +kernel
theorem dX8_count_178 : decode cX8_count 178 = .ok (.getfield 39, 3) := by decide +kernel
theorem dX8_count_181 : decode cX8_count 181 = .ok (.getfield 251, 3) := by decide +kernel
theorem dX8_count_184 : decode cX8_count 184 = .ok (.ireturn, 1) := by decide +kernel
theorem dX8_count_185 : decode cX8_count 185 = .ok (.aload_n 0, 1) := by decide +kernel
theorem dX8_count_186 : decode cX8_count 186 = .ok (.getfield 65, 3) := by decide +kernel
theorem dX8_count_189 : decode cX8_count 189 = .ok (.invokevirtual 380, 3) := by decide +kernel
theorem dX8_count_192 : decode cX8_count 192 = .ok (.ireturn, 1) := by decide +kernel
theorem dX8_count_193 : decode cX8_count 193 = .ok (.aload_n 0, 1) := by decide +kernel
theorem dX8_count_194 : decode cX8_count 194 = .ok (.invokevirtual 396, 3) := by decide +kernel
theorem dX8_count_197 : decode cX8_count 197 = .ok (.ireturn, 1) := by decide +kernel
theorem dX8_count_198 : decode cX8_count 198 = .ok (.iconst (-1), 1) := by decide +kernel
theorem dX8_count_199 : decode cX8_count 199 = .ok (.ireturn, 1) := by decide +kernel
theorem dX8_countLiving_0 : decode cX8_countLiving 0 = .ok (.iconst 0, 1) := by decide +kernel
theorem dX8_countLiving_1 : decode cX8_countLiving 1 = .ok (.istore_n 1, 1) := by decide +kernel
theorem dX8_countLiving_2 : decode cX8_countLiving 2 = .ok (.iconst 0, 1) := by decide +kernel
theorem dX8_countLiving_3 : decode cX8_countLiving 3 = .ok (.istore_n 2, 1) := by decide +kernel
theorem dX8_countLiving_4 : decode cX8_countLiving 4 = .ok (.iload_n 2, 1) := by decide +kernel
theorem dX8_countLiving_5 : decode cX8_countLiving 5 = .ok (.aload_n 0, 1) := by decide +kernel
theorem dX8_countLiving_6 : decode cX8_countLiving 6 = .ok (.getfield 25, 3) := by decide +kernel
theorem dX8_countLiving_9 : decode cX8_countLiving 9 = .ok (.getfield 105, 3) := by decide +kernel
theorem dX8_countLiving_12 : decode cX8_countLiving 12 = .ok (.getfield 339, 3) := by decide +kernel
theorem dX8_countLiving_15 : decode cX8_countLiving 15 = .ok (.if_icmp .ge 28, 3) := by decide +kernel
theorem dX8_countLiving_18 : decode cX8_countLiving 18 = .ok (.iload_n 1, 1) := by decide +kernel
theorem dX8_countLiving_19 : decode cX8_countLiving 19 = .ok (.aload_n 0, 1) := by decide +kernel
theorem dX8_countLiving_20 : decode cX8_countLiving 20 = .ok (.getfield 32, 3) := by decide +kernel
theorem dX8_countLiving_23 : decode cX8_countLiving 23 = .ok (.iload_n 2, 1) := by decide +kernel
theorem dX8_countLiving_24 : decode cX8_countLiving 24 = .ok (.invokevirtual 156, 3) := by decide +kernel
theorem dX8_countLiving_27 : decode cX8_countLiving 27 = .ok (.ifCond .eq 7, 3) := by decide +kernel
theorem dX8_countLiving_30 : decode cX8_countLiving 30 = .ok (.iconst 0, 1) := by decide +kernel
theorem dX8_countLiving_31 : decode cX8_countLiving 31 = .ok (.goto 4, 3) := by decide +kernel
theorem dX8_countLiving_34 : decode cX8_countLiving 34 = .ok (.iconst 1, 1) := by decide +kernel
theorem dX8_countLiving_35 : decode cX8_countLiving 35 = .ok (.iadd, 1) := by decide +kernel
theorem dX8_countLiving_36 : decode cX8_countLiving 36 = .ok (.istore_n 1, 1) := by decide +kernel
theorem dX8_countLiving_37 : decode cX8_countLiving 37 = .ok (.iinc 2 1, 3) := by decide +kernel
theorem dX8_countLiving_40 : decode cX8_countLiving 40 = .ok (.goto (-36), 3) := by decide +kernel
theorem dX8_countLiving_43 : decode cX8_countLiving 43 = .ok (.iload_n 1, 1) := by decide +kernel
theorem dX8_countLiving_44 : decode cX8_countLiving 44 = .ok (.ireturn, 1) := by decide +kernel
theorem dX8_countHeld_0 : decode cX8_countHeld 0 = .ok (.iconst 0, 1) := by decide +kernel
theorem dX8_countHeld_1 : decode cX8_countHeld 1 = .ok (.istore_n 1, 1) := by decide +kernel
theorem dX8_countHeld_2 : decode cX8_countHeld 2 = .ok (.iconst 0, 1) := by decide +kernel
theorem dX8_countHeld_3 : decode cX8_countHeld 3 = .ok (.istore_n 2, 1) := by decide +kernel
theorem dX8_countHeld_4 : decode cX8_countHeld 4 = .ok (.iload_n 2, 1) := by decide +kernel
theorem dX8_countHeld_5 : decode cX8_countHeld 5 = .ok (.aload_n 0, 1) := by decide +kernel
theorem dX8_countHeld_6 : decode cX8_countHeld 6 = .ok (.getfield 25, 3) := by decide +kernel
theorem dX8_countHeld_9 : decode cX8_countHeld 9 = .ok (.getfield 118, 3) := by decide +kernel
theorem dX8_countHeld_12 : decode cX8_countHeld 12 = .ok (.getfield 339, 3) := by decide +kernel
theorem dX8_countHeld_15 : decode cX8_countHeld 15 = .ok (.if_icmp .ge 28, 3) := by decide +kernel
theorem dX8_countHeld_18 : decode cX8_countHeld 18 = .ok (.iload_n 1, 1) := by decide +kernel
theorem dX8_countHeld_19 : decode cX8_countHeld 19 = .ok (.aload_n 0, 1) := by decide +kernel
theorem dX8_countHeld_20 : decode cX8_countHeld 20 = .ok (.getfield 32, 3) := by decide +kernel
theorem dX8_countHeld_23 : decode cX8_countHeld 23 = .ok (.iload_n 2, 1) := by decide +kernel
theorem dX8_countHeld_24 : decode cX8_countHeld 24 = .ok (.invokevirtual 131, 3) := by decide +kernel
theorem dX8_countHeld_27 : decode cX8_countHeld 27 = .ok (.ifCond .eq 7, 3) := by decide +kernel
theorem dX8_countHeld_30 : decode cX8_countHeld 30 = .ok (.iconst 1, 1) := by decide +kernel
theorem dX8_countHeld_31 : decode cX8_countHeld 31 = .ok (.goto 4, 3) := by decide +kernel
theorem dX8_countHeld_34 : decode cX8_countHeld 34 = .ok (.iconst 0, 1) := by decide +kernel
theorem dX8_countHeld_35 : decode cX8_countHeld 35 = .ok (.iadd, 1) := by decide +kernel
theorem dX8_countHeld_36 : decode cX8_countHeld 36 = .ok (.istore_n 1, 1) := by decide +kernel
theorem dX8_countHeld_37 : decode cX8_countHeld 37 = .ok (.iinc 2 1, 3) := by decide +kernel
theorem dX8_countHeld_40 : decode cX8_countHeld 40 = .ok (.goto (-36), 3) := by decide +kernel
theorem dX8_countHeld_43 : decode cX8_countHeld 43 = .ok (.iload_n 1, 1) := by decide +kernel
theorem dX8_countHeld_44 : decode cX8_countHeld 44 = .ok (.ireturn, 1) := by decide +kernel
theorem dX8_countRenounced_0 : decode cX8_countRenounced 0 = .ok (.iconst 0, 1) := by decide +kernel
theorem dX8_countRenounced_1 : decode cX8_countRenounced 1 = .ok (.istore_n 1, 1) := by decide +kernel
theorem dX8_countRenounced_2 : decode cX8_countRenounced 2 = .ok (.iconst 0, 1) := by decide +kernel
theorem dX8_countRenounced_3 : decode cX8_countRenounced 3 = .ok (.istore_n 2, 1) := by decide +kernel
theorem dX8_countRenounced_4 : decode cX8_countRenounced 4 = .ok (.iload_n 2, 1) := by decide +kernel
theorem dX8_countRenounced_5 : decode cX8_countRenounced 5 = .ok (.aload_n 0, 1) := by decide +kernel
theorem dX8_countRenounced_6 : decode cX8_countRenounced 6 = .ok (.getfield 25, 3) := by decide +kernel
theorem dX8_countRenounced_9 : decode cX8_countRenounced 9 = .ok (.getfield 96, 3) := by decide +kernel
theorem dX8_countRenounced_12 : decode cX8_countRenounced 12 = .ok (.if_icmp .ge 28, 3) := by decide +kernel
theorem dX8_countRenounced_15 : decode cX8_countRenounced 15 = .ok (.iload_n 1, 1) := by decide +kernel
theorem dX8_countRenounced_16 : decode cX8_countRenounced 16 = .ok (.aload_n 0, 1) := by decide +kernel
theorem dX8_countRenounced_17 : decode cX8_countRenounced 17 = .ok (.getfield 32, 3) := by decide +kernel
theorem dX8_countRenounced_20 : decode cX8_countRenounced 20 = .ok (.iload_n 2, 1) := by decide +kernel
theorem dX8_countRenounced_21 : decode cX8_countRenounced 21 = .ok (.invokevirtual 234, 3) := by decide +kernel
theorem dX8_countRenounced_24 : decode cX8_countRenounced 24 = .ok (.ifCond .eq 7, 3) := by decide +kernel
theorem dX8_countRenounced_27 : decode cX8_countRenounced 27 = .ok (.iconst 1, 1) := by decide +kernel
theorem dX8_countRenounced_28 : decode cX8_countRenounced 28 = .ok (.goto 4, 3) := by decide +kernel
theorem dX8_countRenounced_31 : decode cX8_countRenounced 31 = .ok (.iconst 0, 1) := by decide +kernel
theorem dX8_countRenounced_32 : decode cX8_countRenounced 32 = .ok (.iadd, 1) := by decide +kernel
theorem dX8_countRenounced_33 : decode cX8_countRenounced 33 = .ok (.istore_n 1, 1) := by decide +kernel
theorem dX8_countRenounced_34 : decode cX8_countRenounced 34 = .ok (.iinc 2 1, 3) := by decide +kernel
theorem dX8_countRenounced_37 : decode cX8_countRenounced 37 = .ok (.goto (-33), 3) := by decide +kernel
theorem dX8_countRenounced_40 : decode cX8_countRenounced 40 = .ok (.iload_n 1, 1) := by decide +kernel
theorem dX8_countRenounced_41 : decode cX8_countRenounced 41 = .ok (.ireturn, 1) := by decide +kernel
theorem dX8_reckoning_0 : decode cX8_reckoning 0 = .ok (.aload_n 0, 1) := by decide +kernel
theorem dX8_reckoning_1 : decode cX8_reckoning 1 = .ok (.getfield 52, 3) := by decide +kernel
theorem dX8_reckoning_4 : decode cX8_reckoning 4 = .ok (.ifCond .eq 19, 3) := by decide +kernel
theorem dX8_reckoning_7 : decode cX8_reckoning 7 = .ok (.aload_n 0, 1) := by decide +kernel
theorem dX8_reckoning_8 : decode cX8_reckoning 8 = .ok (.getfield 48, 3) := by decide +kernel
theorem dX8_reckoning_11 : decode cX8_reckoning 11 = .ok (.aload_n 0, 1) := by decide +kernel
theorem dX8_reckoning_12 : decode cX8_reckoning 12 = .ok (.getfield 25, 3) := by decide +kernel
theorem dX8_reckoning_15 : decode cX8_reckoning 15 = .ok (.invokevirtual 356, 3) := by decide +kernel
theorem dX8_reckoning_18 : decode cX8_reckoning 18 = .ok (.aload_n 0, 1) := by decide +kernel
theorem dX8_reckoning_19 : decode cX8_reckoning 19 = .ok (.iconst 0, 1) := by decide +kernel
theorem dX8_reckoning_20 : decode cX8_reckoning 20 = .ok (.putfield 52, 3) := by decide +kernel
theorem dX8_reckoning_23 : decode cX8_reckoning 23 = .ok (.aload_n 0, 1) := by decide +kernel
theorem dX8_reckoning_24 : decode cX8_reckoning 24 = .ok (.getfield 48, 3) := by decide +kernel
theorem dX8_reckoning_27 : decode cX8_reckoning 27 = .ok (.areturn, 1) := by decide +kernel
theorem dX8_checkPerson_0 : decode cX8_checkPerson 0 = .ok (.iload_n 1, 1) := by decide +kernel
theorem dX8_checkPerson_1 : decode cX8_checkPerson 1 = .ok (.ifCond .lt 17, 3) := by decide +kernel
theorem dX8_checkPerson_4 : decode cX8_checkPerson 4 = .ok (.iload_n 1, 1) := by decide +kernel
theorem dX8_checkPerson_5 : decode cX8_checkPerson 5 = .ok (.aload_n 0, 1) := by decide +kernel
theorem dX8_checkPerson_6 : decode cX8_checkPerson 6 = .ok (.getfield 25, 3) := by decide +kernel
theorem dX8_checkPerson_9 : decode cX8_checkPerson 9 = .ok (.getfield 105, 3) := by decide +kernel
theorem dX8_checkPerson_12 : decode cX8_checkPerson 12 = .ok (.getfield 339, 3) := by decide +kernel
theorem dX8_checkPerson_15 : decode cX8_checkPerson 15 = .ok (.if_icmp .lt 14, 3) := by decide +kernel
theorem dX8_checkPerson_18 : decode cX8_checkPerson 18 = .ok (.new 399, 3) := by decide +kernel
theorem dX8_checkPerson_21 : decode cX8_checkPerson 21 = .ok (.dup, 1) := by decide +kernel
theorem dX8_checkPerson_22 : decode cX8_checkPerson 22 = .ok (.ldc_w 404, 3) := by decide +kernel
theorem dX8_checkPerson_25 : decode cX8_checkPerson 25 = .ok (.invokespecial 403, 3) := by decide +kernel
theorem dX8_checkPerson_28 : decode cX8_checkPerson 28 = .ok (.athrow, 1) := by decide +kernel
theorem dX8_checkPerson_29 : decode cX8_checkPerson 29 = .ok (.return_, 1) := by decide +kernel
theorem dX8_checkClass_0 : decode cX8_checkClass 0 = .ok (.iload_n 1, 1) := by decide +kernel
theorem dX8_checkClass_1 : decode cX8_checkClass 1 = .ok (.ifCond .lt 8, 3) := by decide +kernel
theorem dX8_checkClass_4 : decode cX8_checkClass 4 = .ok (.iload_n 1, 1) := by decide +kernel
theorem dX8_checkClass_5 : decode cX8_checkClass 5 = .ok (.iload_n 2, 1) := by decide +kernel
theorem dX8_checkClass_6 : decode cX8_checkClass 6 = .ok (.if_icmp .le 14, 3) := by decide +kernel
theorem dX8_checkClass_9 : decode cX8_checkClass 9 = .ok (.new 207, 3) := by decide +kernel
theorem dX8_checkClass_12 : decode cX8_checkClass 12 = .ok (.dup, 1) := by decide +kernel
theorem dX8_checkClass_13 : decode cX8_checkClass 13 = .ok (.ldc_w 408, 3) := by decide +kernel
theorem dX8_checkClass_16 : decode cX8_checkClass 16 = .ok (.invokespecial 211, 3) := by decide +kernel
theorem dX8_checkClass_19 : decode cX8_checkClass 19 = .ok (.athrow, 1) := by decide +kernel
theorem dX8_checkClass_20 : decode cX8_checkClass 20 = .ok (.return_, 1) := by decide +kernel

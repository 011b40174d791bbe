theorem dX8_init_0 : decode cX8_init 0 = .ok (.aload_n 0, 1) := by decide +kernel
theorem dX8_init_1 : decode cX8_init 1 = .ok (.invokespecial 1, 3) := by decide +kernel
theorem dX8_init_4 : decode cX8_init 4 = .ok (.aload_n 0, 1) := by decide +kernel
theorem dX8_init_5 : decode cX8_init 5 = .ok (.sipush 400, 3) := by decide +kernel
theorem dX8_init_8 : decode cX8_init 8 = .ok (.newarray .byte, 2) := by decide +kernel
theorem dX8_init_10 : decode cX8_init 10 = .ok (.putfield 9, 3) := by decide +kernel
theorem dX8_init_13 : decode cX8_init 13 = .ok (.aload_n 0, 1) := by decide +kernel
theorem dX8_init_14 : decode cX8_init 14 = .ok (.new 13, 3) := by decide +kernel
theorem dX8_init_17 : decode cX8_init 17 = .ok (.dup, 1) := by decide +kernel
theorem dX8_init_18 : decode cX8_init 18 = .ok (.aload_n 0, 1) := by decide +kernel
theorem dX8_init_19 : decode cX8_init 19 = .ok (.getfield 9, 3) := by decide +kernel
theorem dX8_init_22 : decode cX8_init 22 = .ok (.invokespecial 15, 3) := by decide +kernel
theorem dX8_init_25 : decode cX8_init 25 = .ok (.putfield 18, 3) := by decide +kernel
theorem dX8_init_28 : decode cX8_init 28 = .ok (.aload_n 0, 1) := by decide +kernel
theorem dX8_init_29 : decode cX8_init 29 = .ok (.new 22, 3) := by decide +kernel
theorem dX8_init_32 : decode cX8_init 32 = .ok (.dup, 1) := by decide +kernel
theorem dX8_init_33 : decode cX8_init 33 = .ok (.invokespecial 24, 3) := by decide +kernel
theorem dX8_init_36 : decode cX8_init 36 = .ok (.putfield 25, 3) := by decide +kernel
theorem dX8_init_39 : decode cX8_init 39 = .ok (.aload_n 0, 1) := by decide +kernel
theorem dX8_init_40 : decode cX8_init 40 = .ok (.new 29, 3) := by decide +kernel
theorem dX8_init_43 : decode cX8_init 43 = .ok (.dup, 1) := by decide +kernel
theorem dX8_init_44 : decode cX8_init 44 = .ok (.invokespecial 31, 3) := by decide +kernel
theorem dX8_init_47 : decode cX8_init 47 = .ok (.putfield 32, 3) := by decide +kernel
theorem dX8_init_50 : decode cX8_init 50 = .ok (.aload_n 0, 1) := by decide +kernel
theorem dX8_init_51 : decode cX8_init 51 = .ok (.new 36, 3) := by decide +kernel
theorem dX8_init_54 : decode cX8_init 54 = .ok (.dup, 1) := by decide +kernel
theorem dX8_init_55 : decode cX8_init 55 = .ok (.invokespecial 38, 3) := by decide +kernel
theorem dX8_init_58 : decode cX8_init 58 = .ok (.putfield 39, 3) := by decide +kernel
theorem dX8_init_61 : decode cX8_init 61 = .ok (.aload_n 0, 1) := by decide +kernel
theorem dX8_init_62 : decode cX8_init 62 = .ok (.new 43, 3) := by decide +kernel
theorem dX8_init_65 : decode cX8_init 65 = .ok (.dup, 1) := by decide +kernel
theorem dX8_init_66 : decode cX8_init 66 = .ok (.aload_n 0, 1) := by decide +kernel
theorem dX8_init_67 : decode cX8_init 67 = .ok (.getfield 25, 3) := by decide +kernel
theorem dX8_init_70 : decode cX8_init 70 = .ok (.aload_n 0, 1) := by decide +kernel
theorem dX8_init_71 : decode cX8_init 71 = .ok (.getfield 32, 3) := by decide +kernel
theorem dX8_init_74 : decode cX8_init 74 = .ok (.invokespecial 45, 3) := by decide +kernel
theorem dX8_init_77 : decode cX8_init 77 = .ok (.putfield 48, 3) := by decide +kernel
theorem dX8_init_80 : decode cX8_init 80 = .ok (.aload_n 0, 1) := by decide +kernel
theorem dX8_init_81 : decode cX8_init 81 = .ok (.iconst 1, 1) := by decide +kernel
theorem dX8_init_82 : decode cX8_init 82 = .ok (.putfield 52, 3) := by decide +kernel
theorem dX8_init_85 : decode cX8_init 85 = .ok (.aload_n 0, 1) := by decide +kernel
theorem dX8_init_86 : decode cX8_init 86 = .ok (.new 29, 3) := by decide +kernel
theorem dX8_init_89 : decode cX8_init 89 = .ok (.dup, 1) := by decide +kernel
theorem dX8_init_90 : decode cX8_init 90 = .ok (.invokespecial 31, 3) := by decide +kernel
theorem dX8_init_93 : decode cX8_init 93 = .ok (.putfield 56, 3) := by decide +kernel
theorem dX8_init_96 : decode cX8_init 96 = .ok (.aload_n 0, 1) := by decide +kernel
theorem dX8_init_97 : decode cX8_init 97 = .ok (.new 43, 3) := by decide +kernel
theorem dX8_init_100 : decode cX8_init 100 = .ok (.dup, 1) := by decide +kernel
theorem dX8_init_101 : decode cX8_init 101 = .ok (.aload_n 0, 1) := by decide +kernel
theorem dX8_init_102 : decode cX8_init 102 = .ok (.getfield 25, 3) := by decide +kernel
theorem dX8_init_105 : decode cX8_init 105 = .ok (.aload_n 0, 1) := by decide +kernel
theorem dX8_init_106 : decode cX8_init 106 = .ok (.getfield 56, 3) := by decide +kernel
theorem dX8_init_109 : decode cX8_init 109 = .ok (.invokespecial 45, 3) := by decide +kernel
theorem dX8_init_112 : decode cX8_init 112 = .ok (.putfield 59, 3) := by decide +kernel
theorem dX8_init_115 : decode cX8_init 115 = .ok (.aload_n 0, 1) := by decide +kernel
theorem dX8_init_116 : decode cX8_init 116 = .ok (.new 62, 3) := by decide +kernel
theorem dX8_init_119 : decode cX8_init 119 = .ok (.dup, 1) := by decide +kernel
theorem dX8_init_120 : decode cX8_init 120 = .ok (.invokespecial 64, 3) := by decide +kernel
theorem dX8_init_123 : decode cX8_init 123 = .ok (.putfield 65, 3) := by decide +kernel
theorem dX8_init_126 : decode cX8_init 126 = .ok (.return_, 1) := by decide +kernel
theorem dX8_feed_0 : decode cX8_feed 0 = .ok (.aload_n 0, 1) := by decide +kernel
theorem dX8_feed_1 : decode cX8_feed 1 = .ok (.getfield 69, 3) := by decide +kernel
theorem dX8_feed_4 : decode cX8_feed 4 = .ok (.sipush 380, 3) := by decide +kernel
theorem dX8_feed_7 : decode cX8_feed 7 = .ok (.if_icmp .le 5, 3) := by decide +kernel
theorem dX8_feed_10 : decode cX8_feed 10 = .ok (.iconst (-1), 1) := by decide +kernel
theorem dX8_feed_11 : decode cX8_feed 11 = .ok (.ireturn, 1) := by decide +kernel
theorem dX8_feed_12 : decode cX8_feed 12 = .ok (.aload_n 0, 1) := by decide +kernel
theorem dX8_feed_13 : decode cX8_feed 13 = .ok (.iload_n 1, 1) := by decide +kernel
theorem dX8_feed_14 : decode cX8_feed 14 = .ok (.invokevirtual 73, 3) := by decide +kernel
theorem dX8_feed_17 : decode cX8_feed 17 = .ok (.aload_n 0, 1) := by decide +kernel
theorem dX8_feed_18 : decode cX8_feed 18 = .ok (.iload_n 2, 1) := by decide +kernel
theorem dX8_feed_19 : decode cX8_feed 19 = .ok (.invokevirtual 73, 3) := by decide +kernel
theorem dX8_feed_22 : decode cX8_feed 22 = .ok (.aload_n 0, 1) := by decide +kernel
theorem dX8_feed_23 : decode cX8_feed 23 = .ok (.iload_n 3, 1) := by decide +kernel
theorem dX8_feed_24 : decode cX8_feed 24 = .ok (.invokevirtual 73, 3) := by decide +kernel
theorem dX8_feed_27 : decode cX8_feed 27 = .ok (.aload_n 0, 1) := by decide +kernel
theorem dX8_feed_28 : decode cX8_feed 28 = .ok (.iload 4, 2) := by decide +kernel
theorem dX8_feed_30 : decode cX8_feed 30 = .ok (.invokevirtual 73, 3) := by decide +kernel
theorem dX8_feed_33 : decode cX8_feed 33 = .ok (.aload_n 0, 1) := by decide +kernel
theorem dX8_feed_34 : decode cX8_feed 34 = .ok (.iload 5, 2) := by decide +kernel
theorem dX8_feed_36 : decode cX8_feed 36 = .ok (.invokevirtual 73, 3) := by decide +kernel
theorem dX8_feed_39 : decode cX8_feed 39 = .ok (.aload_n 0, 1) := by decide +kernel
theorem dX8_feed_40 : decode cX8_feed 40 = .ok (.getfield 69, 3) := by decide +kernel
theorem dX8_feed_43 : decode cX8_feed 43 = .ok (.ireturn, 1) := by decide +kernel
theorem dX8_putFourBytes_0 : decode cX8_putFourBytes 0 = .ok (.bipush 24, 2) := by decide +kernel
theorem dX8_putFourBytes_2 : decode cX8_putFourBytes 2 = .ok (.istore_n 2, 1) := by decide +kernel
theorem dX8_putFourBytes_3 : decode cX8_putFourBytes 3 = .ok (.iload_n 2, 1) := by decide +kernel
theorem dX8_putFourBytes_4 : decode cX8_putFourBytes 4 = .ok (.ifCond .lt 42, 3) := by decide +kernel
theorem dX8_putFourBytes_7 : decode cX8_putFourBytes 7 = .ok (.aload_n 0, 1) := by decide +kernel
theorem dX8_putFourBytes_8 : decode cX8_putFourBytes 8 = .ok (.getfield 69, 3) := by decide +kernel
theorem dX8_putFourBytes_11 : decode cX8_putFourBytes 11 = .ok (.sipush 400, 3) := by decide +kernel
theorem dX8_putFourBytes_14 : decode cX8_putFourBytes 14 = .ok (.if_icmp .ge 26, 3) := by decide +kernel
theorem dX8_putFourBytes_17 : decode cX8_putFourBytes 17 = .ok (.aload_n 0, 1) := by decide +kernel
theorem dX8_putFourBytes_18 : decode cX8_putFourBytes 18 = .ok (.getfield 9, 3) := by decide +kernel
theorem dX8_putFourBytes_21 : decode cX8_putFourBytes 21 = .ok (.aload_n 0, 1) := by decide +kernel
theorem dX8_putFourBytes_22 : decode cX8_putFourBytes 22 = .ok (.getfield 69, 3) := by decide +kernel
theorem dX8_putFourBytes_25 : decode cX8_putFourBytes 25 = .ok (.iload_n 1, 1) := by decide +kernel
theorem dX8_putFourBytes_26 : decode cX8_putFourBytes 26 = .ok (.iload_n 2, 1) := by decide +kernel
theorem dX8_putFourBytes_27 : decode cX8_putFourBytes 27 = .ok (.ishr, 1) := by decide +kernel
theorem dX8_putFourBytes_28 : decode cX8_putFourBytes 28 = .ok (.i2b, 1) := by decide +kernel
theorem dX8_putFourBytes_29 : decode cX8_putFourBytes 29 = .ok (.bastore, 1) := by decide +kernel
theorem dX8_putFourBytes_30 : decode cX8_putFourBytes 30 = .ok (.aload_n 0, 1) := by decide +kernel
theorem dX8_putFourBytes_31 : decode cX8_putFourBytes 31 = .ok (.dup, 1) := by decide +kernel
theorem dX8_putFourBytes_32 : decode cX8_putFourBytes 32 = .ok (.getfield 69, 3) := by decide +kernel
theorem dX8_putFourBytes_35 : decode cX8_putFourBytes 35 = .ok (.iconst 1, 1) := by decide +kernel
theorem dX8_putFourBytes_36 : decode cX8_putFourBytes 36 = .ok (.iadd, 1) := by decide +kernel
theorem dX8_putFourBytes_37 : decode cX8_putFourBytes 37 = .ok (.putfield 69, 3) := by decide +kernel
theorem dX8_putFourBytes_40 : decode cX8_putFourBytes 40 = .ok (.iinc 2 (-8), 3) := by decide +kernel
theorem dX8_putFourBytes_43 : decode cX8_putFourBytes 43 = .ok (.goto (-40), 3) := by decide +kernel
theorem dX8_putFourBytes_46 : decode cX8_putFourBytes 46 = .ok (.return_, 1) := by decide +kernel
theorem dX8_end_0 : decode cX8_end 0 = .ok (.iload_n 1, 1) := by decide +kernel
theorem dX8_end_1 : decode cX8_end 1 = .ok (.ifCond .lt 11, 3) := by decide +kernel
theorem dX8_end_4 : decode cX8_end 4 = .ok (.iload_n 1, 1) := by decide +kernel
theorem dX8_end_5 : decode cX8_end 5 = .ok (.aload_n 0, 1) := by decide +kernel
theorem dX8_end_6 : decode cX8_end 6 = .ok (.getfield 69, 3) := by decide +kernel
theorem dX8_end_9 : decode cX8_end 9 = .ok (.if_icmp .le 5, 3) := by decide +kernel
theorem dX8_end_12 : decode cX8_end 12 = .ok (.iconst 0, 1) := by decide +kernel
theorem dX8_end_13 : decode cX8_end 13 = .ok (.ireturn, 1) := by decide +kernel
theorem dX8_end_14 : decode cX8_end 14 = .ok (.aload_n 0, 1) := by decide +kernel
theorem dX8_end_15 : decode cX8_end 15 = .ok (.iload_n 1, 1) := by decide +kernel
theorem dX8_end_16 : decode cX8_end 16 = .ok (.putfield 69, 3) := by decide +kernel
theorem dX8_end_19 : decode cX8_end 19 = .ok (.iconst 1, 1) := by decide +kernel
theorem dX8_end_20 : decode cX8_end 20 = .ok (.ireturn, 1) := by decide +kernel
theorem dX8_read_0 : decode cX8_read 0 = .ok (.aload_n 0, 1) := by decide +kernel
theorem dX8_read_1 : decode cX8_read 1 = .ok (.getfield 69, 3) := by decide +kernel
theorem dX8_read_4 : decode cX8_read 4 = .ok (.istore_n 1, 1) := by decide +kernel
theorem dX8_read_5 : decode cX8_read 5 = .ok (.aload_n 0, 1) := by decide +kernel
theorem dX8_read_6 : decode cX8_read 6 = .ok (.iconst 0, 1) := by decide +kernel
theorem dX8_read_7 : decode cX8_read 7 = .ok (.putfield 69, 3) := by decide +kernel
theorem dX8_read_10 : decode cX8_read 10 = .ok (.aload_n 0, 1) := by decide +kernel
theorem dX8_read_11 : decode cX8_read 11 = .ok (.getfield 18, 3) := by decide +kernel
theorem dX8_read_14 : decode cX8_read 14 = .ok (.iload_n 1, 1) := by decide +kernel
theorem dX8_read_15 : decode cX8_read 15 = .ok (.invokevirtual 77, 3) := by decide +kernel
theorem dX8_read_18 : decode cX8_read 18 = .ok (.iconst 0, 1) := by decide +kernel
theorem dX8_read_19 : decode cX8_read 19 = .ok (.istore_n 2, 1) := by decide +kernel
theorem dX8_read_20 : decode cX8_read 20 = .ok (.iload_n 2, 1) := by decide +kernel
theorem dX8_read_21 : decode cX8_read 21 = .ok (.sipush 400, 3) := by decide +kernel
theorem dX8_read_24 : decode cX8_read 24 = .ok (.if_icmp .ge 26, 3) := by decide +kernel
theorem dX8_read_27 : decode cX8_read 27 = .ok (.aload_n 0, 1) := by decide +kernel
theorem dX8_read_28 : decode cX8_read 28 = .ok (.getfield 18, 3) := by decide +kernel
theorem dX8_read_31 : decode cX8_read 31 = .ok (.invokevirtual 80, 3) := by decide +kernel
theorem dX8_read_34 : decode cX8_read 34 = .ok (.ifCond .eq 16, 3) := by decide +kernel
theorem dX8_read_37 : decode cX8_read 37 = .ok (.aload_n 0, 1) := by decide +kernel
theorem dX8_read_38 : decode cX8_read 38 = .ok (.getfield 18, 3) := by decide +kernel
theorem dX8_read_41 : decode cX8_read 41 = .ok (.invokevirtual 84, 3) := by decide +kernel
theorem dX8_read_44 : decode cX8_read 44 = .ok (.iinc 2 1, 3) := by decide +kernel
theorem dX8_read_47 : decode cX8_read 47 = .ok (.goto (-27), 3) := by decide +kernel
theorem dX8_read_50 : decode cX8_read 50 = .ok (.aload_n 0, 1) := by decide +kernel
theorem dX8_read_51 : decode cX8_read 51 = .ok (.getfield 25, 3) := by decide +kernel
theorem dX8_read_54 : decode cX8_read 54 = .ok (.astore_n 2, 1) := by decide +kernel
theorem dX8_read_55 : decode cX8_read 55 = .ok (.aload_n 0, 1) := by decide +kernel
theorem dX8_read_56 : decode cX8_read 56 = .ok (.aload_n 0, 1) := by decide +kernel
theorem dX8_read_57 : decode cX8_read 57 = .ok (.getfield 18, 3) := by decide +kernel
theorem dX8_read_60 : decode cX8_read 60 = .ok (.getfield 87, 3) := by decide +kernel
theorem dX8_read_63 : decode cX8_read 63 = .ok (.putfield 25, 3) := by decide +kernel
theorem dX8_read_66 : decode cX8_read 66 = .ok (.aload_n 0, 1) := by decide +kernel
theorem dX8_read_67 : decode cX8_read 67 = .ok (.getfield 18, 3) := by decide +kernel
theorem dX8_read_70 : decode cX8_read 70 = .ok (.aload_n 2, 1) := by decide +kernel
theorem dX8_read_71 : decode cX8_read 71 = .ok (.putfield 87, 3) := by decide +kernel
theorem dX8_read_74 : decode cX8_read 74 = .ok (.aload_n 0, 1) := by decide +kernel
theorem dX8_read_75 : decode cX8_read 75 = .ok (.getfield 32, 3) := by decide +kernel
theorem dX8_read_78 : decode cX8_read 78 = .ok (.aload_n 0, 1) := by decide +kernel
theorem dX8_read_79 : decode cX8_read 79 = .ok (.getfield 18, 3) := by decide +kernel
theorem dX8_read_82 : decode cX8_read 82 = .ok (.getfield 88, 3) := by decide +kernel
theorem dX8_read_85 : decode cX8_read 85 = .ok (.invokevirtual 89, 3) := by decide +kernel
theorem dX8_read_88 : decode cX8_read 88 = .ok (.aload_n 0, 1) := by decide +kernel
theorem dX8_read_89 : decode cX8_read 89 = .ok (.getfield 39, 3) := by decide +kernel
theorem dX8_read_92 : decode cX8_read 92 = .ok (.invokevirtual 93, 3) := by decide +kernel
theorem dX8_read_95 : decode cX8_read 95 = .ok (.aload_n 0, 1) := by decide +kernel
theorem dX8_read_96 : decode cX8_read 96 = .ok (.iconst 1, 1) := by decide +kernel
theorem dX8_read_97 : decode cX8_read 97 = .ok (.putfield 52, 3) := by decide +kernel
theorem dX8_read_100 : decode cX8_read 100 = .ok (.aload_n 0, 1) := by decide +kernel
theorem dX8_read_101 : decode cX8_read 101 = .ok (.getfield 25, 3) := by decide +kernel
theorem dX8_read_104 : decode cX8_read 104 = .ok (.getfield 96, 3) := by decide +kernel
theorem dX8_read_107 : decode cX8_read 107 = .ok (.ireturn, 1) := by decide +kernel
theorem dX8_fault_0 : decode cX8_fault 0 = .ok (.aload_n 0, 1) := by decide +kernel
theorem dX8_fault_1 : decode cX8_fault 1 = .ok (.getfield 18, 3) := by decide +kernel
theorem dX8_fault_4 : decode cX8_fault 4 = .ok (.getfield 99, 3) := by decide +kernel
theorem dX8_fault_7 : decode cX8_fault 7 = .ok (.ireturn, 1) := by decide +kernel
theorem dX8_name_0 : decode cX8_name 0 = .ok (.iload_n 1, 1) := by decide +kernel
theorem dX8_name_1 : decode cX8_name 1 = .ok (.ifCond .eq 21, 3) := by decide +kernel
theorem dX8_name_4 : decode cX8_name 4 = .ok (.aload_n 0, 1) := by decide +kernel
theorem dX8_name_5 : decode cX8_name 5 = .ok (.iload_n 2, 1) := by decide +kernel
theorem dX8_name_6 : decode cX8_name 6 = .ok (.invokevirtual 102, 3) := by decide +kernel
theorem dX8_name_9 : decode cX8_name 9 = .ok (.aload_n 0, 1) := by decide +kernel
theorem dX8_name_10 : decode cX8_name 10 = .ok (.getfield 25, 3) := by decide +kernel
theorem dX8_name_13 : decode cX8_name 13 = .ok (.getfield 105, 3) := by decide +kernel
theorem dX8_name_16 : decode cX8_name 16 = .ok (.iload_n 2, 1) := by decide +kernel
theorem dX8_name_17 : decode cX8_name 17 = .ok (.iload_n 3, 1) := by decide +kernel
theorem dX8_name_18 : decode cX8_name 18 = .ok (.invokevirtual 109, 3) := by decide +kernel
theorem dX8_name_21 : decode cX8_name 21 = .ok (.ireturn, 1) := by decide +kernel
theorem dX8_name_22 : decode cX8_name 22 = .ok (.aload_n 0, 1) := by decide +kernel
theorem dX8_name_23 : decode cX8_name 23 = .ok (.iload_n 2, 1) := by decide +kernel
theorem dX8_name_24 : decode cX8_name 24 = .ok (.invokevirtual 115, 3) := by decide +kernel
theorem dX8_name_27 : decode cX8_name 27 = .ok (.aload_n 0, 1) := by decide +kernel
theorem dX8_name_28 : decode cX8_name 28 = .ok (.getfield 25, 3) := by decide +kernel
theorem dX8_name_31 : decode cX8_name 31 = .ok (.getfield 118, 3) := by decide +kernel
theorem dX8_name_34 : decode cX8_name 34 = .ok (.iload_n 2, 1) := by decide +kernel
theorem dX8_name_35 : decode cX8_name 35 = .ok (.iload_n 3, 1) := by decide +kernel
theorem dX8_name_36 : decode cX8_name 36 = .ok (.invokevirtual 109, 3) := by decide +kernel
theorem dX8_name_39 : decode cX8_name 39 = .ok (.ireturn, 1) := by decide +kernel
theorem dX8_thing_0 : decode cX8_thing 0 = .ok (.aload_n 0, 1) := by decide +kernel
theorem dX8_thing_1 : decode cX8_thing 1 = .ok (.iload_n 1, 1) := by decide +kernel
theorem dX8_thing_2 : decode cX8_thing 2 = .ok (.invokevirtual 115, 3) := by decide +kernel
theorem dX8_thing_5 : decode cX8_thing 5 = .ok (.iload_n 2, 1) := by decide +kernel
theorem dX8_thing_6 : decode cX8_thing 6 = .ok (.tableswitch 110 0 4 #[34, 43, 52, 77, 101], 34) := by decide +kernel
theorem dX8_thing_40 : decode cX8_thing 40 = .ok (.aload_n 0, 1) := by decide +kernel
theorem dX8_thing_41 : decode cX8_thing 41 = .ok (.getfield 32, 3) := by decide +kernel
theorem dX8_thing_44 : decode cX8_thing 44 = .ok (.iload_n 1, 1) := by decide +kernel
theorem dX8_thing_45 : decode cX8_thing 45 = .ok (.invokevirtual 121, 3) := by decide +kernel
theorem dX8_thing_48 : decode cX8_thing 48 = .ok (.ireturn, 1) := by decide +kernel
theorem dX8_thing_49 : decode cX8_thing 49 = .ok (.aload_n 0, 1) := by decide +kernel
theorem dX8_thing_50 : decode cX8_thing 50 = .ok (.getfield 32, 3) := by decide +kernel
theorem dX8_thing_53 : decode cX8_thing 53 = .ok (.iload_n 1, 1) := by decide +kernel
theorem dX8_thing_54 : decode cX8_thing 54 = .ok (.invokevirtual 125, 3) := by decide +kernel
theorem dX8_thing_57 : decode cX8_thing 57 = .ok (.ireturn, 1) := by decide +kernel
theorem dX8_thing_58 : decode cX8_thing 58 = .ok (.aload_n 0, 1) := by decide +kernel
theorem dX8_thing_59 : decode cX8_thing 59 = .ok (.getfield 32, 3) := by decide +kernel
theorem dX8_thing_62 : decode cX8_thing 62 = .ok (.iload_n 1, 1) := by decide +kernel
theorem dX8_thing_63 : decode cX8_thing 63 = .ok (.invokevirtual 125, 3) := by decide +kernel
theorem dX8_thing_66 : decode cX8_thing 66 = .ok (.iconst 1, 1) := by decide +kernel
theorem dX8_thing_67 : decode cX8_thing 67 = .ok (.if_icmp .ne 14, 3) := by decide +kernel
theorem dX8_thing_70 : decode cX8_thing 70 = .ok (.aload_n 0, 1) := by decide +kernel
theorem dX8_thing_71 : decode cX8_thing 71 = .ok (.getfield 32, 3) := by decide +kernel
theorem dX8_thing_74 : decode cX8_thing 74 = .ok (.iload_n 1, 1) := by decide +kernel
theorem dX8_thing_75 : decode cX8_thing 75 = .ok (.invokevirtual 128, 3) := by decide +kernel
theorem dX8_thing_78 : decode cX8_thing 78 = .ok (.goto 4, 3) := by decide +kernel
theorem dX8_thing_81 : decode cX8_thing 81 = .ok (.iconst (-1), 1) := by decide +kernel
theorem dX8_thing_82 : decode cX8_thing 82 = .ok (.ireturn, 1) := by decide +kernel
theorem dX8_thing_83 : decode cX8_thing 83 = .ok (.aload_n 0, 1) := by decide +kernel
theorem dX8_thing_84 : decode cX8_thing 84 = .ok (.getfield 32, 3) := by decide +kernel
theorem dX8_thing_87 : decode cX8_thing 87 = .ok (.iload_n 1, 1) := by decide +kernel
theorem dX8_thing_88 : decode cX8_thing 88 = .ok (.invokevirtual 131, 3) := by decide +kernel
theorem dX8_thing_91 : decode cX8_thing 91 = .ok (.ifCond .eq 7, 3) := by decide +kernel
theorem dX8_thing_94 : decode cX8_thing 94 = .ok (.iconst (-1), 1) := by decide +kernel
theorem dX8_thing_95 : decode cX8_thing 95 = .ok (.goto 11, 3) := by decide +kernel
theorem dX8_thing_98 : decode cX8_thing 98 = .ok (.aload_n 0, 1) := by decide +kernel
theorem dX8_thing_99 : decode cX8_thing 99 = .ok (.getfield 32, 3) := by decide +kernel
theorem dX8_thing_102 : decode cX8_thing 102 = .ok (.iload_n 1, 1) := by decide +kernel
theorem dX8_thing_103 : decode cX8_thing 103 = .ok (.invokevirtual 135, 3) := by decide +kernel
theorem dX8_thing_106 : decode cX8_thing 106 = .ok (.ireturn, 1) := by decide +kernel
theorem dX8_thing_107 : decode cX8_thing 107 = .ok (.aload_n 0, 1) := by decide +kernel
theorem dX8_thing_108 : decode cX8_thing 108 = .ok (.getfield 32, 3) := by decide +kernel
theorem dX8_thing_111 : decode cX8_thing 111 = .ok (.iload_n 1, 1) := by decide +kernel
theorem dX8_thing_112 : decode cX8_thing 112 = .ok (.invokevirtual 135, 3) := by decide +kernel
theorem dX8_thing_115 : decode cX8_thing 115 = .ok (.ireturn, 1) := by decide +kernel
theorem dX8_thing_116 : decode cX8_thing 116 = .ok (.new 138, 3) := by decide +kernel
theorem dX8_thing_119 : decode cX8_thing 119 = .ok (.dup, 1) := by decide +kernel
theorem dX8_thing_120 : decode cX8_thing 120 = .ok (.ldc 140, 2) := by decide +kernel
theorem dX8_thing_122 : decode cX8_thing 122 = .ok (.invokespecial 142, 3) := by decide +kernel
theorem dX8_thing_125 : decode cX8_thing 125 = .ok (.athrow, 1) := by decide +kernel
theorem dX8_person_0 : decode cX8_person 0 = .ok (.aload_n 0, 1) := by decide +kernel
theorem dX8_person_1 : decode cX8_person 1 = .ok (.iload_n 1, 1) := by decide +kernel
theorem dX8_person_2 : decode cX8_person 2 = .ok (.invokevirtual 102, 3) := by decide +kernel
theorem dX8_person_5 : decode cX8_person 5 = .ok (.iload_n 2, 1) := by decide +kernel
theorem dX8_person_6 : decode cX8_person 6 = .ok (.tableswitch 129 0 5 #[38, 48, 66, 84, 101, 119], 38) := by decide +kernel
theorem dX8_person_44 : decode cX8_person 44 = .ok (.aload_n 0, 1) := by decide +kernel
theorem dX8_person_45 : decode cX8_person 45 = .ok (.getfield 25, 3) := by decide +kernel
theorem dX8_person_48 : decode cX8_person 48 = .ok (.getfield 145, 3) := by decide +kernel
theorem dX8_person_51 : decode cX8_person 51 = .ok (.iload_n 1, 1) := by decide +kernel
theorem dX8_person_52 : decode cX8_person 52 = .ok (.iaload, 1) := by decide +kernel
theorem dX8_person_53 : decode cX8_person 53 = .ok (.ireturn, 1) := by decide +kernel
theorem dX8_person_54 : decode cX8_person 54 = .ok (.aload_n 0, 1) := by decide +kernel
theorem dX8_person_55 : decode cX8_person 55 = .ok (.getfield 25, 3) := by decide +kernel
theorem dX8_person_58 : decode cX8_person 58 = .ok (.getfield 149, 3) := by decide +kernel
theorem dX8_person_61 : decode cX8_person 61 = .ok (.iload_n 1, 1) := by decide +kernel
theorem dX8_person_62 : decode cX8_person 62 = .ok (.baload, 1) := by decide +kernel
theorem dX8_person_63 : decode cX8_person 63 = .ok (.ifCond .eq 7, 3) := by decide +kernel
theorem dX8_person_66 : decode cX8_person 66 = .ok (.iconst 1, 1) := by decide +kernel
theorem dX8_person_67 : decode cX8_person 67 = .ok (.goto 4, 3) := by decide +kernel
theorem dX8_person_70 : decode cX8_person 70 = .ok (.iconst 0, 1) := by decide +kernel
theorem dX8_person_71 : decode cX8_person 71 = .ok (.ireturn, 1) := by decide +kernel
theorem dX8_person_72 : decode cX8_person 72 = .ok (.aload_n 0, 1) := by decide +kernel
theorem dX8_person_73 : decode cX8_person 73 = .ok (.getfield 25, 3) := by decide +kernel
theorem dX8_person_76 : decode cX8_person 76 = .ok (.getfield 153, 3) := by decide +kernel
theorem dX8_person_79 : decode cX8_person 79 = .ok (.iload_n 1, 1) := by decide +kernel
theorem dX8_person_80 : decode cX8_person 80 = .ok (.baload, 1) := by decide +kernel
theorem dX8_person_81 : decode cX8_person 81 = .ok (.ifCond .eq 7, 3) := by decide +kernel
theorem dX8_person_84 : decode cX8_person 84 = .ok (.iconst 1, 1) := by decide +kernel
theorem dX8_person_85 : decode cX8_person 85 = .ok (.goto 4, 3) := by decide +kernel
theorem dX8_person_88 : decode cX8_person 88 = .ok (.iconst 0, 1) := by decide +kernel
theorem dX8_person_89 : decode cX8_person 89 = .ok (.ireturn, 1) := by decide +kernel
theorem dX8_person_90 : decode cX8_person 90 = .ok (.aload_n 0, 1) := by decide +kernel
theorem dX8_person_91 : decode cX8_person 91 = .ok (.getfield 32, 3) := by decide +kernel
theorem dX8_person_94 : decode cX8_person 94 = .ok (.iload_n 1, 1) := by decide +kernel
theorem dX8_person_95 : decode cX8_person 95 = .ok (.invokevirtual 156, 3) := by decide +kernel
theorem dX8_person_98 : decode cX8_person 98 = .ok (.ifCond .eq 7, 3) := by decide +kernel
theorem dX8_person_101 : decode cX8_person 101 = .ok (.iconst 1, 1) := by decide +kernel
theorem dX8_person_102 : decode cX8_person 102 = .ok (.goto 4, 3) := by decide +kernel
theorem dX8_person_105 : decode cX8_person 105 = .ok (.iconst 0, 1) := by decide +kernel
theorem dX8_person_106 : decode cX8_person 106 = .ok (.ireturn, 1) := by decide +kernel
theorem dX8_person_107 : decode cX8_person 107 = .ok (.aload_n 0, 1) := by decide +kernel
theorem dX8_person_108 : decode cX8_person 108 = .ok (.invokevirtual 159, 3) := by decide +kernel
theorem dX8_person_111 : decode cX8_person 111 = .ok (.getfield 163, 3) := by decide +kernel
theorem dX8_person_114 : decode cX8_person 114 = .ok (.iload_n 1, 1) := by decide +kernel
theorem dX8_person_115 : decode cX8_person 115 = .ok (.iaload, 1) := by decide +kernel
theorem dX8_person_116 : decode cX8_person 116 = .ok (.ifCond .ne 7, 3) := by decide +kernel
theorem dX8_person_119 : decode cX8_person 119 = .ok (.iconst 1, 1) := by decide +kernel
theorem dX8_person_120 : decode cX8_person 120 = .ok (.goto 4, 3) := by decide +kernel
theorem dX8_person_123 : decode cX8_person 123 = .ok (.iconst 0, 1) := by decide +kernel
theorem dX8_person_124 : decode cX8_person 124 = .ok (.ireturn, 1) := by decide +kernel
theorem dX8_person_125 : decode cX8_person 125 = .ok (.aload_n 0, 1) := by decide +kernel
theorem dX8_person_126 : decode cX8_person 126 = .ok (.invokevirtual 159, 3) := by decide +kernel
theorem dX8_person_129 : decode cX8_person 129 = .ok (.getfield 163, 3) := by decide +kernel
theorem dX8_person_132 : decode cX8_person 132 = .ok (.iload_n 1, 1) := by decide +kernel
theorem dX8_person_133 : decode cX8_person 133 = .ok (.iaload, 1) := by decide +kernel
theorem dX8_person_134 : decode cX8_person 134 = .ok (.ireturn, 1) := by decide +kernel
theorem dX8_person_135 : decode cX8_person 135 = .ok (.new 138, 3) := by decide +kernel
theorem dX8_person_138 : decode cX8_person 138 = .ok (.dup, 1) := by decide +kernel
theorem dX8_person_139 : decode cX8_person 139 = .ok (.ldc 166, 2) := by decide +kernel
theorem dX8_person_141 : decode cX8_person 141 = .ok (.invokespecial 142, 3) := by decide +kernel
theorem dX8_person_144 : decode cX8_person 144 = .ok (.athrow, 1) := by decide +kernel
theorem dX8_gift_0 : decode cX8_gift 0 = .ok (.aload_n 0, 1) := by decide +kernel
theorem dX8_gift_1 : decode cX8_gift 1 = .ok (.iload_n 1, 1) := by decide +kernel
theorem dX8_gift_2 : decode cX8_gift 2 = .ok (.invokevirtual 168, 3) := by decide +kernel
theorem dX8_gift_5 : decode cX8_gift 5 = .ok (.iload_n 2, 1) := by decide +kernel
theorem dX8_gift_6 : decode cX8_gift 6 = .ok (.tableswitch 116 0 6 #[42, 52, 62, 72, 82, 92, 110], 42) := by decide +kernel
theorem dX8_gift_48 : decode cX8_gift 48 = .ok (.aload_n 0, 1) := by decide +kernel
theorem dX8_gift_49 : decode cX8_gift 49 = .ok (.getfield 25, 3) := by decide +kernel
theorem dX8_gift_52 : decode cX8_gift 52 = .ok (.getfield 171, 3) := by decide +kernel
theorem dX8_gift_55 : decode cX8_gift 55 = .ok (.iload_n 1, 1) := by decide +kernel
theorem dX8_gift_56 : decode cX8_gift 56 = .ok (.iaload, 1) := by decide +kernel
theorem dX8_gift_57 : decode cX8_gift 57 = .ok (.ireturn, 1) := by decide +kernel
theorem dX8_gift_58 : decode cX8_gift 58 = .ok (.aload_n 0, 1) := by decide +kernel
theorem dX8_gift_59 : decode cX8_gift 59 = .ok (.getfield 25, 3) := by decide +kernel
theorem dX8_gift_62 : decode cX8_gift 62 = .ok (.getfield 174, 3) := by decide +kernel
theorem dX8_gift_65 : decode cX8_gift 65 = .ok (.iload_n 1, 1) := by decide +kernel
theorem dX8_gift_66 : decode cX8_gift 66 = .ok (.iaload, 1) := by decide +kernel
theorem dX8_gift_67 : decode cX8_gift 67 = .ok (.ireturn, 1) := by decide +kernel
theorem dX8_gift_68 : decode cX8_gift 68 = .ok (.aload_n 0, 1) := by decide +kernel
theorem dX8_gift_69 : decode cX8_gift 69 = .ok (.getfield 25, 3) := by decide +kernel
theorem dX8_gift_72 : decode cX8_gift 72 = .ok (.getfield 177, 3) := by decide +kernel
theorem dX8_gift_75 : decode cX8_gift 75 = .ok (.iload_n 1, 1) := by decide +kernel
theorem dX8_gift_76 : decode cX8_gift 76 = .ok (.iaload, 1) := by decide +kernel
theorem dX8_gift_77 : decode cX8_gift 77 = .ok (.ireturn, 1) := by decide +kernel
theorem dX8_gift_78 : decode cX8_gift 78 = .ok (.aload_n 0, 1) := by decide +kernel
theorem dX8_gift_79 : decode cX8_gift 79 = .ok (.getfield 25, 3) := by decide +kernel
theorem dX8_gift_82 : decode cX8_gift 82 = .ok (.getfield 180, 3) := by decide +kernel
theorem dX8_gift_85 : decode cX8_gift 85 = .ok (.iload_n 1, 1) := by decide +kernel
theorem dX8_gift_86 : decode cX8_gift 86 = .ok (.iaload, 1) := by decide +kernel
theorem dX8_gift_87 : decode cX8_gift 87 = .ok (.ireturn, 1) := by decide +kernel
theorem dX8_gift_88 : decode cX8_gift 88 = .ok (.aload_n 0, 1) := by decide +kernel
theorem dX8_gift_89 : decode cX8_gift 89 = .ok (.getfield 25, 3) := by decide +kernel
theorem dX8_gift_92 : decode cX8_gift 92 = .ok (.getfield 183, 3) := by decide +kernel
theorem dX8_gift_95 : decode cX8_gift 95 = .ok (.iload_n 1, 1) := by decide +kernel
theorem dX8_gift_96 : decode cX8_gift 96 = .ok (.iaload, 1) := by decide +kernel
theorem dX8_gift_97 : decode cX8_gift 97 = .ok (.ireturn, 1) := by decide +kernel
theorem dX8_gift_98 : decode cX8_gift 98 = .ok (.aload_n 0, 1) := by decide +kernel
theorem dX8_gift_99 : decode cX8_gift 99 = .ok (.invokevirtual 159, 3) := by decide +kernel
theorem dX8_gift_102 : decode cX8_gift 102 = .ok (.getfield 186, 3) := by decide +kernel
theorem dX8_gift_105 : decode cX8_gift 105 = .ok (.iload_n 1, 1) := by decide +kernel
theorem dX8_gift_106 : decode cX8_gift 106 = .ok (.baload, 1) := by decide +kernel
theorem dX8_gift_107 : decode cX8_gift 107 = .ok (.ifCond .eq 7, 3) := by decide +kernel
theorem dX8_gift_110 : decode cX8_gift 110 = .ok (.iconst 1, 1) := by decide +kernel
theorem dX8_gift_111 : decode cX8_gift 111 = .ok (.goto 4, 3) := by decide +kernel
theorem dX8_gift_114 : decode cX8_gift 114 = .ok (.iconst 0, 1) := by decide +kernel
theorem dX8_gift_115 : decode cX8_gift 115 = .ok (.ireturn, 1) := by decide +kernel
theorem dX8_gift_116 : decode cX8_gift 116 = .ok (.aload_n 0, 1) := by decide +kernel
theorem dX8_gift_117 : decode cX8_gift 117 = .ok (.iload_n 1, 1) := by decide +kernel
theorem dX8_gift_118 : decode cX8_gift 118 = .ok (.invokevirtual 189, 3) := by decide +kernel
theorem dX8_gift_121 : decode cX8_gift 121 = .ok (.ireturn, 1) := by decide +kernel
theorem dX8_gift_122 : decode cX8_gift 122 = .ok (.new 138, 3) := by decide +kernel
theorem dX8_gift_125 : decode cX8_gift 125 = .ok (.dup, 1) := by decide +kernel
theorem dX8_gift_126 : decode cX8_gift 126 = .ok (.ldc 192, 2) := by decide +kernel
theorem dX8_gift_128 : decode cX8_gift 128 = .ok (.invokespecial 142, 3) := by decide +kernel
theorem dX8_gift_131 : decode cX8_gift 131 = .ok (.athrow, 1) := by decide +kernel
theorem dX8_ademption_0 : decode cX8_ademption 0 = .ok (.aload_n 0, 1) := by decide +kernel
theorem dX8_ademption_1 : decode cX8_ademption 1 = .ok (.getfield 25, 3) := by decide +kernel
theorem dX8_ademption_4 : decode cX8_ademption 4 = .ok (.getfield 171, 3) := by decide +kernel
theorem dX8_ademption_7 : decode cX8_ademption 7 = .ok (.iload_n 1, 1) := by decide +kernel
theorem dX8_ademption_8 : decode cX8_ademption 8 = .ok (.iaload, 1) := by decide +kernel
theorem dX8_ademption_9 : decode cX8_ademption 9 = .ok (.ifCond .ne 22, 3) := by decide +kernel
theorem dX8_ademption_12 : decode cX8_ademption 12 = .ok (.aload_n 0, 1) := by decide +kernel
theorem dX8_ademption_13 : decode cX8_ademption 13 = .ok (.getfield 32, 3) := by decide +kernel
theorem dX8_ademption_16 : decode cX8_ademption 16 = .ok (.aload_n 0, 1) := by decide +kernel
theorem dX8_ademption_17 : decode cX8_ademption 17 = .ok (.getfield 25, 3) := by decide +kernel
theorem dX8_ademption_20 : decode cX8_ademption 20 = .ok (.getfield 177, 3) := by decide +kernel
theorem dX8_ademption_23 : decode cX8_ademption 23 = .ok (.iload_n 1, 1) := by decide +kernel
theorem dX8_ademption_24 : decode cX8_ademption 24 = .ok (.iaload, 1) := by decide +kernel
theorem dX8_ademption_25 : decode cX8_ademption 25 = .ok (.invokevirtual 131, 3) := by decide +kernel
theorem dX8_ademption_28 : decode cX8_ademption 28 = .ok (.ifCond .eq 5, 3) := by decide +kernel
theorem dX8_ademption_31 : decode cX8_ademption 31 = .ok (.iconst 0, 1) := by decide +kernel
theorem dX8_ademption_32 : decode cX8_ademption 32 = .ok (.ireturn, 1) := by decide +kernel
theorem dX8_ademption_33 : decode cX8_ademption 33 = .ok (.aload_n 0, 1) := by decide +kernel
theorem dX8_ademption_34 : decode cX8_ademption 34 = .ok (.getfield 32, 3) := by decide +kernel
theorem dX8_ademption_37 : decode cX8_ademption 37 = .ok (.aload_n 0, 1) := by decide +kernel
theorem dX8_ademption_38 : decode cX8_ademption 38 = .ok (.getfield 25, 3) := by decide +kernel
theorem dX8_ademption_41 : decode cX8_ademption 41 = .ok (.getfield 177, 3) := by decide +kernel
theorem dX8_ademption_44 : decode cX8_ademption 44 = .ok (.iload_n 1, 1) := by decide +kernel
theorem dX8_ademption_45 : decode cX8_ademption 45 = .ok (.iaload, 1) := by decide +kernel
theorem dX8_ademption_46 : decode cX8_ademption 46 = .ok (.invokevirtual 135, 3) := by decide +kernel
theorem dX8_ademption_49 : decode cX8_ademption 49 = .ok (.ifCond .ne 7, 3) := by decide +kernel
theorem dX8_ademption_52 : decode cX8_ademption 52 = .ok (.iconst 2, 1) := by decide +kernel
theorem dX8_ademption_53 : decode cX8_ademption 53 = .ok (.goto 4, 3) := by decide +kernel
theorem dX8_ademption_56 : decode cX8_ademption 56 = .ok (.iconst 1, 1) := by decide +kernel
theorem dX8_ademption_57 : decode cX8_ademption 57 = .ok (.ireturn, 1) := by decide +kernel
theorem dX8_sell_0 : decode cX8_sell 0 = .ok (.aload_n 0, 1) := by decide +kernel
theorem dX8_sell_1 : decode cX8_sell 1 = .ok (.iload_n 1, 1) := by decide +kernel
theorem dX8_sell_2 : decode cX8_sell 2 = .ok (.invokevirtual 115, 3) := by decide +kernel
theorem dX8_sell_5 : decode cX8_sell 5 = .ok (.aload_n 0, 1) := by decide +kernel
theorem dX8_sell_6 : decode cX8_sell 6 = .ok (.iload_n 1, 1) := by decide +kernel
theorem dX8_sell_7 : decode cX8_sell 7 = .ok (.iload_n 2, 1) := by decide +kernel
theorem dX8_sell_8 : decode cX8_sell 8 = .ok (.iload_n 3, 1) := by decide +kernel
theorem dX8_sell_9 : decode cX8_sell 9 = .ok (.invokevirtual 194, 3) := by decide +kernel
theorem dX8_sell_12 : decode cX8_sell 12 = .ok (.aload_n 0, 1) := by decide +kernel
theorem dX8_sell_13 : decode cX8_sell 13 = .ok (.invokevirtual 198, 3) := by decide +kernel
theorem dX8_sell_16 : decode cX8_sell 16 = .ok (.aload_n 0, 1) := by decide +kernel
theorem dX8_sell_17 : decode cX8_sell 17 = .ok (.getfield 32, 3) := by decide +kernel
theorem dX8_sell_20 : decode cX8_sell 20 = .ok (.iload_n 1, 1) := by decide +kernel
theorem dX8_sell_21 : decode cX8_sell 21 = .ok (.iload_n 2, 1) := by decide +kernel
theorem dX8_sell_22 : decode cX8_sell 22 = .ok (.iload_n 3, 1) := by decide +kernel
theorem dX8_sell_23 : decode cX8_sell 23 = .ok (.invokevirtual 201, 3) := by decide +kernel
theorem dX8_sell_26 : decode cX8_sell 26 = .ok (.aload_n 0, 1) := by decide +kernel
theorem dX8_sell_27 : decode cX8_sell 27 = .ok (.getfield 32, 3) := by decide +kernel
theorem dX8_sell_30 : decode cX8_sell 30 = .ok (.iconst 0, 1) := by decide +kernel
theorem dX8_sell_31 : decode cX8_sell 31 = .ok (.invokevirtual 204, 3) := by decide +kernel
theorem dX8_sell_34 : decode cX8_sell 34 = .ok (.ireturn, 1) := by decide +kernel
theorem dX8_change_0 : decode cX8_change 0 = .ok (.aload_n 0, 1) := by decide +kernel
theorem dX8_change_1 : decode cX8_change 1 = .ok (.iload_n 1, 1) := by decide +kernel
theorem dX8_change_2 : decode cX8_change 2 = .ok (.invokevirtual 115, 3) := by decide +kernel
theorem dX8_change_5 : decode cX8_change 5 = .ok (.iload_n 2, 1) := by decide +kernel
theorem dX8_change_6 : decode cX8_change 6 = .ok (.iconst 1, 1) := by decide +kernel
theorem dX8_change_7 : decode cX8_change 7 = .ok (.if_icmp .lt 10, 3) := by decide +kernel
theorem dX8_change_10 : decode cX8_change 10 = .ok (.iload_n 2, 1) := by decide +kernel
theorem dX8_change_11 : decode cX8_change 11 = .ok (.sipush 9999, 3) := by decide +kernel
theorem dX8_change_14 : decode cX8_change 14 = .ok (.if_icmp .le 13, 3) := by decide +kernel
theorem dX8_change_17 : decode cX8_change 17 = .ok (.new 207, 3) := by decide +kernel
theorem dX8_change_20 : decode cX8_change 20 = .ok (.dup, 1) := by decide +kernel
theorem dX8_change_21 : decode cX8_change 21 = .ok (.ldc 209, 2) := by decide +kernel
theorem dX8_change_23 : decode cX8_change 23 = .ok (.invokespecial 211, 3) := by decide +kernel
theorem dX8_change_26 : decode cX8_change 26 = .ok (.athrow, 1) := by decide +kernel
theorem dX8_change_27 : decode cX8_change 27 = .ok (.aload_n 0, 1) := by decide +kernel
theorem dX8_change_28 : decode cX8_change 28 = .ok (.iload_n 1, 1) := by decide +kernel
theorem dX8_change_29 : decode cX8_change 29 = .ok (.invokevirtual 212, 3) := by decide +kernel
theorem dX8_change_32 : decode cX8_change 32 = .ok (.aload_n 0, 1) := by decide +kernel
theorem dX8_change_33 : decode cX8_change 33 = .ok (.invokevirtual 198, 3) := by decide +kernel
theorem dX8_change_36 : decode cX8_change 36 = .ok (.aload_n 0, 1) := by decide +kernel
theorem dX8_change_37 : decode cX8_change 37 = .ok (.getfield 32, 3) := by decide +kernel
theorem dX8_change_40 : decode cX8_change 40 = .ok (.iload_n 1, 1) := by decide +kernel
theorem dX8_change_41 : decode cX8_change 41 = .ok (.invokevirtual 121, 3) := by decide +kernel
theorem dX8_change_44 : decode cX8_change 44 = .ok (.istore_n 3, 1) := by decide +kernel
theorem dX8_change_45 : decode cX8_change 45 = .ok (.aload_n 0, 1) := by decide +kernel
theorem dX8_change_46 : decode cX8_change 46 = .ok (.getfield 32, 3) := by decide +kernel
theorem dX8_change_49 : decode cX8_change 49 = .ok (.iload_n 1, 1) := by decide +kernel
theorem dX8_change_50 : decode cX8_change 50 = .ok (.iload_n 2, 1) := by decide +kernel
theorem dX8_change_51 : decode cX8_change 51 = .ok (.invokevirtual 215, 3) := by decide +kernel
theorem dX8_change_54 : decode cX8_change 54 = .ok (.iload_n 3, 1) := by decide +kernel
theorem dX8_change_55 : decode cX8_change 55 = .ok (.ireturn, 1) := by decide +kernel
theorem dX8_lose_0 : decode cX8_lose 0 = .ok (.aload_n 0, 1) := by decide +kernel
theorem dX8_lose_1 : decode cX8_lose 1 = .ok (.iload_n 1, 1) := by decide +kernel
theorem dX8_lose_2 : decode cX8_lose 2 = .ok (.invokevirtual 115, 3) := by decide +kernel
theorem dX8_lose_5 : decode cX8_lose 5 = .ok (.iload_n 2, 1) := by decide +kernel
theorem dX8_lose_6 : decode cX8_lose 6 = .ok (.ifCond .lt 10, 3) := by decide +kernel
theorem dX8_lose_9 : decode cX8_lose 9 = .ok (.iload_n 2, 1) := by decide +kernel
theorem dX8_lose_10 : decode cX8_lose 10 = .ok (.sipush 9999, 3) := by decide +kernel
theorem dX8_lose_13 : decode cX8_lose 13 = .ok (.if_icmp .le 13, 3) := by decide +kernel
theorem dX8_lose_16 : decode cX8_lose 16 = .ok (.new 207, 3) := by decide +kernel
theorem dX8_lose_19 : decode cX8_lose 19 = .ok (.dup, 1) := by decide +kernel
theorem dX8_lose_20 : decode cX8_lose 20 = .ok (.ldc 219, 2) := by decide +kernel
theorem dX8_lose_22 : decode cX8_lose 22 = .ok (.invokespecial 211, 3) := by decide +kernel
theorem dX8_lose_25 : decode cX8_lose 25 = .ok (.athrow, 1) := by decide +kernel
theorem dX8_lose_26 : decode cX8_lose 26 = .ok (.aload_n 0, 1) := by decide +kernel
theorem dX8_lose_27 : decode cX8_lose 27 = .ok (.iload_n 1, 1) := by decide +kernel
theorem dX8_lose_28 : decode cX8_lose 28 = .ok (.invokevirtual 212, 3) := by decide +kernel
theorem dX8_lose_31 : decode cX8_lose 31 = .ok (.aload_n 0, 1) := by decide +kernel
theorem dX8_lose_32 : decode cX8_lose 32 = .ok (.invokevirtual 198, 3) := by decide +kernel
theorem dX8_lose_35 : decode cX8_lose 35 = .ok (.aload_n 0, 1) := by decide +kernel
theorem dX8_lose_36 : decode cX8_lose 36 = .ok (.getfield 32, 3) := by decide +kernel
theorem dX8_lose_39 : decode cX8_lose 39 = .ok (.iload_n 1, 1) := by decide +kernel
theorem dX8_lose_40 : decode cX8_lose 40 = .ok (.iload_n 2, 1) := by decide +kernel
theorem dX8_lose_41 : decode cX8_lose 41 = .ok (.invokevirtual 221, 3) := by decide +kernel
theorem dX8_lose_44 : decode cX8_lose 44 = .ok (.aload_n 0, 1) := by decide +kernel
theorem dX8_lose_45 : decode cX8_lose 45 = .ok (.getfield 32, 3) := by decide +kernel
theorem dX8_lose_48 : decode cX8_lose 48 = .ok (.iload_n 1, 1) := by decide +kernel
theorem dX8_lose_49 : decode cX8_lose 49 = .ok (.invokevirtual 121, 3) := by decide +kernel
theorem dX8_lose_52 : decode cX8_lose 52 = .ok (.ireturn, 1) := by decide +kernel
theorem dX8_die_0 : decode cX8_die 0 = .ok (.aload_n 0, 1) := by decide +kernel
theorem dX8_die_1 : decode cX8_die 1 = .ok (.iload_n 1, 1) := by decide +kernel
theorem dX8_die_2 : decode cX8_die 2 = .ok (.invokevirtual 102, 3) := by decide +kernel
theorem dX8_die_5 : decode cX8_die 5 = .ok (.aload_n 0, 1) := by decide +kernel
theorem dX8_die_6 : decode cX8_die 6 = .ok (.iload_n 1, 1) := by decide +kernel
theorem dX8_die_7 : decode cX8_die 7 = .ok (.invokevirtual 224, 3) := by decide +kernel
theorem dX8_die_10 : decode cX8_die 10 = .ok (.aload_n 0, 1) := by decide +kernel
theorem dX8_die_11 : decode cX8_die 11 = .ok (.invokevirtual 198, 3) := by decide +kernel
theorem dX8_die_14 : decode cX8_die 14 = .ok (.aload_n 0, 1) := by decide +kernel
theorem dX8_die_15 : decode cX8_die 15 = .ok (.getfield 32, 3) := by decide +kernel
theorem dX8_die_18 : decode cX8_die 18 = .ok (.iload_n 1, 1) := by decide +kernel
theorem dX8_die_19 : decode cX8_die 19 = .ok (.invokevirtual 227, 3) := by decide +kernel
theorem dX8_die_22 : decode cX8_die 22 = .ok (.aload_n 0, 1) := by decide +kernel
theorem dX8_die_23 : decode cX8_die 23 = .ok (.invokevirtual 230, 3) := by decide +kernel
theorem dX8_die_26 : decode cX8_die 26 = .ok (.ireturn, 1) := by decide +kernel
theorem dX8_renounce_0 : decode cX8_renounce 0 = .ok (.aload_n 0, 1) := by decide +kernel
theorem dX8_renounce_1 : decode cX8_renounce 1 = .ok (.iload_n 1, 1) := by decide +kernel
theorem dX8_renounce_2 : decode cX8_renounce 2 = .ok (.invokevirtual 168, 3) := by decide +kernel
theorem dX8_renounce_5 : decode cX8_renounce 5 = .ok (.aload_n 0, 1) := by decide +kernel
theorem dX8_renounce_6 : decode cX8_renounce 6 = .ok (.invokevirtual 198, 3) := by decide +kernel
theorem dX8_renounce_9 : decode cX8_renounce 9 = .ok (.aload_n 0, 1) := by decide +kernel
theorem dX8_renounce_10 : decode cX8_renounce 10 = .ok (.getfield 32, 3) := by decide +kernel
theorem dX8_renounce_13 : decode cX8_renounce 13 = .ok (.iload_n 1, 1) := by decide +kernel
theorem dX8_renounce_14 : decode cX8_renounce 14 = .ok (.invokevirtual 234, 3) := by decide +kernel
theorem dX8_renounce_17 : decode cX8_renounce 17 = .ok (.istore_n 3, 1) := by decide +kernel
theorem dX8_renounce_18 : decode cX8_renounce 18 = .ok (.aload_n 0, 1) := by decide +kernel
theorem dX8_renounce_19 : decode cX8_renounce 19 = .ok (.getfield 32, 3) := by decide +kernel
theorem dX8_renounce_22 : decode cX8_renounce 22 = .ok (.iload_n 1, 1) := by decide +kernel
theorem dX8_renounce_23 : decode cX8_renounce 23 = .ok (.iload_n 2, 1) := by decide +kernel
theorem dX8_renounce_24 : decode cX8_renounce 24 = .ok (.invokevirtual 237, 3) := by decide +kernel
theorem dX8_renounce_27 : decode cX8_renounce 27 = .ok (.iload_n 3, 1) := by decide +kernel
theorem dX8_renounce_28 : decode cX8_renounce 28 = .ok (.ireturn, 1) := by decide +kernel
theorem dX8_set_0 : decode cX8_set 0 = .ok (.iload_n 1, 1) := by decide +kernel
theorem dX8_set_1 : decode cX8_set 1 = .ok (.ifCond .lt 8, 3) := by decide +kernel
theorem dX8_set_4 : decode cX8_set 4 = .ok (.iload_n 1, 1) := by decide +kernel
theorem dX8_set_5 : decode cX8_set 5 = .ok (.iconst 5, 1) := by decide +kernel
theorem dX8_set_6 : decode cX8_set 6 = .ok (.if_icmp .lt 13, 3) := by decide +kernel
theorem dX8_set_9 : decode cX8_set 9 = .ok (.new 138, 3) := by decide +kernel
theorem dX8_set_12 : decode cX8_set 12 = .ok (.dup, 1) := by decide +kernel
theorem dX8_set_13 : decode cX8_set 13 = .ok (.ldc 241, 2) := by decide +kernel
theorem dX8_set_15 : decode cX8_set 15 = .ok (.invokespecial 142, 3) := by decide +kernel
theorem dX8_set_18 : decode cX8_set 18 = .ok (.athrow, 1) := by decide +kernel
theorem dX8_set_19 : decode cX8_set 19 = .ok (.iload_n 2, 1) := by decide +kernel
theorem dX8_set_20 : decode cX8_set 20 = .ok (.ifCond .lt 12, 3) := by decide +kernel
theorem dX8_set_23 : decode cX8_set 23 = .ok (.iload_n 2, 1) := by decide +kernel
theorem dX8_set_24 : decode cX8_set 24 = .ok (.getstatic 243, 3) := by decide +kernel
theorem dX8_set_27 : decode cX8_set 27 = .ok (.iload_n 1, 1) := by decide +kernel
theorem dX8_set_28 : decode cX8_set 28 = .ok (.iaload, 1) := by decide +kernel
theorem dX8_set_29 : decode cX8_set 29 = .ok (.if_icmp .le 13, 3) := by decide +kernel
theorem dX8_set_32 : decode cX8_set 32 = .ok (.new 207, 3) := by decide +kernel
theorem dX8_set_35 : decode cX8_set 35 = .ok (.dup, 1) := by decide +kernel
theorem dX8_set_36 : decode cX8_set 36 = .ok (.ldc 246, 2) := by decide +kernel
theorem dX8_set_38 : decode cX8_set 38 = .ok (.invokespecial 211, 3) := by decide +kernel
theorem dX8_set_41 : decode cX8_set 41 = .ok (.athrow, 1) := by decide +kernel
theorem dX8_set_42 : decode cX8_set 42 = .ok (.aload_n 0, 1) := by decide +kernel
theorem dX8_set_43 : decode cX8_set 43 = .ok (.invokevirtual 198, 3) := by decide +kernel
theorem dX8_set_46 : decode cX8_set 46 = .ok (.aload_n 0, 1) := by decide +kernel
theorem dX8_set_47 : decode cX8_set 47 = .ok (.getfield 32, 3) := by decide +kernel
theorem dX8_set_50 : decode cX8_set 50 = .ok (.iload_n 1, 1) := by decide +kernel
theorem dX8_set_51 : decode cX8_set 51 = .ok (.invokevirtual 204, 3) := by decide +kernel
theorem dX8_set_54 : decode cX8_set 54 = .ok (.istore_n 3, 1) := by decide +kernel
theorem dX8_set_55 : decode cX8_set 55 = .ok (.aload_n 0, 1) := by decide +kernel
theorem dX8_set_56 : decode cX8_set 56 = .ok (.getfield 32, 3) := by decide +kernel
theorem dX8_set_59 : decode cX8_set 59 = .ok (.iload_n 1, 1) := by decide +kernel
theorem dX8_set_60 : decode cX8_set 60 = .ok (.iload_n 2, 1) := by decide +kernel
theorem dX8_set_61 : decode cX8_set 61 = .ok (.invokevirtual 248, 3) := by decide +kernel
theorem dX8_set_64 : decode cX8_set 64 = .ok (.iload_n 3, 1) := by decide +kernel
theorem dX8_set_65 : decode cX8_set 65 = .ok (.ireturn, 1) := by decide +kernel
theorem dX8_undo_0 : decode cX8_undo 0 = .ok (.aload_n 0, 1) := by decide +kernel
theorem dX8_undo_1 : decode cX8_undo 1 = .ok (.getfield 39, 3) := by decide +kernel
theorem dX8_undo_4 : decode cX8_undo 4 = .ok (.getfield 251, 3) := by decide +kernel
theorem dX8_undo_7 : decode cX8_undo 7 = .ok (.ifCond .ne 5, 3) := by decide +kernel
theorem dX8_undo_10 : decode cX8_undo 10 = .ok (.iconst (-1), 1) := by decide +kernel
theorem dX8_undo_11 : decode cX8_undo 11 = .ok (.ireturn, 1) := by decide +kernel
theorem dX8_undo_12 : decode cX8_undo 12 = .ok (.aload_n 0, 1) := by decide +kernel
theorem dX8_undo_13 : decode cX8_undo 13 = .ok (.getfield 39, 3) := by decide +kernel
theorem dX8_undo_16 : decode cX8_undo 16 = .ok (.aload_n 0, 1) := by decide +kernel
theorem dX8_undo_17 : decode cX8_undo 17 = .ok (.getfield 32, 3) := by decide +kernel
theorem dX8_undo_20 : decode cX8_undo 20 = .ok (.invokevirtual 254, 3) := by decide +kernel
theorem dX8_undo_23 : decode cX8_undo 23 = .ok (.aload_n 0, 1) := by decide +kernel
theorem dX8_undo_24 : decode cX8_undo 24 = .ok (.iconst 1, 1) := by decide +kernel
theorem dX8_undo_25 : decode cX8_undo 25 = .ok (.putfield 52, 3) := by decide +kernel
theorem dX8_undo_28 : decode cX8_undo 28 = .ok (.aload_n 0, 1) := by decide +kernel
theorem dX8_undo_29 : decode cX8_undo 29 = .ok (.getfield 39, 3) := by decide +kernel
theorem dX8_undo_32 : decode cX8_undo 32 = .ok (.getfield 251, 3) := by decide +kernel
theorem dX8_undo_35 : decode cX8_undo 35 = .ok (.ireturn, 1) := by decide +kernel
theorem dX8_beginAct_0 : decode cX8_beginAct 0 = .ok (.aload_n 0, 1) := by decide +kernel
theorem dX8_beginAct_1 : decode cX8_beginAct 1 = .ok (.getfield 39, 3) := by decide +kernel
theorem dX8_beginAct_4 : decode cX8_beginAct 4 = .ok (.aload_n 0, 1) := by decide +kernel
theorem dX8_beginAct_5 : decode cX8_beginAct 5 = .ok (.getfield 32, 3) := by decide +kernel
theorem dX8_beginAct_8 : decode cX8_beginAct 8 = .ok (.invokevirtual 257, 3) := by decide +kernel
theorem dX8_beginAct_11 : decode cX8_beginAct 11 = .ok (.aload_n 0, 1) := by decide +kernel
theorem dX8_beginAct_12 : decode cX8_beginAct 12 = .ok (.iconst 1, 1) := by decide +kernel
theorem dX8_beginAct_13 : decode cX8_beginAct 13 = .ok (.putfield 52, 3) := by decide +kernel
theorem dX8_beginAct_16 : decode cX8_beginAct 16 = .ok (.return_, 1) := by decide +kernel
theorem dX8_estate_0 : decode cX8_estate 0 = .ok (.iload_n 1, 1) := by decide +kernel
theorem dX8_estate_1 : decode cX8_estate 1 = .ok (.tableswitch 132 0 7 #[47, 55, 63, 84, 92, 100, 108, 124], 47) := by decide +kernel
theorem dX8_estate_48 : decode cX8_estate 48 = .ok (.aload_n 0, 1) := by decide +kernel
theorem dX8_estate_49 : decode cX8_estate 49 = .ok (.invokevirtual 159, 3) := by decide +kernel
theorem dX8_estate_52 : decode cX8_estate 52 = .ok (.getfield 260, 3) := by decide +kernel
theorem dX8_estate_55 : decode cX8_estate 55 = .ok (.ireturn, 1) := by decide +kernel
theorem dX8_estate_56 : decode cX8_estate 56 = .ok (.aload_n 0, 1) := by decide +kernel
theorem dX8_estate_57 : decode cX8_estate 57 = .ok (.invokevirtual 159, 3) := by decide +kernel
theorem dX8_estate_60 : decode cX8_estate 60 = .ok (.getfield 263, 3) := by decide +kernel
theorem dX8_estate_63 : decode cX8_estate 63 = .ok (.ireturn, 1) := by decide +kernel
theorem dX8_estate_64 : decode cX8_estate 64 = .ok (.iconst 0, 1) := by decide +kernel
theorem dX8_estate_65 : decode cX8_estate 65 = .ok (.aload_n 0, 1) := by decide +kernel
theorem dX8_estate_66 : decode cX8_estate 66 = .ok (.getfield 32, 3) := by decide +kernel
theorem dX8_estate_69 : decode cX8_estate 69 = .ok (.iconst 1, 1) := by decide +kernel
theorem dX8_estate_70 : decode cX8_estate 70 = .ok (.invokevirtual 204, 3) := by decide +kernel
theorem dX8_estate_73 : decode cX8_estate 73 = .ok (.aload_n 0, 1) := by decide +kernel
theorem dX8_estate_74 : decode cX8_estate 74 = .ok (.invokevirtual 159, 3) := by decide +kernel
theorem dX8_estate_77 : decode cX8_estate 77 = .ok (.getfield 260, 3) := by decide +kernel
theorem dX8_estate_80 : decode cX8_estate 80 = .ok (.isub, 1) := by decide +kernel
theorem dX8_estate_81 : decode cX8_estate 81 = .ok (.invokestatic 266, 3) := by decide +kernel
theorem dX8_estate_84 : decode cX8_estate 84 = .ok (.ireturn, 1) := by decide +kernel
theorem dX8_estate_85 : decode cX8_estate 85 = .ok (.aload_n 0, 1) := by decide +kernel
theorem dX8_estate_86 : decode cX8_estate 86 = .ok (.invokevirtual 159, 3) := by decide +kernel
theorem dX8_estate_89 : decode cX8_estate 89 = .ok (.getfield 271, 3) := by decide +kernel
theorem dX8_estate_92 : decode cX8_estate 92 = .ok (.ireturn, 1) := by decide +kernel
theorem dX8_estate_93 : decode cX8_estate 93 = .ok (.aload_n 0, 1) := by decide +kernel
theorem dX8_estate_94 : decode cX8_estate 94 = .ok (.invokevirtual 159, 3) := by decide +kernel
theorem dX8_estate_97 : decode cX8_estate 97 = .ok (.getfield 274, 3) := by decide +kernel
theorem dX8_estate_100 : decode cX8_estate 100 = .ok (.ireturn, 1) := by decide +kernel
theorem dX8_estate_101 : decode cX8_estate 101 = .ok (.aload_n 0, 1) := by decide +kernel
theorem dX8_estate_102 : decode cX8_estate 102 = .ok (.invokevirtual 159, 3) := by decide +kernel
theorem dX8_estate_105 : decode cX8_estate 105 = .ok (.getfield 277, 3) := by decide +kernel
theorem dX8_estate_108 : decode cX8_estate 108 = .ok (.ireturn, 1) := by decide +kernel
theorem dX8_estate_109 : decode cX8_estate 109 = .ok (.aload_n 0, 1) := by decide +kernel
theorem dX8_estate_110 : decode cX8_estate 110 = .ok (.invokevirtual 159, 3) := by decide +kernel
theorem dX8_estate_113 : decode cX8_estate 113 = .ok (.getfield 263, 3) := by decide +kernel
theorem dX8_estate_116 : decode cX8_estate 116 = .ok (.aload_n 0, 1) := by decide +kernel
theorem dX8_estate_117 : decode cX8_estate 117 = .ok (.invokevirtual 159, 3) := by decide +kernel
theorem dX8_estate_120 : decode cX8_estate 120 = .ok (.getfield 271, 3) := by decide +kernel
theorem dX8_estate_123 : decode cX8_estate 123 = .ok (.isub, 1) := by decide +kernel
theorem dX8_estate_124 : decode cX8_estate 124 = .ok (.ireturn, 1) := by decide +kernel
theorem dX8_estate_125 : decode cX8_estate 125 = .ok (.aload_n 0, 1) := by decide +kernel
theorem dX8_estate_126 : decode cX8_estate 126 = .ok (.invokevirtual 159, 3) := by decide +kernel
theorem dX8_estate_129 : decode cX8_estate 129 = .ok (.getfield 280, 3) := by decide +kernel
theorem dX8_estate_132 : decode cX8_estate 132 = .ok (.ireturn, 1) := by decide +kernel
theorem dX8_estate_133 : decode cX8_estate 133 = .ok (.new 138, 3) := by decide +kernel
theorem dX8_estate_136 : decode cX8_estate 136 = .ok (.dup, 1) := by decide +kernel
theorem dX8_estate_137 : decode cX8_estate 137 = .ok (.ldc_w 283, 3) := by decide +kernel
theorem dX8_estate_140 : decode cX8_estate 140 = .ok (.invokespecial 142, 3) := by decide +kernel
theorem dX8_estate_143 : decode cX8_estate 143 = .ok (.athrow, 1) := by decide +kernel
theorem dX8_due_0 : decode cX8_due 0 = .ok (.aload_n 0, 1) := by decide +kernel
theorem dX8_due_1 : decode cX8_due 1 = .ok (.iload_n 1, 1) := by decide +kernel
theorem dX8_due_2 : decode cX8_due 2 = .ok (.invokevirtual 168, 3) := by decide +kernel
theorem dX8_due_5 : decode cX8_due 5 = .ok (.aload_n 0, 1) := by decide +kernel
theorem dX8_due_6 : decode cX8_due 6 = .ok (.iload_n 2, 1) := by decide +kernel
theorem dX8_due_7 : decode cX8_due 7 = .ok (.bipush 6, 2) := by decide +kernel
theorem dX8_due_9 : decode cX8_due 9 = .ok (.invokevirtual 285, 3) := by decide +kernel
theorem dX8_due_12 : decode cX8_due 12 = .ok (.aload_n 0, 1) := by decide +kernel
theorem dX8_due_13 : decode cX8_due 13 = .ok (.invokevirtual 159, 3) := by decide +kernel
theorem dX8_due_16 : decode cX8_due 16 = .ok (.getfield 288, 3) := by decide +kernel
theorem dX8_due_19 : decode cX8_due 19 = .ok (.iload_n 1, 1) := by decide +kernel
theorem dX8_due_20 : decode cX8_due 20 = .ok (.aaload, 1) := by decide +kernel
theorem dX8_due_21 : decode cX8_due 21 = .ok (.iload_n 2, 1) := by decide +kernel
theorem dX8_due_22 : decode cX8_due 22 = .ok (.iaload, 1) := by decide +kernel
theorem dX8_due_23 : decode cX8_due 23 = .ok (.ireturn, 1) := by decide +kernel
theorem dX8_gets_0 : decode cX8_gets 0 = .ok (.aload_n 0, 1) := by decide +kernel
theorem dX8_gets_1 : decode cX8_gets 1 = .ok (.iload_n 1, 1) := by decide +kernel
theorem dX8_gets_2 : decode cX8_gets 2 = .ok (.invokevirtual 168, 3) := by decide +kernel
theorem dX8_gets_5 : decode cX8_gets 5 = .ok (.iload_n 2, 1) := by decide +kernel
theorem dX8_gets_6 : decode cX8_gets 6 = .ok (.iconst (-1), 1) := by decide +kernel
theorem dX8_gets_7 : decode cX8_gets 7 = .ok (.if_icmp .ne 15, 3) := by decide +kernel
theorem dX8_gets_10 : decode cX8_gets 10 = .ok (.aload_n 0, 1) := by decide +kernel
theorem dX8_gets_11 : decode cX8_gets 11 = .ok (.invokevirtual 159, 3) := by decide +kernel
theorem dX8_gets_14 : decode cX8_gets 14 = .ok (.iload_n 1, 1) := by decide +kernel
theorem dX8_gets_15 : decode cX8_gets 15 = .ok (.iconst 0, 1) := by decide +kernel
theorem dX8_gets_16 : decode cX8_gets 16 = .ok (.bipush 6, 2) := by decide +kernel
theorem dX8_gets_18 : decode cX8_gets 18 = .ok (.invokevirtual 292, 3) := by decide +kernel
theorem dX8_gets_21 : decode cX8_gets 21 = .ok (.ireturn, 1) := by decide +kernel
theorem dX8_gets_22 : decode cX8_gets 22 = .ok (.aload_n 0, 1) := by decide +kernel
theorem dX8_gets_23 : decode cX8_gets 23 = .ok (.iload_n 2, 1) := by decide +kernel
theorem dX8_gets_24 : decode cX8_gets 24 = .ok (.bipush 6, 2) := by decide +kernel
theorem dX8_gets_26 : decode cX8_gets 26 = .ok (.invokevirtual 285, 3) := by decide +kernel
theorem dX8_gets_29 : decode cX8_gets 29 = .ok (.aload_n 0, 1) := by decide +kernel
theorem dX8_gets_30 : decode cX8_gets 30 = .ok (.invokevirtual 159, 3) := by decide +kernel
theorem dX8_gets_33 : decode cX8_gets 33 = .ok (.getfield 296, 3) := by decide +kernel
theorem dX8_gets_36 : decode cX8_gets 36 = .ok (.iload_n 1, 1) := by decide +kernel
theorem dX8_gets_37 : decode cX8_gets 37 = .ok (.aaload, 1) := by decide +kernel
theorem dX8_gets_38 : decode cX8_gets 38 = .ok (.iload_n 2, 1) := by decide +kernel
theorem dX8_gets_39 : decode cX8_gets 39 = .ok (.iaload, 1) := by decide +kernel
theorem dX8_gets_40 : decode cX8_gets 40 = .ok (.ireturn, 1) := by decide +kernel
theorem dX8_classed_0 : decode cX8_classed 0 = .ok (.aload_n 0, 1) := by decide +kernel
theorem dX8_classed_1 : decode cX8_classed 1 = .ok (.iload_n 1, 1) := by decide +kernel
theorem dX8_classed_2 : decode cX8_classed 2 = .ok (.bipush 6, 2) := by decide +kernel
theorem dX8_classed_4 : decode cX8_classed 4 = .ok (.invokevirtual 285, 3) := by decide +kernel
theorem dX8_classed_7 : decode cX8_classed 7 = .ok (.iload_n 2, 1) := by decide +kernel
theorem dX8_classed_8 : decode cX8_classed 8 = .ok (.tableswitch 55 0 2 #[28, 37, 46], 28) := by decide +kernel
theorem dX8_classed_36 : decode cX8_classed 36 = .ok (.aload_n 0, 1) := by decide +kernel
theorem dX8_classed_37 : decode cX8_classed 37 = .ok (.invokevirtual 159, 3) := by decide +kernel
theorem dX8_classed_40 : decode cX8_classed 40 = .ok (.iload_n 1, 1) := by decide +kernel
theorem dX8_classed_41 : decode cX8_classed 41 = .ok (.invokevirtual 299, 3) := by decide +kernel
theorem dX8_classed_44 : decode cX8_classed 44 = .ok (.ireturn, 1) := by decide +kernel
theorem dX8_classed_45 : decode cX8_classed 45 = .ok (.aload_n 0, 1) := by decide +kernel
theorem dX8_classed_46 : decode cX8_classed 46 = .ok (.invokevirtual 159, 3) := by decide +kernel
theorem dX8_classed_49 : decode cX8_classed 49 = .ok (.iload_n 1, 1) := by decide +kernel
theorem dX8_classed_50 : decode cX8_classed 50 = .ok (.invokevirtual 302, 3) := by decide +kernel
theorem dX8_classed_53 : decode cX8_classed 53 = .ok (.ireturn, 1) := by decide +kernel
theorem dX8_classed_54 : decode cX8_classed 54 = .ok (.aload_n 0, 1) := by decide +kernel
theorem dX8_classed_55 : decode cX8_classed 55 = .ok (.invokevirtual 159, 3) := by decide +kernel
theorem dX8_classed_58 : decode cX8_classed 58 = .ok (.iload_n 1, 1) := by decide +kernel
theorem dX8_classed_59 : decode cX8_classed 59 = .ok (.invokevirtual 305, 3) := by decide +kernel
theorem dX8_classed_62 : decode cX8_classed 62 = .ok (.ireturn, 1) := by decide +kernel
theorem dX8_classed_63 : decode cX8_classed 63 = .ok (.new 138, 3) := by decide +kernel
theorem dX8_classed_66 : decode cX8_classed 66 = .ok (.dup, 1) := by decide +kernel
theorem dX8_classed_67 : decode cX8_classed 67 = .ok (.ldc_w 308, 3) := by decide +kernel
theorem dX8_classed_70 : decode cX8_classed 70 = .ok (.invokespecial 142, 3) := by decide +kernel
theorem dX8_classed_73 : decode cX8_classed 73 = .ok (.athrow, 1) := by decide +kernel
theorem dX8_itself_0 : decode cX8_itself 0 = .ok (.aload_n 0, 1) := by decide +kernel
theorem dX8_itself_1 : decode cX8_itself 1 = .ok (.iload_n 1, 1) := by decide +kernel
theorem dX8_itself_2 : decode cX8_itself 2 = .ok (.invokevirtual 168, 3) := by decide +kernel
theorem dX8_itself_5 : decode cX8_itself 5 = .ok (.aload_n 0, 1) := by decide +kernel
theorem dX8_itself_6 : decode cX8_itself 6 = .ok (.getfield 25, 3) := by decide +kernel
theorem dX8_itself_9 : decode cX8_itself 9 = .ok (.getfield 171, 3) := by decide +kernel
theorem dX8_itself_12 : decode cX8_itself 12 = .ok (.iload_n 1, 1) := by decide +kernel
theorem dX8_itself_13 : decode cX8_itself 13 = .ok (.iaload, 1) := by decide +kernel
theorem dX8_itself_14 : decode cX8_itself 14 = .ok (.ifCond .eq 14, 3) := by decide +kernel
theorem dX8_itself_17 : decode cX8_itself 17 = .ok (.new 207, 3) := by decide +kernel
theorem dX8_itself_20 : decode cX8_itself 20 = .ok (.dup, 1) := by decide +kernel
theorem dX8_itself_21 : decode cX8_itself 21 = .ok (.ldc_w 310, 3) := by decide +kernel
theorem dX8_itself_24 : decode cX8_itself 24 = .ok (.invokespecial 211, 3) := by decide +kernel
theorem dX8_itself_27 : decode cX8_itself 27 = .ok (.athrow, 1) := by decide +kernel
theorem dX8_itself_28 : decode cX8_itself 28 = .ok (.aload_n 0, 1) := by decide +kernel
theorem dX8_itself_29 : decode cX8_itself 29 = .ok (.invokevirtual 159, 3) := by decide +kernel
theorem dX8_itself_32 : decode cX8_itself 32 = .ok (.getfield 186, 3) := by decide +kernel
theorem dX8_itself_35 : decode cX8_itself 35 = .ok (.iload_n 1, 1) := by decide +kernel
theorem dX8_itself_36 : decode cX8_itself 36 = .ok (.baload, 1) := by decide +kernel
theorem dX8_itself_37 : decode cX8_itself 37 = .ok (.ifCond .ne 36, 3) := by decide +kernel
theorem dX8_itself_40 : decode cX8_itself 40 = .ok (.aload_n 0, 1) := by decide +kernel
theorem dX8_itself_41 : decode cX8_itself 41 = .ok (.getfield 32, 3) := by decide +kernel
theorem dX8_itself_44 : decode cX8_itself 44 = .ok (.aload_n 0, 1) := by decide +kernel
theorem dX8_itself_45 : decode cX8_itself 45 = .ok (.getfield 25, 3) := by decide +kernel
theorem dX8_itself_48 : decode cX8_itself 48 = .ok (.getfield 177, 3) := by decide +kernel
theorem dX8_itself_51 : decode cX8_itself 51 = .ok (.iload_n 1, 1) := by decide +kernel
theorem dX8_itself_52 : decode cX8_itself 52 = .ok (.iaload, 1) := by decide +kernel
theorem dX8_itself_53 : decode cX8_itself 53 = .ok (.invokevirtual 131, 3) := by decide +kernel
theorem dX8_itself_56 : decode cX8_itself 56 = .ok (.ifCond .eq 17, 3) := by decide +kernel
theorem dX8_itself_59 : decode cX8_itself 59 = .ok (.aload_n 0, 1) := by decide +kernel
theorem dX8_itself_60 : decode cX8_itself 60 = .ok (.invokevirtual 159, 3) := by decide +kernel
theorem dX8_itself_63 : decode cX8_itself 63 = .ok (.getfield 280, 3) := by decide +kernel
theorem dX8_itself_66 : decode cX8_itself 66 = .ok (.ifCond .eq 7, 3) := by decide +kernel
theorem dX8_itself_69 : decode cX8_itself 69 = .ok (.iconst 1, 1) := by decide +kernel
theorem dX8_itself_70 : decode cX8_itself 70 = .ok (.goto 4, 3) := by decide +kernel
theorem dX8_itself_73 : decode cX8_itself 73 = .ok (.iconst 0, 1) := by decide +kernel
theorem dX8_itself_74 : decode cX8_itself 74 = .ok (.ireturn, 1) := by decide +kernel
theorem dX8_leastDebt_0 : decode cX8_leastDebt 0 = .ok (.aload_n 0, 1) := by decide +kernel
theorem dX8_leastDebt_1 : decode cX8_leastDebt 1 = .ok (.iload_n 1, 1) := by decide +kernel
theorem dX8_leastDebt_2 : decode cX8_leastDebt 2 = .ok (.iconst 4, 1) := by decide +kernel
theorem dX8_leastDebt_3 : decode cX8_leastDebt 3 = .ok (.invokevirtual 285, 3) := by decide +kernel
theorem dX8_leastDebt_6 : decode cX8_leastDebt 6 = .ok (.aload_n 0, 1) := by decide +kernel
theorem dX8_leastDebt_7 : decode cX8_leastDebt 7 = .ok (.invokevirtual 159, 3) := by decide +kernel
theorem dX8_leastDebt_10 : decode cX8_leastDebt 10 = .ok (.iload_n 1, 1) := by decide +kernel
theorem dX8_leastDebt_11 : decode cX8_leastDebt 11 = .ok (.invokevirtual 299, 3) := by decide +kernel
theorem dX8_leastDebt_14 : decode cX8_leastDebt 14 = .ok (.ifCond .ne 5, 3) := by decide +kernel
theorem dX8_leastDebt_17 : decode cX8_leastDebt 17 = .ok (.iconst (-1), 1) := by decide +kernel
theorem dX8_leastDebt_18 : decode cX8_leastDebt 18 = .ok (.ireturn, 1) := by decide +kernel
theorem dX8_leastDebt_19 : decode cX8_leastDebt 19 = .ok (.iconst 0, 1) := by decide +kernel
theorem dX8_leastDebt_20 : decode cX8_leastDebt 20 = .ok (.aload_n 0, 1) := by decide +kernel
theorem dX8_leastDebt_21 : decode cX8_leastDebt 21 = .ok (.invokevirtual 159, 3) := by decide +kernel
theorem dX8_leastDebt_24 : decode cX8_leastDebt 24 = .ok (.getfield 260, 3) := by decide +kernel
theorem dX8_leastDebt_27 : decode cX8_leastDebt 27 = .ok (.aload_n 0, 1) := by decide +kernel
theorem dX8_leastDebt_28 : decode cX8_leastDebt 28 = .ok (.invokevirtual 159, 3) := by decide +kernel
theorem dX8_leastDebt_31 : decode cX8_leastDebt 31 = .ok (.iload_n 1, 1) := by decide +kernel
theorem dX8_leastDebt_32 : decode cX8_leastDebt 32 = .ok (.invokevirtual 312, 3) := by decide +kernel
theorem dX8_leastDebt_35 : decode cX8_leastDebt 35 = .ok (.isub, 1) := by decide +kernel
theorem dX8_leastDebt_36 : decode cX8_leastDebt 36 = .ok (.iconst 1, 1) := by decide +kernel
theorem dX8_leastDebt_37 : decode cX8_leastDebt 37 = .ok (.iadd, 1) := by decide +kernel
theorem dX8_leastDebt_38 : decode cX8_leastDebt 38 = .ok (.invokestatic 266, 3) := by decide +kernel
theorem dX8_leastDebt_41 : decode cX8_leastDebt 41 = .ok (.ireturn, 1) := by decide +kernel
theorem dX8_needed_0 : decode cX8_needed 0 = .ok (.aload_n 0, 1) := by decide +kernel
theorem dX8_needed_1 : decode cX8_needed 1 = .ok (.iload_n 1, 1) := by decide +kernel
theorem dX8_needed_2 : decode cX8_needed 2 = .ok (.iconst 4, 1) := by decide +kernel
theorem dX8_needed_3 : decode cX8_needed 3 = .ok (.invokevirtual 285, 3) := by decide +kernel
theorem dX8_needed_6 : decode cX8_needed 6 = .ok (.aload_n 0, 1) := by decide +kernel
theorem dX8_needed_7 : decode cX8_needed 7 = .ok (.invokevirtual 159, 3) := by decide +kernel
theorem dX8_needed_10 : decode cX8_needed 10 = .ok (.iload_n 1, 1) := by decide +kernel
theorem dX8_needed_11 : decode cX8_needed 11 = .ok (.invokevirtual 312, 3) := by decide +kernel
theorem dX8_needed_14 : decode cX8_needed 14 = .ok (.istore_n 2, 1) := by decide +kernel
theorem dX8_needed_15 : decode cX8_needed 15 = .ok (.iload_n 2, 1) := by decide +kernel
theorem dX8_needed_16 : decode cX8_needed 16 = .ok (.ifCond .ne 5, 3) := by decide +kernel
theorem dX8_needed_19 : decode cX8_needed 19 = .ok (.iconst 0, 1) := by decide +kernel
theorem dX8_needed_20 : decode cX8_needed 20 = .ok (.ireturn, 1) := by decide +kernel
theorem dX8_needed_21 : decode cX8_needed 21 = .ok (.aload_n 0, 1) := by decide +kernel
theorem dX8_needed_22 : decode cX8_needed 22 = .ok (.invokevirtual 159, 3) := by decide +kernel
theorem dX8_needed_25 : decode cX8_needed 25 = .ok (.getfield 260, 3) := by decide +kernel
theorem dX8_needed_28 : decode cX8_needed 28 = .ok (.aload_n 0, 1) := by decide +kernel
theorem dX8_needed_29 : decode cX8_needed 29 = .ok (.getfield 32, 3) := by decide +kernel
theorem dX8_needed_32 : decode cX8_needed 32 = .ok (.iconst 0, 1) := by decide +kernel
theorem dX8_needed_33 : decode cX8_needed 33 = .ok (.invokevirtual 204, 3) := by decide +kernel
theorem dX8_needed_36 : decode cX8_needed 36 = .ok (.isub, 1) := by decide +kernel
theorem dX8_needed_37 : decode cX8_needed 37 = .ok (.istore_n 3, 1) := by decide +kernel
theorem dX8_needed_38 : decode cX8_needed 38 = .ok (.iconst 0, 1) := by decide +kernel
theorem dX8_needed_39 : decode cX8_needed 39 = .ok (.iload_n 2, 1) := by decide +kernel
theorem dX8_needed_40 : decode cX8_needed 40 = .ok (.aload_n 0, 1) := by decide +kernel
theorem dX8_needed_41 : decode cX8_needed 41 = .ok (.getfield 32, 3) := by decide +kernel
theorem dX8_needed_44 : decode cX8_needed 44 = .ok (.iconst 1, 1) := by decide +kernel
theorem dX8_needed_45 : decode cX8_needed 45 = .ok (.invokevirtual 204, 3) := by decide +kernel
theorem dX8_needed_48 : decode cX8_needed 48 = .ok (.iadd, 1) := by decide +kernel
theorem dX8_needed_49 : decode cX8_needed 49 = .ok (.iload_n 3, 1) := by decide +kernel
theorem dX8_needed_50 : decode cX8_needed 50 = .ok (.isub, 1) := by decide +kernel
theorem dX8_needed_51 : decode cX8_needed 51 = .ok (.invokestatic 266, 3) := by decide +kernel
theorem dX8_needed_54 : decode cX8_needed 54 = .ok (.istore 4, 2) := by decide +kernel
theorem dX8_needed_56 : decode cX8_needed 56 = .ok (.iload 4, 2) := by decide +kernel
theorem dX8_needed_58 : decode cX8_needed 58 = .ok (.ldc_w 315, 3) := by decide +kernel
theorem dX8_needed_61 : decode cX8_needed 61 = .ok (.if_icmp .le 7, 3) := by decide +kernel
theorem dX8_needed_64 : decode cX8_needed 64 = .ok (.iconst (-1), 1) := by decide +kernel
theorem dX8_needed_65 : decode cX8_needed 65 = .ok (.goto 5, 3) := by decide +kernel
theorem dX8_needed_68 : decode cX8_needed 68 = .ok (.iload 4, 2) := by decide +kernel
theorem dX8_needed_70 : decode cX8_needed 70 = .ok (.ireturn, 1) := by decide +kernel
theorem dX8_part_0 : decode cX8_part 0 = .ok (.aload_n 0, 1) := by decide +kernel
theorem dX8_part_1 : decode cX8_part 1 = .ok (.iload_n 1, 1) := by decide +kernel
theorem dX8_part_2 : decode cX8_part 2 = .ok (.invokevirtual 168, 3) := by decide +kernel
theorem dX8_part_5 : decode cX8_part 5 = .ok (.aload_n 0, 1) := by decide +kernel
theorem dX8_part_6 : decode cX8_part 6 = .ok (.invokevirtual 159, 3) := by decide +kernel
theorem dX8_part_9 : decode cX8_part 9 = .ok (.iload_n 1, 1) := by decide +kernel
theorem dX8_part_10 : decode cX8_part 10 = .ok (.iconst 0, 1) := by decide +kernel
theorem dX8_part_11 : decode cX8_part 11 = .ok (.iconst 4, 1) := by decide +kernel
theorem dX8_part_12 : decode cX8_part 12 = .ok (.invokevirtual 316, 3) := by decide +kernel
theorem dX8_part_15 : decode cX8_part 15 = .ok (.istore_n 2, 1) := by decide +kernel
theorem dX8_part_16 : decode cX8_part 16 = .ok (.iload_n 2, 1) := by decide +kernel
theorem dX8_part_17 : decode cX8_part 17 = .ok (.ifCond .ne 5, 3) := by decide +kernel
theorem dX8_part_20 : decode cX8_part 20 = .ok (.iconst (-1), 1) := by decide +kernel
theorem dX8_part_21 : decode cX8_part 21 = .ok (.ireturn, 1) := by decide +kernel
theorem dX8_part_22 : decode cX8_part 22 = .ok (.aload_n 0, 1) := by decide +kernel
theorem dX8_part_23 : decode cX8_part 23 = .ok (.invokevirtual 159, 3) := by decide +kernel
theorem dX8_part_26 : decode cX8_part 26 = .ok (.iload_n 1, 1) := by decide +kernel
theorem dX8_part_27 : decode cX8_part 27 = .ok (.iconst 0, 1) := by decide +kernel
theorem dX8_part_28 : decode cX8_part 28 = .ok (.iconst 4, 1) := by decide +kernel
theorem dX8_part_29 : decode cX8_part 29 = .ok (.invokevirtual 292, 3) := by decide +kernel
theorem dX8_part_32 : decode cX8_part 32 = .ok (.sipush 1000, 3) := by decide +kernel
theorem dX8_part_35 : decode cX8_part 35 = .ok (.imul, 1) := by decide +kernel
theorem dX8_part_36 : decode cX8_part 36 = .ok (.iload_n 2, 1) := by decide +kernel
theorem dX8_part_37 : decode cX8_part 37 = .ok (.idiv, 1) := by decide +kernel
theorem dX8_part_38 : decode cX8_part 38 = .ok (.ireturn, 1) := by decide +kernel
theorem dX8_left_0 : decode cX8_left 0 = .ok (.aload_n 0, 1) := by decide +kernel
theorem dX8_left_1 : decode cX8_left 1 = .ok (.iload_n 1, 1) := by decide +kernel
theorem dX8_left_2 : decode cX8_left 2 = .ok (.invokevirtual 115, 3) := by decide +kernel
theorem dX8_left_5 : decode cX8_left 5 = .ok (.aload_n 0, 1) := by decide +kernel
theorem dX8_left_6 : decode cX8_left 6 = .ok (.invokevirtual 159, 3) := by decide +kernel
theorem dX8_left_9 : decode cX8_left 9 = .ok (.getfield 319, 3) := by decide +kernel
theorem dX8_left_12 : decode cX8_left 12 = .ok (.iload_n 1, 1) := by decide +kernel
theorem dX8_left_13 : decode cX8_left 13 = .ok (.iaload, 1) := by decide +kernel
theorem dX8_left_14 : decode cX8_left 14 = .ok (.ireturn, 1) := by decide +kernel
theorem dX8_takes_0 : decode cX8_takes 0 = .ok (.aload_n 0, 1) := by decide +kernel
theorem dX8_takes_1 : decode cX8_takes 1 = .ok (.iload_n 1, 1) := by decide +kernel
theorem dX8_takes_2 : decode cX8_takes 2 = .ok (.invokevirtual 168, 3) := by decide +kernel
theorem dX8_takes_5 : decode cX8_takes 5 = .ok (.aload_n 0, 1) := by decide +kernel
theorem dX8_takes_6 : decode cX8_takes 6 = .ok (.iload_n 2, 1) := by decide +kernel
theorem dX8_takes_7 : decode cX8_takes 7 = .ok (.invokevirtual 102, 3) := by decide +kernel
theorem dX8_takes_10 : decode cX8_takes 10 = .ok (.aload_n 0, 1) := by decide +kernel
theorem dX8_takes_11 : decode cX8_takes 11 = .ok (.invokevirtual 159, 3) := by decide +kernel
theorem dX8_takes_14 : decode cX8_takes 14 = .ok (.getfield 322, 3) := by decide +kernel
theorem dX8_takes_17 : decode cX8_takes 17 = .ok (.iload_n 1, 1) := by decide +kernel
theorem dX8_takes_18 : decode cX8_takes 18 = .ok (.aaload, 1) := by decide +kernel
theorem dX8_takes_19 : decode cX8_takes 19 = .ok (.iload_n 2, 1) := by decide +kernel
theorem dX8_takes_20 : decode cX8_takes 20 = .ok (.iaload, 1) := by decide +kernel
theorem dX8_takes_21 : decode cX8_takes 21 = .ok (.ireturn, 1) := by decide +kernel
theorem dX8_taken_0 : decode cX8_taken 0 = .ok (.aload_n 0, 1) := by decide +kernel
theorem dX8_taken_1 : decode cX8_taken 1 = .ok (.iload_n 1, 1) := by decide +kernel
theorem dX8_taken_2 : decode cX8_taken 2 = .ok (.invokevirtual 102, 3) := by decide +kernel
theorem dX8_taken_5 : decode cX8_taken 5 = .ok (.iload_n 2, 1) := by decide +kernel
theorem dX8_taken_6 : decode cX8_taken 6 = .ok (.tableswitch 54 0 2 #[26, 35, 45], 26) := by decide +kernel
theorem dX8_taken_32 : decode cX8_taken 32 = .ok (.aload_n 0, 1) := by decide +kernel
theorem dX8_taken_33 : decode cX8_taken 33 = .ok (.invokevirtual 159, 3) := by decide +kernel
theorem dX8_taken_36 : decode cX8_taken 36 = .ok (.iload_n 1, 1) := by decide +kernel
theorem dX8_taken_37 : decode cX8_taken 37 = .ok (.invokevirtual 325, 3) := by decide +kernel
theorem dX8_taken_40 : decode cX8_taken 40 = .ok (.ireturn, 1) := by decide +kernel
theorem dX8_taken_41 : decode cX8_taken 41 = .ok (.aload_n 0, 1) := by decide +kernel
theorem dX8_taken_42 : decode cX8_taken 42 = .ok (.invokevirtual 159, 3) := by decide +kernel
theorem dX8_taken_45 : decode cX8_taken 45 = .ok (.getfield 328, 3) := by decide +kernel
theorem dX8_taken_48 : decode cX8_taken 48 = .ok (.iload_n 1, 1) := by decide +kernel
theorem dX8_taken_49 : decode cX8_taken 49 = .ok (.iaload, 1) := by decide +kernel
theorem dX8_taken_50 : decode cX8_taken 50 = .ok (.ireturn, 1) := by decide +kernel
theorem dX8_taken_51 : decode cX8_taken 51 = .ok (.aload_n 0, 1) := by decide +kernel
theorem dX8_taken_52 : decode cX8_taken 52 = .ok (.invokevirtual 159, 3) := by decide +kernel
theorem dX8_taken_55 : decode cX8_taken 55 = .ok (.iload_n 1, 1) := by decide +kernel
theorem dX8_taken_56 : decode cX8_taken 56 = .ok (.invokevirtual 331, 3) := by decide +kernel
theorem dX8_taken_59 : decode cX8_taken 59 = .ok (.ireturn, 1) := by decide +kernel
theorem dX8_taken_60 : decode cX8_taken 60 = .ok (.new 138, 3) := by decide +kernel
theorem dX8_taken_63 : decode cX8_taken 63 = .ok (.dup, 1) := by decide +kernel
theorem dX8_taken_64 : decode cX8_taken 64 = .ok (.ldc_w 334, 3) := by decide +kernel
theorem dX8_taken_67 : decode cX8_taken 67 = .ok (.invokespecial 142, 3) := by decide +kernel
theorem dX8_taken_70 : decode cX8_taken 70 = .ok (.athrow, 1) := by decide +kernel
theorem dX8_stock_0 : decode cX8_stock 0 = .ok (.aload_n 0, 1) := by decide +kernel
theorem dX8_stock_1 : decode cX8_stock 1 = .ok (.iload_n 1, 1) := by decide +kernel
theorem dX8_stock_2 : decode cX8_stock 2 = .ok (.invokevirtual 102, 3) := by decide +kernel
theorem dX8_stock_5 : decode cX8_stock 5 = .ok (.aload_n 0, 1) := by decide +kernel
theorem dX8_stock_6 : decode cX8_stock 6 = .ok (.invokevirtual 159, 3) := by decide +kernel
theorem dX8_stock_9 : decode cX8_stock 9 = .ok (.iload_n 1, 1) := by decide +kernel
theorem dX8_stock_10 : decode cX8_stock 10 = .ok (.iload_n 2, 1) := by decide +kernel
theorem dX8_stock_11 : decode cX8_stock 11 = .ok (.invokevirtual 336, 3) := by decide +kernel
theorem dX8_stock_14 : decode cX8_stock 14 = .ok (.ireturn, 1) := by decide +kernel
theorem dX8_heir_0 : decode cX8_heir 0 = .ok (.iload_n 1, 1) := by decide +kernel
theorem dX8_heir_1 : decode cX8_heir 1 = .ok (.istore_n 2, 1) := by decide +kernel
theorem dX8_heir_2 : decode cX8_heir 2 = .ok (.iconst 0, 1) := by decide +kernel
theorem dX8_heir_3 : decode cX8_heir 3 = .ok (.istore_n 3, 1) := by decide +kernel
theorem dX8_heir_4 : decode cX8_heir 4 = .ok (.iload_n 3, 1) := by decide +kernel
theorem dX8_heir_5 : decode cX8_heir 5 = .ok (.aload_n 0, 1) := by decide +kernel
theorem dX8_heir_6 : decode cX8_heir 6 = .ok (.getfield 25, 3) := by decide +kernel
theorem dX8_heir_9 : decode cX8_heir 9 = .ok (.getfield 105, 3) := by decide +kernel
theorem dX8_heir_12 : decode cX8_heir 12 = .ok (.getfield 339, 3) := by decide +kernel
theorem dX8_heir_15 : decode cX8_heir 15 = .ok (.if_icmp .ge 29, 3) := by decide +kernel
theorem dX8_heir_18 : decode cX8_heir 18 = .ok (.aload_n 0, 1) := by decide +kernel
theorem dX8_heir_19 : decode cX8_heir 19 = .ok (.invokevirtual 159, 3) := by decide +kernel
theorem dX8_heir_22 : decode cX8_heir 22 = .ok (.iload_n 3, 1) := by decide +kernel
theorem dX8_heir_23 : decode cX8_heir 23 = .ok (.invokevirtual 340, 3) := by decide +kernel
theorem dX8_heir_26 : decode cX8_heir 26 = .ok (.ifCond .eq 12, 3) := by decide +kernel
theorem dX8_heir_29 : decode cX8_heir 29 = .ok (.iload_n 2, 1) := by decide +kernel
theorem dX8_heir_30 : decode cX8_heir 30 = .ok (.ifCond .ne 5, 3) := by decide +kernel
theorem dX8_heir_33 : decode cX8_heir 33 = .ok (.iload_n 3, 1) := by decide +kernel
theorem dX8_heir_34 : decode cX8_heir 34 = .ok (.ireturn, 1) := by decide +kernel
theorem dX8_heir_35 : decode cX8_heir 35 = .ok (.iinc 2 (-1), 3) := by decide +kernel
theorem dX8_heir_38 : decode cX8_heir 38 = .ok (.iinc 3 1, 3) := by decide +kernel
theorem dX8_heir_41 : decode cX8_heir 41 = .ok (.goto (-37), 3) := by decide +kernel
theorem dX8_heir_44 : decode cX8_heir 44 = .ok (.iconst (-1), 1) := by decide +kernel
theorem dX8_heir_45 : decode cX8_heir 45 = .ok (.ireturn, 1) := by decide +kernel
theorem dX8_ranked_0 : decode cX8_ranked 0 = .ok (.iconst 0, 1) := by decide +kernel
theorem dX8_ranked_1 : decode cX8_ranked 1 = .ok (.istore_n 2, 1) := by decide +kernel
theorem dX8_ranked_2 : decode cX8_ranked 2 = .ok (.iload_n 2, 1) := by decide +kernel
theorem dX8_ranked_3 : decode cX8_ranked 3 = .ok (.aload_n 0, 1) := by decide +kernel
theorem dX8_ranked_4 : decode cX8_ranked 4 = .ok (.getfield 25, 3) := by decide +kernel
theorem dX8_ranked_7 : decode cX8_ranked 7 = .ok (.getfield 105, 3) := by decide +kernel
theorem dX8_ranked_10 : decode cX8_ranked 10 = .ok (.getfield 339, 3) := by decide +kernel
theorem dX8_ranked_13 : decode cX8_ranked 13 = .ok (.if_icmp .ge 23, 3) := by decide +kernel
theorem dX8_ranked_16 : decode cX8_ranked 16 = .ok (.aload_n 0, 1) := by decide +kernel
theorem dX8_ranked_17 : decode cX8_ranked 17 = .ok (.invokevirtual 159, 3) := by decide +kernel
theorem dX8_ranked_20 : decode cX8_ranked 20 = .ok (.iload_n 2, 1) := by decide +kernel
theorem dX8_ranked_21 : decode cX8_ranked 21 = .ok (.invokevirtual 343, 3) := by decide +kernel
theorem dX8_ranked_24 : decode cX8_ranked 24 = .ok (.iload_n 1, 1) := by decide +kernel
theorem dX8_ranked_25 : decode cX8_ranked 25 = .ok (.if_icmp .ne 5, 3) := by decide +kernel
theorem dX8_ranked_28 : decode cX8_ranked 28 = .ok (.iload_n 2, 1) := by decide +kernel
theorem dX8_ranked_29 : decode cX8_ranked 29 = .ok (.ireturn, 1) := by decide +kernel
theorem dX8_ranked_30 : decode cX8_ranked 30 = .ok (.iinc 2 1, 3) := by decide +kernel
theorem dX8_ranked_33 : decode cX8_ranked 33 = .ok (.goto (-31), 3) := by decide +kernel
theorem dX8_ranked_36 : decode cX8_ranked 36 = .ok (.iconst (-1), 1) := by decide +kernel
theorem dX8_ranked_37 : decode cX8_ranked 37 = .ok (.ireturn, 1) := by decide +kernel
theorem dX8_ifDead_0 : decode cX8_ifDead 0 = .ok (.aload_n 0, 1) := by decide +kernel
theorem dX8_ifDead_1 : decode cX8_ifDead 1 = .ok (.iload_n 1, 1) := by decide +kernel
theorem dX8_ifDead_2 : decode cX8_ifDead 2 = .ok (.invokevirtual 102, 3) := by decide +kernel
theorem dX8_ifDead_5 : decode cX8_ifDead 5 = .ok (.aload_n 0, 1) := by decide +kernel
theorem dX8_ifDead_6 : decode cX8_ifDead 6 = .ok (.iload_n 2, 1) := by decide +kernel
theorem dX8_ifDead_7 : decode cX8_ifDead 7 = .ok (.invokevirtual 102, 3) := by decide +kernel
theorem dX8_ifDead_10 : decode cX8_ifDead 10 = .ok (.aload_n 0, 1) := by decide +kernel
theorem dX8_ifDead_11 : decode cX8_ifDead 11 = .ok (.iload_n 2, 1) := by decide +kernel
theorem dX8_ifDead_12 : decode cX8_ifDead 12 = .ok (.invokevirtual 224, 3) := by decide +kernel
theorem dX8_ifDead_15 : decode cX8_ifDead 15 = .ok (.aload_n 0, 1) := by decide +kernel
theorem dX8_ifDead_16 : decode cX8_ifDead 16 = .ok (.getfield 56, 3) := by decide +kernel
theorem dX8_ifDead_19 : decode cX8_ifDead 19 = .ok (.aload_n 0, 1) := by decide +kernel
theorem dX8_ifDead_20 : decode cX8_ifDead 20 = .ok (.getfield 32, 3) := by decide +kernel
theorem dX8_ifDead_23 : decode cX8_ifDead 23 = .ok (.invokevirtual 89, 3) := by decide +kernel
theorem dX8_ifDead_26 : decode cX8_ifDead 26 = .ok (.aload_n 0, 1) := by decide +kernel
theorem dX8_ifDead_27 : decode cX8_ifDead 27 = .ok (.getfield 56, 3) := by decide +kernel
theorem dX8_ifDead_30 : decode cX8_ifDead 30 = .ok (.iload_n 2, 1) := by decide +kernel
theorem dX8_ifDead_31 : decode cX8_ifDead 31 = .ok (.invokevirtual 227, 3) := by decide +kernel
theorem dX8_ifDead_34 : decode cX8_ifDead 34 = .ok (.aload_n 0, 1) := by decide +kernel
theorem dX8_ifDead_35 : decode cX8_ifDead 35 = .ok (.iload_n 1, 1) := by decide +kernel
theorem dX8_ifDead_36 : decode cX8_ifDead 36 = .ok (.invokevirtual 346, 3) := by decide +kernel
theorem dX8_ifDead_39 : decode cX8_ifDead 39 = .ok (.ireturn, 1) := by decide +kernel
theorem dX8_ifSold_0 : decode cX8_ifSold 0 = .ok (.aload_n 0, 1) := by decide +kernel
theorem dX8_ifSold_1 : decode cX8_ifSold 1 = .ok (.iload_n 1, 1) := by decide +kernel
theorem dX8_ifSold_2 : decode cX8_ifSold 2 = .ok (.invokevirtual 102, 3) := by decide +kernel
theorem dX8_ifSold_5 : decode cX8_ifSold 5 = .ok (.aload_n 0, 1) := by decide +kernel
theorem dX8_ifSold_6 : decode cX8_ifSold 6 = .ok (.iload_n 2, 1) := by decide +kernel
theorem dX8_ifSold_7 : decode cX8_ifSold 7 = .ok (.invokevirtual 115, 3) := by decide +kernel
theorem dX8_ifSold_10 : decode cX8_ifSold 10 = .ok (.aload_n 0, 1) := by decide +kernel
theorem dX8_ifSold_11 : decode cX8_ifSold 11 = .ok (.iload_n 2, 1) := by decide +kernel
theorem dX8_ifSold_12 : decode cX8_ifSold 12 = .ok (.iload_n 3, 1) := by decide +kernel
theorem dX8_ifSold_13 : decode cX8_ifSold 13 = .ok (.iload 4, 2) := by decide +kernel
theorem dX8_ifSold_15 : decode cX8_ifSold 15 = .ok (.invokevirtual 194, 3) := by decide +kernel
theorem dX8_ifSold_18 : decode cX8_ifSold 18 = .ok (.aload_n 0, 1) := by decide +kernel
theorem dX8_ifSold_19 : decode cX8_ifSold 19 = .ok (.getfield 56, 3) := by decide +kernel
theorem dX8_ifSold_22 : decode cX8_ifSold 22 = .ok (.aload_n 0, 1) := by decide +kernel
theorem dX8_ifSold_23 : decode cX8_ifSold 23 = .ok (.getfield 32, 3) := by decide +kernel
theorem dX8_ifSold_26 : decode cX8_ifSold 26 = .ok (.invokevirtual 89, 3) := by decide +kernel
theorem dX8_ifSold_29 : decode cX8_ifSold 29 = .ok (.aload_n 0, 1) := by decide +kernel
theorem dX8_ifSold_30 : decode cX8_ifSold 30 = .ok (.getfield 56, 3) := by decide +kernel
theorem dX8_ifSold_33 : decode cX8_ifSold 33 = .ok (.iload_n 2, 1) := by decide +kernel
theorem dX8_ifSold_34 : decode cX8_ifSold 34 = .ok (.iload_n 3, 1) := by decide +kernel
theorem dX8_ifSold_35 : decode cX8_ifSold 35 = .ok (.iload 4, 2) := by decide +kernel
theorem dX8_ifSold_37 : decode cX8_ifSold 37 = .ok (.invokevirtual 201, 3) := by decide +kernel
theorem dX8_ifSold_40 : decode cX8_ifSold 40 = .ok (.aload_n 0, 1) := by decide +kernel
theorem dX8_ifSold_41 : decode cX8_ifSold 41 = .ok (.iload_n 1, 1) := by decide +kernel
theorem dX8_ifSold_42 : decode cX8_ifSold 42 = .ok (.invokevirtual 346, 3) := by decide +kernel
theorem dX8_ifSold_45 : decode cX8_ifSold 45 = .ok (.ireturn, 1) := by decide +kernel
theorem dX8_ifDebt_0 : decode cX8_ifDebt 0 = .ok (.aload_n 0, 1) := by decide +kernel
theorem dX8_ifDebt_1 : decode cX8_ifDebt 1 = .ok (.iload_n 1, 1) := by decide +kernel
theorem dX8_ifDebt_2 : decode cX8_ifDebt 2 = .ok (.invokevirtual 102, 3) := by decide +kernel
theorem dX8_ifDebt_5 : decode cX8_ifDebt 5 = .ok (.iload_n 2, 1) := by decide +kernel
theorem dX8_ifDebt_6 : decode cX8_ifDebt 6 = .ok (.ifCond .lt 12, 3) := by decide +kernel
theorem dX8_ifDebt_9 : decode cX8_ifDebt 9 = .ok (.iload_n 2, 1) := by decide +kernel
theorem dX8_ifDebt_10 : decode cX8_ifDebt 10 = .ok (.getstatic 243, 3) := by decide +kernel
theorem dX8_ifDebt_13 : decode cX8_ifDebt 13 = .ok (.iconst 1, 1) := by decide +kernel
theorem dX8_ifDebt_14 : decode cX8_ifDebt 14 = .ok (.iaload, 1) := by decide +kernel
theorem dX8_ifDebt_15 : decode cX8_ifDebt 15 = .ok (.if_icmp .le 14, 3) := by decide +kernel
theorem dX8_ifDebt_18 : decode cX8_ifDebt 18 = .ok (.new 207, 3) := by decide +kernel
theorem dX8_ifDebt_21 : decode cX8_ifDebt 21 = .ok (.dup, 1) := by decide +kernel
theorem dX8_ifDebt_22 : decode cX8_ifDebt 22 = .ok (.ldc_w 349, 3) := by decide +kernel
theorem dX8_ifDebt_25 : decode cX8_ifDebt 25 = .ok (.invokespecial 211, 3) := by decide +kernel
theorem dX8_ifDebt_28 : decode cX8_ifDebt 28 = .ok (.athrow, 1) := by decide +kernel
theorem dX8_ifDebt_29 : decode cX8_ifDebt 29 = .ok (.aload_n 0, 1) := by decide +kernel
theorem dX8_ifDebt_30 : decode cX8_ifDebt 30 = .ok (.getfield 56, 3) := by decide +kernel
theorem dX8_ifDebt_33 : decode cX8_ifDebt 33 = .ok (.aload_n 0, 1) := by decide +kernel
theorem dX8_ifDebt_34 : decode cX8_ifDebt 34 = .ok (.getfield 32, 3) := by decide +kernel
theorem dX8_ifDebt_37 : decode cX8_ifDebt 37 = .ok (.invokevirtual 89, 3) := by decide +kernel
theorem dX8_ifDebt_40 : decode cX8_ifDebt 40 = .ok (.aload_n 0, 1) := by decide +kernel
theorem dX8_ifDebt_41 : decode cX8_ifDebt 41 = .ok (.getfield 56, 3) := by decide +kernel
theorem dX8_ifDebt_44 : decode cX8_ifDebt 44 = .ok (.iconst 1, 1) := by decide +kernel
theorem dX8_ifDebt_45 : decode cX8_ifDebt 45 = .ok (.iload_n 2, 1) := by decide +kernel
theorem dX8_ifDebt_46 : decode cX8_ifDebt 46 = .ok (.invokevirtual 248, 3) := by decide +kernel
theorem dX8_ifDebt_49 : decode cX8_ifDebt 49 = .ok (.aload_n 0, 1) := by decide +kernel
theorem dX8_ifDebt_50 : decode cX8_ifDebt 50 = .ok (.iload_n 1, 1) := by decide +kernel
theorem dX8_ifDebt_51 : decode cX8_ifDebt 51 = .ok (.invokevirtual 346, 3) := by decide +kernel
theorem dX8_ifDebt_54 : decode cX8_ifDebt 54 = .ok (.ireturn, 1) := by decide +kernel
theorem dX8_ifRenounced_0 : decode cX8_ifRenounced 0 = .ok (.aload_n 0, 1) := by decide +kernel
theorem dX8_ifRenounced_1 : decode cX8_ifRenounced 1 = .ok (.iload_n 1, 1) := by decide +kernel
theorem dX8_ifRenounced_2 : decode cX8_ifRenounced 2 = .ok (.invokevirtual 102, 3) := by decide +kernel
theorem dX8_ifRenounced_5 : decode cX8_ifRenounced 5 = .ok (.aload_n 0, 1) := by decide +kernel
theorem dX8_ifRenounced_6 : decode cX8_ifRenounced 6 = .ok (.iload_n 2, 1) := by decide +kernel
theorem dX8_ifRenounced_7 : decode cX8_ifRenounced 7 = .ok (.invokevirtual 168, 3) := by decide +kernel
theorem dX8_ifRenounced_10 : decode cX8_ifRenounced 10 = .ok (.aload_n 0, 1) := by decide +kernel
theorem dX8_ifRenounced_11 : decode cX8_ifRenounced 11 = .ok (.getfield 56, 3) := by decide +kernel
theorem dX8_ifRenounced_14 : decode cX8_ifRenounced 14 = .ok (.aload_n 0, 1) := by decide +kernel
theorem dX8_ifRenounced_15 : decode cX8_ifRenounced 15 = .ok (.getfield 32, 3) := by decide +kernel
theorem dX8_ifRenounced_18 : decode cX8_ifRenounced 18 = .ok (.invokevirtual 89, 3) := by decide +kernel
theorem dX8_ifRenounced_21 : decode cX8_ifRenounced 21 = .ok (.aload_n 0, 1) := by decide +kernel
theorem dX8_ifRenounced_22 : decode cX8_ifRenounced 22 = .ok (.getfield 56, 3) := by decide +kernel
theorem dX8_ifRenounced_25 : decode cX8_ifRenounced 25 = .ok (.iload_n 2, 1) := by decide +kernel
theorem dX8_ifRenounced_26 : decode cX8_ifRenounced 26 = .ok (.iconst 1, 1) := by decide +kernel
theorem dX8_ifRenounced_27 : decode cX8_ifRenounced 27 = .ok (.invokevirtual 237, 3) := by decide +kernel
theorem dX8_ifRenounced_30 : decode cX8_ifRenounced 30 = .ok (.aload_n 0, 1) := by decide +kernel
theorem dX8_ifRenounced_31 : decode cX8_ifRenounced 31 = .ok (.iload_n 1, 1) := by decide +kernel
theorem dX8_ifRenounced_32 : decode cX8_ifRenounced 32 = .ok (.invokevirtual 346, 3) := by decide +kernel
theorem dX8_ifRenounced_35 : decode cX8_ifRenounced 35 = .ok (.ireturn, 1) := by decide +kernel
theorem dX8_ifHeld_0 : decode cX8_ifHeld 0 = .ok (.aload_n 0, 1) := by decide +kernel
theorem dX8_ifHeld_1 : decode cX8_ifHeld 1 = .ok (.iload_n 1, 1) := by decide +kernel
theorem dX8_ifHeld_2 : decode cX8_ifHeld 2 = .ok (.invokevirtual 168, 3) := by decide +kernel
theorem dX8_ifHeld_5 : decode cX8_ifHeld 5 = .ok (.aload_n 0, 1) := by decide +kernel
theorem dX8_ifHeld_6 : decode cX8_ifHeld 6 = .ok (.getfield 25, 3) := by decide +kernel
theorem dX8_ifHeld_9 : decode cX8_ifHeld 9 = .ok (.getfield 177, 3) := by decide +kernel
theorem dX8_ifHeld_12 : decode cX8_ifHeld 12 = .ok (.iload_n 1, 1) := by decide +kernel
theorem dX8_ifHeld_13 : decode cX8_ifHeld 13 = .ok (.iaload, 1) := by decide +kernel
theorem dX8_ifHeld_14 : decode cX8_ifHeld 14 = .ok (.istore_n 2, 1) := by decide +kernel
theorem dX8_ifHeld_15 : decode cX8_ifHeld 15 = .ok (.iload_n 2, 1) := by decide +kernel
theorem dX8_ifHeld_16 : decode cX8_ifHeld 16 = .ok (.iconst (-1), 1) := by decide +kernel
theorem dX8_ifHeld_17 : decode cX8_ifHeld 17 = .ok (.if_icmp .ne 14, 3) := by decide +kernel
theorem dX8_ifHeld_20 : decode cX8_ifHeld 20 = .ok (.new 207, 3) := by decide +kernel
theorem dX8_ifHeld_23 : decode cX8_ifHeld 23 = .ok (.dup, 1) := by decide +kernel
theorem dX8_ifHeld_24 : decode cX8_ifHeld 24 = .ok (.ldc_w 351, 3) := by decide +kernel
theorem dX8_ifHeld_27 : decode cX8_ifHeld 27 = .ok (.invokespecial 211, 3) := by decide +kernel
theorem dX8_ifHeld_30 : decode cX8_ifHeld 30 = .ok (.athrow, 1) := by decide +kernel
theorem dX8_ifHeld_31 : decode cX8_ifHeld 31 = .ok (.aload_n 0, 1) := by decide +kernel
theorem dX8_ifHeld_32 : decode cX8_ifHeld 32 = .ok (.getfield 56, 3) := by decide +kernel
theorem dX8_ifHeld_35 : decode cX8_ifHeld 35 = .ok (.aload_n 0, 1) := by decide +kernel
theorem dX8_ifHeld_36 : decode cX8_ifHeld 36 = .ok (.getfield 32, 3) := by decide +kernel
theorem dX8_ifHeld_39 : decode cX8_ifHeld 39 = .ok (.invokevirtual 89, 3) := by decide +kernel
theorem dX8_ifHeld_42 : decode cX8_ifHeld 42 = .ok (.aload_n 0, 1) := by decide +kernel
theorem dX8_ifHeld_43 : decode cX8_ifHeld 43 = .ok (.getfield 56, 3) := by decide +kernel
theorem dX8_ifHeld_46 : decode cX8_ifHeld 46 = .ok (.iload_n 2, 1) := by decide +kernel
theorem dX8_ifHeld_47 : decode cX8_ifHeld 47 = .ok (.invokevirtual 353, 3) := by decide +kernel
theorem dX8_ifHeld_50 : decode cX8_ifHeld 50 = .ok (.aload_n 0, 1) := by decide +kernel
theorem dX8_ifHeld_51 : decode cX8_ifHeld 51 = .ok (.getfield 59, 3) := by decide +kernel
theorem dX8_ifHeld_54 : decode cX8_ifHeld 54 = .ok (.aload_n 0, 1) := by decide +kernel
theorem dX8_ifHeld_55 : decode cX8_ifHeld 55 = .ok (.getfield 25, 3) := by decide +kernel
theorem dX8_ifHeld_58 : decode cX8_ifHeld 58 = .ok (.invokevirtual 356, 3) := by decide +kernel
theorem dX8_ifHeld_61 : decode cX8_ifHeld 61 = .ok (.aload_n 0, 1) := by decide +kernel
theorem dX8_ifHeld_62 : decode cX8_ifHeld 62 = .ok (.getfield 59, 3) := by decide +kernel
theorem dX8_ifHeld_65 : decode cX8_ifHeld 65 = .ok (.iload_n 1, 1) := by decide +kernel
theorem dX8_ifHeld_66 : decode cX8_ifHeld 66 = .ok (.iconst 0, 1) := by decide +kernel
theorem dX8_ifHeld_67 : decode cX8_ifHeld 67 = .ok (.bipush 6, 2) := by decide +kernel
theorem dX8_ifHeld_69 : decode cX8_ifHeld 69 = .ok (.invokevirtual 292, 3) := by decide +kernel
theorem dX8_ifHeld_72 : decode cX8_ifHeld 72 = .ok (.ireturn, 1) := by decide +kernel
theorem dX8_envied_0 : decode cX8_envied 0 = .ok (.aload_n 0, 1) := by decide +kernel
theorem dX8_envied_1 : decode cX8_envied 1 = .ok (.iload_n 1, 1) := by decide +kernel
theorem dX8_envied_2 : decode cX8_envied 2 = .ok (.invokevirtual 102, 3) := by decide +kernel
theorem dX8_envied_5 : decode cX8_envied 5 = .ok (.iconst (-1), 1) := by decide +kernel
theorem dX8_envied_6 : decode cX8_envied 6 = .ok (.istore_n 2, 1) := by decide +kernel
theorem dX8_envied_7 : decode cX8_envied 7 = .ok (.iconst (-1), 1) := by decide +kernel
theorem dX8_envied_8 : decode cX8_envied 8 = .ok (.istore_n 3, 1) := by decide +kernel
theorem dX8_envied_9 : decode cX8_envied 9 = .ok (.iconst 0, 1) := by decide +kernel
theorem dX8_envied_10 : decode cX8_envied 10 = .ok (.istore 4, 2) := by decide +kernel
theorem dX8_envied_12 : decode cX8_envied 12 = .ok (.iload 4, 2) := by decide +kernel
theorem dX8_envied_14 : decode cX8_envied 14 = .ok (.aload_n 0, 1) := by decide +kernel
theorem dX8_envied_15 : decode cX8_envied 15 = .ok (.getfield 25, 3) := by decide +kernel
theorem dX8_envied_18 : decode cX8_envied 18 = .ok (.getfield 105, 3) := by decide +kernel
theorem dX8_envied_21 : decode cX8_envied 21 = .ok (.getfield 339, 3) := by decide +kernel
theorem dX8_envied_24 : decode cX8_envied 24 = .ok (.if_icmp .ge 66, 3) := by decide +kernel
theorem dX8_envied_27 : decode cX8_envied 27 = .ok (.iload 4, 2) := by decide +kernel
theorem dX8_envied_29 : decode cX8_envied 29 = .ok (.iload_n 1, 1) := by decide +kernel
theorem dX8_envied_30 : decode cX8_envied 30 = .ok (.if_icmp .eq 54, 3) := by decide +kernel
theorem dX8_envied_33 : decode cX8_envied 33 = .ok (.aload_n 0, 1) := by decide +kernel
theorem dX8_envied_34 : decode cX8_envied 34 = .ok (.getfield 32, 3) := by decide +kernel
theorem dX8_envied_37 : decode cX8_envied 37 = .ok (.iload 4, 2) := by decide +kernel
theorem dX8_envied_39 : decode cX8_envied 39 = .ok (.invokevirtual 156, 3) := by decide +kernel
theorem dX8_envied_42 : decode cX8_envied 42 = .ok (.ifCond .ne 42, 3) := by decide +kernel
theorem dX8_envied_45 : decode cX8_envied 45 = .ok (.aload_n 0, 1) := by decide +kernel
theorem dX8_envied_46 : decode cX8_envied 46 = .ok (.getfield 56, 3) := by decide +kernel
theorem dX8_envied_49 : decode cX8_envied 49 = .ok (.aload_n 0, 1) := by decide +kernel
theorem dX8_envied_50 : decode cX8_envied 50 = .ok (.getfield 32, 3) := by decide +kernel
theorem dX8_envied_53 : decode cX8_envied 53 = .ok (.invokevirtual 89, 3) := by decide +kernel
theorem dX8_envied_56 : decode cX8_envied 56 = .ok (.aload_n 0, 1) := by decide +kernel
theorem dX8_envied_57 : decode cX8_envied 57 = .ok (.getfield 56, 3) := by decide +kernel
theorem dX8_envied_60 : decode cX8_envied 60 = .ok (.iload 4, 2) := by decide +kernel
theorem dX8_envied_62 : decode cX8_envied 62 = .ok (.invokevirtual 227, 3) := by decide +kernel
theorem dX8_envied_65 : decode cX8_envied 65 = .ok (.aload_n 0, 1) := by decide +kernel
theorem dX8_envied_66 : decode cX8_envied 66 = .ok (.iload_n 1, 1) := by decide +kernel
theorem dX8_envied_67 : decode cX8_envied 67 = .ok (.invokevirtual 346, 3) := by decide +kernel
theorem dX8_envied_70 : decode cX8_envied 70 = .ok (.istore 5, 2) := by decide +kernel
theorem dX8_envied_72 : decode cX8_envied 72 = .ok (.iload 5, 2) := by decide +kernel
theorem dX8_envied_74 : decode cX8_envied 74 = .ok (.iload_n 3, 1) := by decide +kernel
theorem dX8_envied_75 : decode cX8_envied 75 = .ok (.if_icmp .le 9, 3) := by decide +kernel
theorem dX8_envied_78 : decode cX8_envied 78 = .ok (.iload 5, 2) := by decide +kernel
theorem dX8_envied_80 : decode cX8_envied 80 = .ok (.istore_n 3, 1) := by decide +kernel
theorem dX8_envied_81 : decode cX8_envied 81 = .ok (.iload 4, 2) := by decide +kernel
theorem dX8_envied_83 : decode cX8_envied 83 = .ok (.istore_n 2, 1) := by decide +kernel
theorem dX8_envied_84 : decode cX8_envied 84 = .ok (.iinc 4 1, 3) := by decide +kernel
theorem dX8_envied_87 : decode cX8_envied 87 = .ok (.goto (-75), 3) := by decide +kernel
theorem dX8_envied_90 : decode cX8_envied 90 = .ok (.iload_n 2, 1) := by decide +kernel
theorem dX8_envied_91 : decode cX8_envied 91 = .ok (.ireturn, 1) := by decide +kernel
theorem dX8_takenAsSupposed_0 : decode cX8_takenAsSupposed 0 = .ok (.aload_n 0, 1) := by decide +kernel
theorem dX8_takenAsSupposed_1 : decode cX8_takenAsSupposed 1 = .ok (.getfield 59, 3) := by decide +kernel
theorem dX8_takenAsSupposed_4 : decode cX8_takenAsSupposed 4 = .ok (.aload_n 0, 1) := by decide +kernel
theorem dX8_takenAsSupposed_5 : decode cX8_takenAsSupposed 5 = .ok (.getfield 25, 3) := by decide +kernel
theorem dX8_takenAsSupposed_8 : decode cX8_takenAsSupposed 8 = .ok (.invokevirtual 356, 3) := by decide +kernel
theorem dX8_takenAsSupposed_11 : decode cX8_takenAsSupposed 11 = .ok (.aload_n 0, 1) := by decide +kernel
theorem dX8_takenAsSupposed_12 : decode cX8_takenAsSupposed 12 = .ok (.getfield 59, 3) := by decide +kernel
theorem dX8_takenAsSupposed_15 : decode cX8_takenAsSupposed 15 = .ok (.iload_n 1, 1) := by decide +kernel
theorem dX8_takenAsSupposed_16 : decode cX8_takenAsSupposed 16 = .ok (.invokevirtual 325, 3) := by decide +kernel
theorem dX8_takenAsSupposed_19 : decode cX8_takenAsSupposed 19 = .ok (.ireturn, 1) := by decide +kernel
theorem dX8_write_0 : decode cX8_write 0 = .ok (.aload_n 0, 1) := by decide +kernel
theorem dX8_write_1 : decode cX8_write 1 = .ok (.iload_n 1, 1) := by decide +kernel
theorem dX8_write_2 : decode cX8_write 2 = .ok (.invokevirtual 102, 3) := by decide +kernel
theorem dX8_write_5 : decode cX8_write 5 = .ok (.aload_n 0, 1) := by decide +kernel
theorem dX8_write_6 : decode cX8_write 6 = .ok (.getfield 65, 3) := by decide +kernel
theorem dX8_write_9 : decode cX8_write 9 = .ok (.iconst 0, 1) := by decide +kernel
theorem dX8_write_10 : decode cX8_write 10 = .ok (.invokevirtual 360, 3) := by decide +kernel
theorem dX8_write_13 : decode cX8_write 13 = .ok (.iconst 0, 1) := by decide +kernel
theorem dX8_write_14 : decode cX8_write 14 = .ok (.istore_n 2, 1) := by decide +kernel
theorem dX8_write_15 : decode cX8_write 15 = .ok (.iload_n 2, 1) := by decide +kernel
theorem dX8_write_16 : decode cX8_write 16 = .ok (.aload_n 0, 1) := by decide +kernel
theorem dX8_write_17 : decode cX8_write 17 = .ok (.getfield 25, 3) := by decide +kernel
theorem dX8_write_20 : decode cX8_write 20 = .ok (.getfield 105, 3) := by decide +kernel
theorem dX8_write_23 : decode cX8_write 23 = .ok (.getfield 363, 3) := by decide +kernel
theorem dX8_write_26 : decode cX8_write 26 = .ok (.iload_n 1, 1) := by decide +kernel
theorem dX8_write_27 : decode cX8_write 27 = .ok (.iaload, 1) := by decide +kernel
theorem dX8_write_28 : decode cX8_write 28 = .ok (.if_icmp .ge 30, 3) := by decide +kernel
theorem dX8_write_31 : decode cX8_write 31 = .ok (.aload_n 0, 1) := by decide +kernel
theorem dX8_write_32 : decode cX8_write 32 = .ok (.getfield 65, 3) := by decide +kernel
theorem dX8_write_35 : decode cX8_write 35 = .ok (.aload_n 0, 1) := by decide +kernel
theorem dX8_write_36 : decode cX8_write 36 = .ok (.getfield 25, 3) := by decide +kernel
theorem dX8_write_39 : decode cX8_write 39 = .ok (.getfield 105, 3) := by decide +kernel
theorem dX8_write_42 : decode cX8_write 42 = .ok (.iload_n 1, 1) := by decide +kernel
theorem dX8_write_43 : decode cX8_write 43 = .ok (.iload_n 2, 1) := by decide +kernel
theorem dX8_write_44 : decode cX8_write 44 = .ok (.invokevirtual 109, 3) := by decide +kernel
theorem dX8_write_47 : decode cX8_write 47 = .ok (.i2c, 1) := by decide +kernel
theorem dX8_write_48 : decode cX8_write 48 = .ok (.invokevirtual 366, 3) := by decide +kernel
theorem dX8_write_51 : decode cX8_write 51 = .ok (.pop, 1) := by decide +kernel
theorem dX8_write_52 : decode cX8_write 52 = .ok (.iinc 2 1, 3) := by decide +kernel
theorem dX8_write_55 : decode cX8_write 55 = .ok (.goto (-40), 3) := by decide +kernel
theorem dX8_write_58 : decode cX8_write 58 = .ok (.aload_n 0, 1) := by decide +kernel
theorem dX8_write_59 : decode cX8_write 59 = .ok (.getfield 65, 3) := by decide +kernel
theorem dX8_write_62 : decode cX8_write 62 = .ok (.bipush 32, 2) := by decide +kernel
theorem dX8_write_64 : decode cX8_write 64 = .ok (.invokevirtual 366, 3) := by decide +kernel
theorem dX8_write_67 : decode cX8_write 67 = .ok (.aload_n 0, 1) := by decide +kernel
theorem dX8_write_68 : decode cX8_write 68 = .ok (.invokevirtual 159, 3) := by decide +kernel
theorem dX8_write_71 : decode cX8_write 71 = .ok (.iload_n 1, 1) := by decide +kernel
theorem dX8_write_72 : decode cX8_write 72 = .ok (.invokevirtual 325, 3) := by decide +kernel
theorem dX8_write_75 : decode cX8_write 75 = .ok (.invokevirtual 370, 3) := by decide +kernel
theorem dX8_write_78 : decode cX8_write 78 = .ok (.pop, 1) := by decide +kernel
theorem dX8_write_79 : decode cX8_write 79 = .ok (.aload_n 0, 1) := by decide +kernel
theorem dX8_write_80 : decode cX8_write 80 = .ok (.getfield 32, 3) := by decide +kernel
theorem dX8_write_83 : decode cX8_write 83 = .ok (.iload_n 1, 1) := by decide +kernel
theorem dX8_write_84 : decode cX8_write 84 = .ok (.invokevirtual 156, 3) := by decide +kernel
theorem dX8_write_87 : decode cX8_write 87 = .ok (.ifCond .eq 14, 3) := by decide +kernel
theorem dX8_write_90 : decode cX8_write 90 = .ok (.aload_n 0, 1) := by decide +kernel
theorem dX8_write_91 : decode cX8_write 91 = .ok (.getfield 65, 3) := by decide +kernel
theorem dX8_write_94 : decode cX8_write 94 = .ok (.ldc_w 373, 3) := by decide +kernel
theorem dX8_write_97 : decode cX8_write 97 = .ok (.invokevirtual 375, 3) := by decide +kernel
theorem dX8_write_100 : decode cX8_write 100 = .ok (.pop, 1) := by decide +kernel
theorem dX8_write_101 : decode cX8_write 101 = .ok (.iconst 0, 1) := by decide +kernel
theorem dX8_write_102 : decode cX8_write 102 = .ok (.istore_n 2, 1) := by decide +kernel
theorem dX8_write_103 : decode cX8_write 103 = .ok (.iload_n 2, 1) := by decide +kernel
theorem dX8_write_104 : decode cX8_write 104 = .ok (.aload_n 0, 1) := by decide +kernel
theorem dX8_write_105 : decode cX8_write 105 = .ok (.getfield 25, 3) := by decide +kernel
theorem dX8_write_108 : decode cX8_write 108 = .ok (.getfield 96, 3) := by decide +kernel
theorem dX8_write_111 : decode cX8_write 111 = .ok (.if_icmp .ge 48, 3) := by decide +kernel
theorem dX8_write_114 : decode cX8_write 114 = .ok (.aload_n 0, 1) := by decide +kernel
theorem dX8_write_115 : decode cX8_write 115 = .ok (.invokevirtual 159, 3) := by decide +kernel
theorem dX8_write_118 : decode cX8_write 118 = .ok (.getfield 322, 3) := by decide +kernel
theorem dX8_write_121 : decode cX8_write 121 = .ok (.iload_n 2, 1) := by decide +kernel
theorem dX8_write_122 : decode cX8_write 122 = .ok (.aaload, 1) := by decide +kernel
theorem dX8_write_123 : decode cX8_write 123 = .ok (.iload_n 1, 1) := by decide +kernel
theorem dX8_write_124 : decode cX8_write 124 = .ok (.iaload, 1) := by decide +kernel
theorem dX8_write_125 : decode cX8_write 125 = .ok (.istore_n 3, 1) := by decide +kernel
theorem dX8_write_126 : decode cX8_write 126 = .ok (.iload_n 3, 1) := by decide +kernel
theorem dX8_write_127 : decode cX8_write 127 = .ok (.ifCond .le 26, 3) := by decide +kernel
theorem dX8_write_130 : decode cX8_write 130 = .ok (.aload_n 0, 1) := by decide +kernel
theorem dX8_write_131 : decode cX8_write 131 = .ok (.getfield 65, 3) := by decide +kernel
theorem dX8_write_134 : decode cX8_write 134 = .ok (.bipush 32, 2) := by decide +kernel
theorem dX8_write_136 : decode cX8_write 136 = .ok (.invokevirtual 366, 3) := by decide +kernel
theorem dX8_write_139 : decode cX8_write 139 = .ok (.iload_n 2, 1) := by decide +kernel
theorem dX8_write_140 : decode cX8_write 140 = .ok (.invokevirtual 370, 3) := by decide +kernel
theorem dX8_write_143 : decode cX8_write 143 = .ok (.bipush 58, 2) := by decide +kernel
theorem dX8_write_145 : decode cX8_write 145 = .ok (.invokevirtual 366, 3) := by decide +kernel
theorem dX8_write_148 : decode cX8_write 148 = .ok (.iload_n 3, 1) := by decide +kernel
theorem dX8_write_149 : decode cX8_write 149 = .ok (.invokevirtual 370, 3) := by decide +kernel
theorem dX8_write_152 : decode cX8_write 152 = .ok (.pop, 1) := by decide +kernel
theorem dX8_write_153 : decode cX8_write 153 = .ok (.iinc 2 1, 3) := by decide +kernel
theorem dX8_write_156 : decode cX8_write 156 = .ok (.goto (-53), 3) := by decide +kernel
theorem dX8_write_159 : decode cX8_write 159 = .ok (.aload_n 0, 1) := by decide +kernel
theorem dX8_write_160 : decode cX8_write 160 = .ok (.invokevirtual 159, 3) := by decide +kernel
theorem dX8_write_163 : decode cX8_write 163 = .ok (.getfield 328, 3) := by decide +kernel
theorem dX8_write_166 : decode cX8_write 166 = .ok (.iload_n 1, 1) := by decide +kernel
theorem dX8_write_167 : decode cX8_write 167 = .ok (.iaload, 1) := by decide +kernel
theorem dX8_write_168 : decode cX8_write 168 = .ok (.ifCond .le 26, 3) := by decide +kernel
theorem dX8_write_171 : decode cX8_write 171 = .ok (.aload_n 0, 1) := by decide +kernel
theorem dX8_write_172 : decode cX8_write 172 = .ok (.getfield 65, 3) := by decide +kernel
theorem dX8_write_175 : decode cX8_write 175 = .ok (.ldc_w 378, 3) := by decide +kernel
theorem dX8_write_178 : decode cX8_write 178 = .ok (.invokevirtual 375, 3) := by decide +kernel
theorem dX8_write_181 : decode cX8_write 181 = .ok (.aload_n 0, 1) := by decide +kernel
theorem dX8_write_182 : decode cX8_write 182 = .ok (.invokevirtual 159, 3) := by decide +kernel
theorem dX8_write_185 : decode cX8_write 185 = .ok (.getfield 328, 3) := by decide +kernel
theorem dX8_write_188 : decode cX8_write 188 = .ok (.iload_n 1, 1) := by decide +kernel
theorem dX8_write_189 : decode cX8_write 189 = .ok (.iaload, 1) := by decide +kernel
theorem dX8_write_190 : decode cX8_write 190 = .ok (.invokevirtual 370, 3) := by decide +kernel
theorem dX8_write_193 : decode cX8_write 193 = .ok (.pop, 1) := by decide +kernel
theorem dX8_write_194 : decode cX8_write 194 = .ok (.aload_n 0, 1) := by decide +kernel
theorem dX8_write_195 : decode cX8_write 195 = .ok (.getfield 65, 3) := by decide +kernel
theorem dX8_write_198 : decode cX8_write 198 = .ok (.invokevirtual 380, 3) := by decide +kernel
theorem dX8_write_201 : decode cX8_write 201 = .ok (.ireturn, 1) := by decide +kernel
theorem dX8_octet_0 : decode cX8_octet 0 = .ok (.iload_n 1, 1) := by decide +kernel
theorem dX8_octet_1 : decode cX8_octet 1 = .ok (.ifCond .lt 14, 3) := by decide +kernel
theorem dX8_octet_4 : decode cX8_octet 4 = .ok (.iload_n 1, 1) := by decide +kernel
theorem dX8_octet_5 : decode cX8_octet 5 = .ok (.aload_n 0, 1) := by decide +kernel
theorem dX8_octet_6 : decode cX8_octet 6 = .ok (.getfield 65, 3) := by decide +kernel
theorem dX8_octet_9 : decode cX8_octet 9 = .ok (.invokevirtual 380, 3) := by decide +kernel
theorem dX8_octet_12 : decode cX8_octet 12 = .ok (.if_icmp .lt 7, 3) := by decide +kernel
theorem dX8_octet_15 : decode cX8_octet 15 = .ok (.iconst (-1), 1) := by decide +kernel
theorem dX8_octet_16 : decode cX8_octet 16 = .ok (.goto 11, 3) := by decide +kernel
theorem dX8_octet_19 : decode cX8_octet 19 = .ok (.aload_n 0, 1) := by decide +kernel
theorem dX8_octet_20 : decode cX8_octet 20 = .ok (.getfield 65, 3) := by decide +kernel
theorem dX8_octet_23 : decode cX8_octet 23 = .ok (.iload_n 1, 1) := by decide +kernel
theorem dX8_octet_24 : decode cX8_octet 24 = .ok (.invokevirtual 383, 3) := by decide +kernel
theorem dX8_octet_27 : decode cX8_octet 27 = .ok (.ireturn, 1) := by decide +kernel
theorem dX8_count_0 : decode cX8_count 0 = .ok (.iload_n 1, 1) := by decide +kernel
theorem dX8_count_1 : decode cX8_count 1 = .ok (.tableswitch 197 0 14 #[75, 86, 97, 105, 114, 123, 132, 141, 150, 155, 160, 168, 176, 184, 192], 75) := by decide +kernel
theorem dX8_count_76 : decode cX8_count 76 = .ok (.aload_n 0, 1) := by decide +kernel
theorem dX8_count_77 : decode cX8_count 77 = .ok (.getfield 25, 3) := by decide +kernel
theorem dX8_count_80 : decode cX8_count 80 = .ok (.getfield 118, 3) := by decide +kernel
theorem dX8_count_83 : decode cX8_count 83 = .ok (.getfield 339, 3) := by decide +kernel
theorem dX8_count_86 : decode cX8_count 86 = .ok (.ireturn, 1) := by decide +kernel
theorem dX8_count_87 : decode cX8_count 87 = .ok (.aload_n 0, 1) := by decide +kernel
theorem dX8_count_88 : decode cX8_count 88 = .ok (.getfield 25, 3) := by decide +kernel
theorem dX8_count_91 : decode cX8_count 91 = .ok (.getfield 105, 3) := by decide +kernel
theorem dX8_count_94 : decode cX8_count 94 = .ok (.getfield 339, 3) := by decide +kernel
theorem dX8_count_97 : decode cX8_count 97 = .ok (.ireturn, 1) := by decide +kernel
theorem dX8_count_98 : decode cX8_count 98 = .ok (.aload_n 0, 1) := by decide +kernel
theorem dX8_count_99 : decode cX8_count 99 = .ok (.getfield 25, 3) := by decide +kernel
theorem dX8_count_102 : decode cX8_count 102 = .ok (.getfield 96, 3) := by decide +kernel
theorem dX8_count_105 : decode cX8_count 105 = .ok (.ireturn, 1) := by decide +kernel
theorem dX8_count_106 : decode cX8_count 106 = .ok (.aload_n 0, 1) := by decide +kernel
theorem dX8_count_107 : decode cX8_count 107 = .ok (.getfield 32, 3) := by decide +kernel
theorem dX8_count_110 : decode cX8_count 110 = .ok (.iconst 0, 1) := by decide +kernel
theorem dX8_count_111 : decode cX8_count 111 = .ok (.invokevirtual 204, 3) := by decide +kernel
theorem dX8_count_114 : decode cX8_count 114 = .ok (.ireturn, 1) := by decide +kernel
theorem dX8_count_115 : decode cX8_count 115 = .ok (.aload_n 0, 1) := by decide +kernel
theorem dX8_count_116 : decode cX8_count 116 = .ok (.getfield 32, 3) := by decide +kernel
theorem dX8_count_119 : decode cX8_count 119 = .ok (.iconst 1, 1) := by decide +kernel
theorem dX8_count_120 : decode cX8_count 120 = .ok (.invokevirtual 204, 3) := by decide +kernel
theorem dX8_count_123 : decode cX8_count 123 = .ok (.ireturn, 1) := by decide +kernel
theorem dX8_count_124 : decode cX8_count 124 = .ok (.aload_n 0, 1) := by decide +kernel
theorem dX8_count_125 : decode cX8_count 125 = .ok (.getfield 32, 3) := by decide +kernel
theorem dX8_count_128 : decode cX8_count 128 = .ok (.iconst 2, 1) := by decide +kernel
theorem dX8_count_129 : decode cX8_count 129 = .ok (.invokevirtual 204, 3) := by decide +kernel
theorem dX8_count_132 : decode cX8_count 132 = .ok (.ireturn, 1) := by decide +kernel
theorem dX8_count_133 : decode cX8_count 133 = .ok (.aload_n 0, 1) := by decide +kernel
theorem dX8_count_134 : decode cX8_count 134 = .ok (.getfield 32, 3) := by decide +kernel
theorem dX8_count_137 : decode cX8_count 137 = .ok (.iconst 3, 1) := by decide +kernel
theorem dX8_count_138 : decode cX8_count 138 = .ok (.invokevirtual 204, 3) := by decide +kernel
theorem dX8_count_141 : decode cX8_count 141 = .ok (.ireturn, 1) := by decide +kernel
theorem dX8_count_142 : decode cX8_count 142 = .ok (.aload_n 0, 1) := by decide +kernel
theorem dX8_count_143 : decode cX8_count 143 = .ok (.getfield 32, 3) := by decide +kernel
theorem dX8_count_146 : decode cX8_count 146 = .ok (.iconst 4, 1) := by decide +kernel
theorem dX8_count_147 : decode cX8_count 147 = .ok (.invokevirtual 204, 3) := by decide +kernel
theorem dX8_count_150 : decode cX8_count 150 = .ok (.ireturn, 1) := by decide +kernel
theorem dX8_count_151 : decode cX8_count 151 = .ok (.aload_n 0, 1) := by decide +kernel
theorem dX8_count_152 : decode cX8_count 152 = .ok (.invokevirtual 230, 3) := by decide +kernel
theorem dX8_count_155 : decode cX8_count 155 = .ok (.ireturn, 1) := by decide +kernel
theorem dX8_count_156 : decode cX8_count 156 = .ok (.aload_n 0, 1) := by decide +kernel
theorem dX8_count_157 : decode cX8_count 157 = .ok (.invokevirtual 387, 3) := by decide +kernel
theorem dX8_count_160 : decode cX8_count 160 = .ok (.ireturn, 1) := by decide +kernel
theorem dX8_count_161 : decode cX8_count 161 = .ok (.aload_n 0, 1) := by decide +kernel
theorem dX8_count_162 : decode cX8_count 162 = .ok (.invokevirtual 159, 3) := by decide +kernel
theorem dX8_count_165 : decode cX8_count 165 = .ok (.invokevirtual 390, 3) := by decide +kernel
theorem dX8_count_168 : decode cX8_count 168 = .ok (.ireturn, 1) := by decide +kernel
theorem dX8_count_169 : decode cX8_count 169 = .ok (.aload_n 0, 1) := by decide +kernel
theorem dX8_count_170 : decode cX8_count 170 = .ok (.invokevirtual 159, 3) := by decide +kernel
theorem dX8_count_173 : decode cX8_count 173 = .ok (.getfield 393, 3) := by decide +kernel
theorem dX8_count_176 : decode cX8_count 176 = .ok (.ireturn, 1) := by decide +kernel
theorem dX8_count_177 : decode cX8_count 177 = .ok (.aload_n 0, 1) := by decide +kernel
theorem dX8_count_178 : decode cX8_count 178 = .ok (.getfield 39, 3) := by decide +kernel
theorem dX8_count_181 : decode cX8_count 181 = .ok (.getfield 251, 3) := by decide +kernel
theorem dX8_count_184 : decode cX8_count 184 = .ok (.ireturn, 1) := by decide +kernel
theorem dX8_count_185 : decode cX8_count 185 = .ok (.aload_n 0, 1) := by decide +kernel
theorem dX8_count_186 : decode cX8_count 186 = .ok (.getfield 65, 3) := by decide +kernel
theorem dX8_count_189 : decode cX8_count 189 = .ok (.invokevirtual 380, 3) := by decide +kernel
theorem dX8_count_192 : decode cX8_count 192 = .ok (.ireturn, 1) := by decide +kernel
theorem dX8_count_193 : decode cX8_count 193 = .ok (.aload_n 0, 1) := by decide +kernel
theorem dX8_count_194 : decode cX8_count 194 = .ok (.invokevirtual 396, 3) := by decide +kernel
theorem dX8_count_197 : decode cX8_count 197 = .ok (.ireturn, 1) := by decide +kernel
theorem dX8_count_198 : decode cX8_count 198 = .ok (.iconst (-1), 1) := by decide +kernel
theorem dX8_count_199 : decode cX8_count 199 = .ok (.ireturn, 1) := by decide +kernel
theorem dX8_countLiving_0 : decode cX8_countLiving 0 = .ok (.iconst 0, 1) := by decide +kernel
theorem dX8_countLiving_1 : decode cX8_countLiving 1 = .ok (.istore_n 1, 1) := by decide +kernel
theorem dX8_countLiving_2 : decode cX8_countLiving 2 = .ok (.iconst 0, 1) := by decide +kernel
theorem dX8_countLiving_3 : decode cX8_countLiving 3 = .ok (.istore_n 2, 1) := by decide +kernel
theorem dX8_countLiving_4 : decode cX8_countLiving 4 = .ok (.iload_n 2, 1) := by decide +kernel
theorem dX8_countLiving_5 : decode cX8_countLiving 5 = .ok (.aload_n 0, 1) := by decide +kernel
theorem dX8_countLiving_6 : decode cX8_countLiving 6 = .ok (.getfield 25, 3) := by decide +kernel
theorem dX8_countLiving_9 : decode cX8_countLiving 9 = .ok (.getfield 105, 3) := by decide +kernel
theorem dX8_countLiving_12 : decode cX8_countLiving 12 = .ok (.getfield 339, 3) := by decide +kernel
theorem dX8_countLiving_15 : decode cX8_countLiving 15 = .ok (.if_icmp .ge 28, 3) := by decide +kernel
theorem dX8_countLiving_18 : decode cX8_countLiving 18 = .ok (.iload_n 1, 1) := by decide +kernel
theorem dX8_countLiving_19 : decode cX8_countLiving 19 = .ok (.aload_n 0, 1) := by decide +kernel
theorem dX8_countLiving_20 : decode cX8_countLiving 20 = .ok (.getfield 32, 3) := by decide +kernel
theorem dX8_countLiving_23 : decode cX8_countLiving 23 = .ok (.iload_n 2, 1) := by decide +kernel
theorem dX8_countLiving_24 : decode cX8_countLiving 24 = .ok (.invokevirtual 156, 3) := by decide +kernel
theorem dX8_countLiving_27 : decode cX8_countLiving 27 = .ok (.ifCond .eq 7, 3) := by decide +kernel
theorem dX8_countLiving_30 : decode cX8_countLiving 30 = .ok (.iconst 0, 1) := by decide +kernel
theorem dX8_countLiving_31 : decode cX8_countLiving 31 = .ok (.goto 4, 3) := by decide +kernel
theorem dX8_countLiving_34 : decode cX8_countLiving 34 = .ok (.iconst 1, 1) := by decide +kernel
theorem dX8_countLiving_35 : decode cX8_countLiving 35 = .ok (.iadd, 1) := by decide +kernel
theorem dX8_countLiving_36 : decode cX8_countLiving 36 = .ok (.istore_n 1, 1) := by decide +kernel
theorem dX8_countLiving_37 : decode cX8_countLiving 37 = .ok (.iinc 2 1, 3) := by decide +kernel
theorem dX8_countLiving_40 : decode cX8_countLiving 40 = .ok (.goto (-36), 3) := by decide +kernel
theorem dX8_countLiving_43 : decode cX8_countLiving 43 = .ok (.iload_n 1, 1) := by decide +kernel
theorem dX8_countLiving_44 : decode cX8_countLiving 44 = .ok (.ireturn, 1) := by decide +kernel
theorem dX8_countHeld_0 : decode cX8_countHeld 0 = .ok (.iconst 0, 1) := by decide +kernel
theorem dX8_countHeld_1 : decode cX8_countHeld 1 = .ok (.istore_n 1, 1) := by decide +kernel
theorem dX8_countHeld_2 : decode cX8_countHeld 2 = .ok (.iconst 0, 1) := by decide +kernel
theorem dX8_countHeld_3 : decode cX8_countHeld 3 = .ok (.istore_n 2, 1) := by decide +kernel
theorem dX8_countHeld_4 : decode cX8_countHeld 4 = .ok (.iload_n 2, 1) := by decide +kernel
theorem dX8_countHeld_5 : decode cX8_countHeld 5 = .ok (.aload_n 0, 1) := by decide +kernel
theorem dX8_countHeld_6 : decode cX8_countHeld 6 = .ok (.getfield 25, 3) := by decide +kernel
theorem dX8_countHeld_9 : decode cX8_countHeld 9 = .ok (.getfield 118, 3) := by decide +kernel
theorem dX8_countHeld_12 : decode cX8_countHeld 12 = .ok (.getfield 339, 3) := by decide +kernel
theorem dX8_countHeld_15 : decode cX8_countHeld 15 = .ok (.if_icmp .ge 28, 3) := by decide +kernel
theorem dX8_countHeld_18 : decode cX8_countHeld 18 = .ok (.iload_n 1, 1) := by decide +kernel
theorem dX8_countHeld_19 : decode cX8_countHeld 19 = .ok (.aload_n 0, 1) := by decide +kernel
theorem dX8_countHeld_20 : decode cX8_countHeld 20 = .ok (.getfield 32, 3) := by decide +kernel
theorem dX8_countHeld_23 : decode cX8_countHeld 23 = .ok (.iload_n 2, 1) := by decide +kernel
theorem dX8_countHeld_24 : decode cX8_countHeld 24 = .ok (.invokevirtual 131, 3) := by decide +kernel
theorem dX8_countHeld_27 : decode cX8_countHeld 27 = .ok (.ifCond .eq 7, 3) := by decide +kernel
theorem dX8_countHeld_30 : decode cX8_countHeld 30 = .ok (.iconst 1, 1) := by decide +kernel
theorem dX8_countHeld_31 : decode cX8_countHeld 31 = .ok (.goto 4, 3) := by decide +kernel
theorem dX8_countHeld_34 : decode cX8_countHeld 34 = .ok (.iconst 0, 1) := by decide +kernel
theorem dX8_countHeld_35 : decode cX8_countHeld 35 = .ok (.iadd, 1) := by decide +kernel
theorem dX8_countHeld_36 : decode cX8_countHeld 36 = .ok (.istore_n 1, 1) := by decide +kernel
theorem dX8_countHeld_37 : decode cX8_countHeld 37 = .ok (.iinc 2 1, 3) := by decide +kernel
theorem dX8_countHeld_40 : decode cX8_countHeld 40 = .ok (.goto (-36), 3) := by decide +kernel
theorem dX8_countHeld_43 : decode cX8_countHeld 43 = .ok (.iload_n 1, 1) := by decide +kernel
theorem dX8_countHeld_44 : decode cX8_countHeld 44 = .ok (.ireturn, 1) := by decide +kernel
theorem dX8_countRenounced_0 : decode cX8_countRenounced 0 = .ok (.iconst 0, 1) := by decide +kernel
theorem dX8_countRenounced_1 : decode cX8_countRenounced 1 = .ok (.istore_n 1, 1) := by decide +kernel
theorem dX8_countRenounced_2 : decode cX8_countRenounced 2 = .ok (.iconst 0, 1) := by decide +kernel
theorem dX8_countRenounced_3 : decode cX8_countRenounced 3 = .ok (.istore_n 2, 1) := by decide +kernel
theorem dX8_countRenounced_4 : decode cX8_countRenounced 4 = .ok (.iload_n 2, 1) := by decide +kernel
theorem dX8_countRenounced_5 : decode cX8_countRenounced 5 = .ok (.aload_n 0, 1) := by decide +kernel
theorem dX8_countRenounced_6 : decode cX8_countRenounced 6 = .ok (.getfield 25, 3) := by decide +kernel
theorem dX8_countRenounced_9 : decode cX8_countRenounced 9 = .ok (.getfield 96, 3) := by decide +kernel
theorem dX8_countRenounced_12 : decode cX8_countRenounced 12 = .ok (.if_icmp .ge 28, 3) := by decide +kernel
theorem dX8_countRenounced_15 : decode cX8_countRenounced 15 = .ok (.iload_n 1, 1) := by decide +kernel
theorem dX8_countRenounced_16 : decode cX8_countRenounced 16 = .ok (.aload_n 0, 1) := by decide +kernel
theorem dX8_countRenounced_17 : decode cX8_countRenounced 17 = .ok (.getfield 32, 3) := by decide +kernel
theorem dX8_countRenounced_20 : decode cX8_countRenounced 20 = .ok (.iload_n 2, 1) := by decide +kernel
theorem dX8_countRenounced_21 : decode cX8_countRenounced 21 = .ok (.invokevirtual 234, 3) := by decide +kernel
theorem dX8_countRenounced_24 : decode cX8_countRenounced 24 = .ok (.ifCond .eq 7, 3) := by decide +kernel
theorem dX8_countRenounced_27 : decode cX8_countRenounced 27 = .ok (.iconst 1, 1) := by decide +kernel
theorem dX8_countRenounced_28 : decode cX8_countRenounced 28 = .ok (.goto 4, 3) := by decide +kernel
theorem dX8_countRenounced_31 : decode cX8_countRenounced 31 = .ok (.iconst 0, 1) := by decide +kernel
theorem dX8_countRenounced_32 : decode cX8_countRenounced 32 = .ok (.iadd, 1) := by decide +kernel
theorem dX8_countRenounced_33 : decode cX8_countRenounced 33 = .ok (.istore_n 1, 1) := by decide +kernel
theorem dX8_countRenounced_34 : decode cX8_countRenounced 34 = .ok (.iinc 2 1, 3) := by decide +kernel
theorem dX8_countRenounced_37 : decode cX8_countRenounced 37 = .ok (.goto (-33), 3) := by decide +kernel
theorem dX8_countRenounced_40 : decode cX8_countRenounced 40 = .ok (.iload_n 1, 1) := by decide +kernel
theorem dX8_countRenounced_41 : decode cX8_countRenounced 41 = .ok (.ireturn, 1) := by decide +kernel
theorem dX8_reckoning_0 : decode cX8_reckoning 0 = .ok (.aload_n 0, 1) := by decide +kernel
theorem dX8_reckoning_1 : decode cX8_reckoning 1 = .ok (.getfield 52, 3) := by decide +kernel
theorem dX8_reckoning_4 : decode cX8_reckoning 4 = .ok (.ifCond .eq 19, 3) := by decide +kernel
theorem dX8_reckoning_7 : decode cX8_reckoning 7 = .ok (.aload_n 0, 1) := by decide +kernel
theorem dX8_reckoning_8 : decode cX8_reckoning 8 = .ok (.getfield 48, 3) := by decide +kernel
theorem dX8_reckoning_11 : decode cX8_reckoning 11 = .ok (.aload_n 0, 1) := by decide +kernel
theorem dX8_reckoning_12 : decode cX8_reckoning 12 = .ok (.getfield 25, 3) := by decide +kernel
theorem dX8_reckoning_15 : decode cX8_reckoning 15 = .ok (.invokevirtual 356, 3) := by decide +kernel
theorem dX8_reckoning_18 : decode cX8_reckoning 18 = .ok (.aload_n 0, 1) := by decide +kernel
theorem dX8_reckoning_19 : decode cX8_reckoning 19 = .ok (.iconst 0, 1) := by decide +kernel
theorem dX8_reckoning_20 : decode cX8_reckoning 20 = .ok (.putfield 52, 3) := by decide +kernel
theorem dX8_reckoning_23 : decode cX8_reckoning 23 = .ok (.aload_n 0, 1) := by decide +kernel
theorem dX8_reckoning_24 : decode cX8_reckoning 24 = .ok (.getfield 48, 3) := by decide +kernel
theorem dX8_reckoning_27 : decode cX8_reckoning 27 = .ok (.areturn, 1) := by decide +kernel
theorem dX8_checkThing_0 : decode cX8_checkThing 0 = .ok (.iload_n 1, 1) := by decide +kernel
theorem dX8_checkThing_1 : decode cX8_checkThing 1 = .ok (.ifCond .lt 17, 3) := by decide +kernel
theorem dX8_checkThing_4 : decode cX8_checkThing 4 = .ok (.iload_n 1, 1) := by decide +kernel
theorem dX8_checkThing_5 : decode cX8_checkThing 5 = .ok (.aload_n 0, 1) := by decide +kernel
theorem dX8_checkThing_6 : decode cX8_checkThing 6 = .ok (.getfield 25, 3) := by decide +kernel
theorem dX8_checkThing_9 : decode cX8_checkThing 9 = .ok (.getfield 118, 3) := by decide +kernel
theorem dX8_checkThing_12 : decode cX8_checkThing 12 = .ok (.getfield 339, 3) := by decide +kernel
theorem dX8_checkThing_15 : decode cX8_checkThing 15 = .ok (.if_icmp .lt 14, 3) := by decide +kernel
theorem dX8_checkThing_18 : decode cX8_checkThing 18 = .ok (.new 399, 3) := by decide +kernel
theorem dX8_checkThing_21 : decode cX8_checkThing 21 = .ok (.dup, 1) := by decide +kernel
theorem dX8_checkThing_22 : decode cX8_checkThing 22 = .ok (.ldc_w 401, 3) := by decide +kernel
theorem dX8_checkThing_25 : decode cX8_checkThing 25 = .ok (.invokespecial 403, 3) := by decide +kernel
theorem dX8_checkThing_28 : decode cX8_checkThing 28 = .ok (.athrow, 1) := by decide +kernel
theorem dX8_checkThing_29 : decode cX8_checkThing 29 = .ok (.return_, 1) := by decide +kernel
theorem dX8_checkPerson_0 : decode cX8_checkPerson 0 = .ok (.iload_n 1, 1) := by decide +kernel
theorem dX8_checkPerson_1 : decode cX8_checkPerson 1 = .ok (.ifCond .lt 17, 3) := by decide +kernel
theorem dX8_checkPerson_4 : decode cX8_checkPerson 4 = .ok (.iload_n 1, 1) := by decide +kernel
theorem dX8_checkPerson_5 : decode cX8_checkPerson 5 = .ok (.aload_n 0, 1) := by decide +kernel
theorem dX8_checkPerson_6 : decode cX8_checkPerson 6 = .ok (.getfield 25, 3) := by decide +kernel
theorem dX8_checkPerson_9 : decode cX8_checkPerson 9 = .ok (.getfield 105, 3) := by decide +kernel
theorem dX8_checkPerson_12 : decode cX8_checkPerson 12 = .ok (.getfield 339, 3) := by decide +kernel
theorem dX8_checkPerson_15 : decode cX8_checkPerson 15 = .ok (.if_icmp .lt 14, 3) := by decide +kernel
theorem dX8_checkPerson_18 : decode cX8_checkPerson 18 = .ok (.new 399, 3) := by decide +kernel
theorem dX8_checkPerson_21 : decode cX8_checkPerson 21 = .ok (.dup, 1) := by decide +kernel
theorem dX8_checkPerson_22 : decode cX8_checkPerson 22 = .ok (.ldc_w 404, 3) := by decide +kernel
theorem dX8_checkPerson_25 : decode cX8_checkPerson 25 = .ok (.invokespecial 403, 3) := by decide +kernel
theorem dX8_checkPerson_28 : decode cX8_checkPerson 28 = .ok (.athrow, 1) := by decide +kernel
theorem dX8_checkPerson_29 : decode cX8_checkPerson 29 = .ok (.return_, 1) := by decide +kernel
theorem dX8_checkGift_0 : decode cX8_checkGift 0 = .ok (.iload_n 1, 1) := by decide +kernel
theorem dX8_checkGift_1 : decode cX8_checkGift 1 = .ok (.ifCond .lt 14, 3) := by decide +kernel
theorem dX8_checkGift_4 : decode cX8_checkGift 4 = .ok (.iload_n 1, 1) := by decide +kernel
theorem dX8_checkGift_5 : decode cX8_checkGift 5 = .ok (.aload_n 0, 1) := by decide +kernel
theorem dX8_checkGift_6 : decode cX8_checkGift 6 = .ok (.getfield 25, 3) := by decide +kernel
theorem dX8_checkGift_9 : decode cX8_checkGift 9 = .ok (.getfield 96, 3) := by decide +kernel
theorem dX8_checkGift_12 : decode cX8_checkGift 12 = .ok (.if_icmp .lt 14, 3) := by decide +kernel
theorem dX8_checkGift_15 : decode cX8_checkGift 15 = .ok (.new 399, 3) := by decide +kernel
theorem dX8_checkGift_18 : decode cX8_checkGift 18 = .ok (.dup, 1) := by decide +kernel
theorem dX8_checkGift_19 : decode cX8_checkGift 19 = .ok (.ldc_w 406, 3) := by decide +kernel
theorem dX8_checkGift_22 : decode cX8_checkGift 22 = .ok (.invokespecial 403, 3) := by decide +kernel
theorem dX8_checkGift_25 : decode cX8_checkGift 25 = .ok (.athrow, 1) := by decide +kernel
theorem dX8_checkGift_26 : decode cX8_checkGift 26 = .ok (.return_, 1) := by decide +kernel
theorem dX8_checkClass_0 : decode cX8_checkClass 0 = .ok (.iload_n 1, 1) := by decide +kernel
theorem dX8_checkClass_1 : decode cX8_checkClass 1 = .ok (.ifCond .lt 8, 3) := by decide +kernel
theorem dX8_checkClass_4 : decode cX8_checkClass 4 = .ok (.iload_n 1, 1) := by decide +kernel
theorem dX8_checkClass_5 : decode cX8_checkClass 5 = .ok (.iload_n 2, 1) := by decide +kernel
theorem dX8_checkClass_6 : decode cX8_checkClass 6 = .ok (.if_icmp .le 14, 3) := by decide +kernel
theorem dX8_checkClass_9 : decode cX8_checkClass 9 = .ok (.new 207, 3) := by decide +kernel
theorem dX8_checkClass_12 : decode cX8_checkClass 12 = .ok (.dup, 1) := by decide +kernel
theorem dX8_checkClass_13 : decode cX8_checkClass 13 = .ok (.ldc_w 408, 3) := by decide +kernel
theorem dX8_checkClass_16 : decode cX8_checkClass 16 = .ok (.invokespecial 211, 3) := by decide +kernel
theorem dX8_checkClass_19 : decode cX8_checkClass 19 = .ok (.athrow, 1) := by decide +kernel
theorem dX8_checkClass_20 : decode cX8_checkClass 20 = .ok (.return_, 1) := by decide +kernel
theorem dX8_checkHeld_0 : decode cX8_checkHeld 0 = .ok (.aload_n 0, 1) := by decide +kernel
theorem dX8_checkHeld_1 : decode cX8_checkHeld 1 = .ok (.getfield 32, 3) := by decide +kernel
theorem dX8_checkHeld_4 : decode cX8_checkHeld 4 = .ok (.iload_n 1, 1) := by decide +kernel
theorem dX8_checkHeld_5 : decode cX8_checkHeld 5 = .ok (.invokevirtual 131, 3) := by decide +kernel
theorem dX8_checkHeld_8 : decode cX8_checkHeld 8 = .ok (.ifCond .ne 14, 3) := by decide +kernel
theorem dX8_checkHeld_11 : decode cX8_checkHeld 11 = .ok (.new 410, 3) := by decide +kernel
theorem dX8_checkHeld_14 : decode cX8_checkHeld 14 = .ok (.dup, 1) := by decide +kernel
theorem dX8_checkHeld_15 : decode cX8_checkHeld 15 = .ok (.ldc_w 412, 3) := by decide +kernel
theorem dX8_checkHeld_18 : decode cX8_checkHeld 18 = .ok (.invokespecial 414, 3) := by decide +kernel
theorem dX8_checkHeld_21 : decode cX8_checkHeld 21 = .ok (.athrow, 1) := by decide +kernel
theorem dX8_checkHeld_22 : decode cX8_checkHeld 22 = .ok (.return_, 1) := by decide +kernel
theorem dX8_checkLives_0 : decode cX8_checkLives 0 = .ok (.aload_n 0, 1) := by decide +kernel
theorem dX8_checkLives_1 : decode cX8_checkLives 1 = .ok (.getfield 32, 3) := by decide +kernel
theorem dX8_checkLives_4 : decode cX8_checkLives 4 = .ok (.iload_n 1, 1) := by decide +kernel
theorem dX8_checkLives_5 : decode cX8_checkLives 5 = .ok (.invokevirtual 156, 3) := by decide +kernel
theorem dX8_checkLives_8 : decode cX8_checkLives 8 = .ok (.ifCond .eq 14, 3) := by decide +kernel
theorem dX8_checkLives_11 : decode cX8_checkLives 11 = .ok (.new 410, 3) := by decide +kernel
theorem dX8_checkLives_14 : decode cX8_checkLives 14 = .ok (.dup, 1) := by decide +kernel
theorem dX8_checkLives_15 : decode cX8_checkLives 15 = .ok (.ldc_w 415, 3) := by decide +kernel
theorem dX8_checkLives_18 : decode cX8_checkLives 18 = .ok (.invokespecial 414, 3) := by decide +kernel
theorem dX8_checkLives_21 : decode cX8_checkLives 21 = .ok (.athrow, 1) := by decide +kernel
theorem dX8_checkLives_22 : decode cX8_checkLives 22 = .ok (.return_, 1) := by decide +kernel
theorem dX8_checkSale_0 : decode cX8_checkSale 0 = .ok (.iload_n 2, 1) := by decide +kernel
theorem dX8_checkSale_1 : decode cX8_checkSale 1 = .ok (.iconst 1, 1) := by decide +kernel
theorem dX8_checkSale_2 : decode cX8_checkSale 2 = .ok (.if_icmp .lt 19, 3) := by decide +kernel
theorem dX8_checkSale_5 : decode cX8_checkSale 5 = .ok (.iload_n 2, 1) := by decide +kernel
theorem dX8_checkSale_6 : decode cX8_checkSale 6 = .ok (.sipush 9999, 3) := by decide +kernel
theorem dX8_checkSale_9 : decode cX8_checkSale 9 = .ok (.if_icmp .gt 12, 3) := by decide +kernel
theorem dX8_checkSale_12 : decode cX8_checkSale 12 = .ok (.iload_n 3, 1) := by decide +kernel
theorem dX8_checkSale_13 : decode cX8_checkSale 13 = .ok (.ifCond .lt 8, 3) := by decide +kernel
theorem dX8_checkSale_16 : decode cX8_checkSale 16 = .ok (.iload_n 3, 1) := by decide +kernel
theorem dX8_checkSale_17 : decode cX8_checkSale 17 = .ok (.iload_n 2, 1) := by decide +kernel
theorem dX8_checkSale_18 : decode cX8_checkSale 18 = .ok (.if_icmp .le 14, 3) := by decide +kernel
theorem dX8_checkSale_21 : decode cX8_checkSale 21 = .ok (.new 207, 3) := by decide +kernel
theorem dX8_checkSale_24 : decode cX8_checkSale 24 = .ok (.dup, 1) := by decide +kernel
theorem dX8_checkSale_25 : decode cX8_checkSale 25 = .ok (.ldc_w 417, 3) := by decide +kernel
theorem dX8_checkSale_28 : decode cX8_checkSale 28 = .ok (.invokespecial 211, 3) := by decide +kernel
theorem dX8_checkSale_31 : decode cX8_checkSale 31 = .ok (.athrow, 1) := by decide +kernel
theorem dX8_checkSale_32 : decode cX8_checkSale 32 = .ok (.aload_n 0, 1) := by decide +kernel
theorem dX8_checkSale_33 : decode cX8_checkSale 33 = .ok (.iload_n 1, 1) := by decide +kernel
theorem dX8_checkSale_34 : decode cX8_checkSale 34 = .ok (.invokevirtual 212, 3) := by decide +kernel
theorem dX8_checkSale_37 : decode cX8_checkSale 37 = .ok (.aload_n 0, 1) := by decide +kernel
theorem dX8_checkSale_38 : decode cX8_checkSale 38 = .ok (.getfield 32, 3) := by decide +kernel
theorem dX8_checkSale_41 : decode cX8_checkSale 41 = .ok (.iconst 0, 1) := by decide +kernel
theorem dX8_checkSale_42 : decode cX8_checkSale 42 = .ok (.invokevirtual 204, 3) := by decide +kernel
theorem dX8_checkSale_45 : decode cX8_checkSale 45 = .ok (.iload_n 2, 1) := by decide +kernel
theorem dX8_checkSale_46 : decode cX8_checkSale 46 = .ok (.iadd, 1) := by decide +kernel
theorem dX8_checkSale_47 : decode cX8_checkSale 47 = .ok (.iload_n 3, 1) := by decide +kernel
theorem dX8_checkSale_48 : decode cX8_checkSale 48 = .ok (.isub, 1) := by decide +kernel
theorem dX8_checkSale_49 : decode cX8_checkSale 49 = .ok (.ldc_w 315, 3) := by decide +kernel
theorem dX8_checkSale_52 : decode cX8_checkSale 52 = .ok (.if_icmp .le 14, 3) := by decide +kernel
theorem dX8_checkSale_55 : decode cX8_checkSale 55 = .ok (.new 410, 3) := by decide +kernel
theorem dX8_checkSale_58 : decode cX8_checkSale 58 = .ok (.dup, 1) := by decide +kernel
theorem dX8_checkSale_59 : decode cX8_checkSale 59 = .ok (.ldc_w 419, 3) := by decide +kernel
theorem dX8_checkSale_62 : decode cX8_checkSale 62 = .ok (.invokespecial 414, 3) := by decide +kernel
theorem dX8_checkSale_65 : decode cX8_checkSale 65 = .ok (.athrow, 1) := by decide +kernel
theorem dX8_checkSale_66 : decode cX8_checkSale 66 = .ok (.return_, 1) := by decide +kernel

theorem dX6_init_0 : decode cX6_init 0 = .ok (.aload_n 0, 1) := by decide +kernel
theorem dX6_init_1 : decode cX6_init 1 = .ok (.invokespecial 3, 3) := by decide +kernel
theorem dX6_init_4 : decode cX6_init 4 = .ok (.aload_n 0, 1) := by decide +kernel
theorem dX6_init_5 : decode cX6_init 5 = .ok (.new 9, 3) := by decide +kernel
theorem dX6_init_8 : decode cX6_init 8 = .ok (.dup, 1) := by decide +kernel
theorem dX6_init_9 : decode cX6_init 9 = .ok (.bipush 8, 2) := by decide +kernel
theorem dX6_init_11 : decode cX6_init 11 = .ok (.invokespecial 11, 3) := by decide +kernel
theorem dX6_init_14 : decode cX6_init 14 = .ok (.putfield 14, 3) := by decide +kernel
theorem dX6_init_17 : decode cX6_init 17 = .ok (.aload_n 0, 1) := by decide +kernel
theorem dX6_init_18 : decode cX6_init 18 = .ok (.bipush 8, 2) := by decide +kernel
theorem dX6_init_20 : decode cX6_init 20 = .ok (.newarray .boolean, 2) := by decide +kernel
theorem dX6_init_22 : decode cX6_init 22 = .ok (.putfield 20, 3) := by decide +kernel
theorem dX6_init_25 : decode cX6_init 25 = .ok (.aload_n 0, 1) := by decide +kernel
theorem dX6_init_26 : decode cX6_init 26 = .ok (.bipush 8, 2) := by decide +kernel
theorem dX6_init_28 : decode cX6_init 28 = .ok (.newarray .boolean, 2) := by decide +kernel
theorem dX6_init_30 : decode cX6_init 30 = .ok (.putfield 24, 3) := by decide +kernel
theorem dX6_init_33 : decode cX6_init 33 = .ok (.aload_n 0, 1) := by decide +kernel
theorem dX6_init_34 : decode cX6_init 34 = .ok (.new 9, 3) := by decide +kernel
theorem dX6_init_37 : decode cX6_init 37 = .ok (.dup, 1) := by decide +kernel
theorem dX6_init_38 : decode cX6_init 38 = .ok (.bipush 12, 2) := by decide +kernel
theorem dX6_init_40 : decode cX6_init 40 = .ok (.invokespecial 11, 3) := by decide +kernel
theorem dX6_init_43 : decode cX6_init 43 = .ok (.putfield 27, 3) := by decide +kernel
theorem dX6_init_46 : decode cX6_init 46 = .ok (.aload_n 0, 1) := by decide +kernel
theorem dX6_init_47 : decode cX6_init 47 = .ok (.bipush 12, 2) := by decide +kernel
theorem dX6_init_49 : decode cX6_init 49 = .ok (.newarray .int, 2) := by decide +kernel
theorem dX6_init_51 : decode cX6_init 51 = .ok (.putfield 30, 3) := by decide +kernel
theorem dX6_init_54 : decode cX6_init 54 = .ok (.aload_n 0, 1) := by decide +kernel
theorem dX6_init_55 : decode cX6_init 55 = .ok (.bipush 12, 2) := by decide +kernel
theorem dX6_init_57 : decode cX6_init 57 = .ok (.newarray .boolean, 2) := by decide +kernel
theorem dX6_init_59 : decode cX6_init 59 = .ok (.putfield 34, 3) := by decide +kernel
theorem dX6_init_62 : decode cX6_init 62 = .ok (.aload_n 0, 1) := by decide +kernel
theorem dX6_init_63 : decode cX6_init 63 = .ok (.bipush 12, 2) := by decide +kernel
theorem dX6_init_65 : decode cX6_init 65 = .ok (.newarray .boolean, 2) := by decide +kernel
theorem dX6_init_67 : decode cX6_init 67 = .ok (.putfield 37, 3) := by decide +kernel
theorem dX6_init_70 : decode cX6_init 70 = .ok (.aload_n 0, 1) := by decide +kernel
theorem dX6_init_71 : decode cX6_init 71 = .ok (.bipush 12, 2) := by decide +kernel
theorem dX6_init_73 : decode cX6_init 73 = .ok (.newarray .int, 2) := by decide +kernel
theorem dX6_init_75 : decode cX6_init 75 = .ok (.putfield 40, 3) := by decide +kernel
theorem dX6_init_78 : decode cX6_init 78 = .ok (.aload_n 0, 1) := by decide +kernel
theorem dX6_init_79 : decode cX6_init 79 = .ok (.bipush 12, 2) := by decide +kernel
theorem dX6_init_81 : decode cX6_init 81 = .ok (.newarray .int, 2) := by decide +kernel
theorem dX6_init_83 : decode cX6_init 83 = .ok (.putfield 43, 3) := by decide +kernel
theorem dX6_init_86 : decode cX6_init 86 = .ok (.aload_n 0, 1) := by decide +kernel
theorem dX6_init_87 : decode cX6_init 87 = .ok (.bipush 12, 2) := by decide +kernel
theorem dX6_init_89 : decode cX6_init 89 = .ok (.newarray .int, 2) := by decide +kernel
theorem dX6_init_91 : decode cX6_init 91 = .ok (.putfield 46, 3) := by decide +kernel
theorem dX6_init_94 : decode cX6_init 94 = .ok (.aload_n 0, 1) := by decide +kernel
theorem dX6_init_95 : decode cX6_init 95 = .ok (.bipush 12, 2) := by decide +kernel
theorem dX6_init_97 : decode cX6_init 97 = .ok (.newarray .int, 2) := by decide +kernel
theorem dX6_init_99 : decode cX6_init 99 = .ok (.putfield 49, 3) := by decide +kernel
theorem dX6_init_102 : decode cX6_init 102 = .ok (.aload_n 0, 1) := by decide +kernel
theorem dX6_init_103 : decode cX6_init 103 = .ok (.bipush 12, 2) := by decide +kernel
theorem dX6_init_105 : decode cX6_init 105 = .ok (.newarray .int, 2) := by decide +kernel
theorem dX6_init_107 : decode cX6_init 107 = .ok (.putfield 52, 3) := by decide +kernel
theorem dX6_init_110 : decode cX6_init 110 = .ok (.return_, 1) := by decide +kernel
theorem dX6_clear_0 : decode cX6_clear 0 = .ok (.aload_n 0, 1) := by decide +kernel
theorem dX6_clear_1 : decode cX6_clear 1 = .ok (.getfield 14, 3) := by decide +kernel
theorem dX6_clear_4 : decode cX6_clear 4 = .ok (.iconst 0, 1) := by decide +kernel
theorem dX6_clear_5 : decode cX6_clear 5 = .ok (.putfield 55, 3) := by decide +kernel
theorem dX6_clear_8 : decode cX6_clear 8 = .ok (.aload_n 0, 1) := by decide +kernel
theorem dX6_clear_9 : decode cX6_clear 9 = .ok (.getfield 27, 3) := by decide +kernel
theorem dX6_clear_12 : decode cX6_clear 12 = .ok (.iconst 0, 1) := by decide +kernel
theorem dX6_clear_13 : decode cX6_clear 13 = .ok (.putfield 55, 3) := by decide +kernel
theorem dX6_clear_16 : decode cX6_clear 16 = .ok (.aload_n 0, 1) := by decide +kernel
theorem dX6_clear_17 : decode cX6_clear 17 = .ok (.iconst 0, 1) := by decide +kernel
theorem dX6_clear_18 : decode cX6_clear 18 = .ok (.putfield 59, 3) := by decide +kernel
theorem dX6_clear_21 : decode cX6_clear 21 = .ok (.iconst 0, 1) := by decide +kernel
theorem dX6_clear_22 : decode cX6_clear 22 = .ok (.istore_n 1, 1) := by decide +kernel
theorem dX6_clear_23 : decode cX6_clear 23 = .ok (.iload_n 1, 1) := by decide +kernel
theorem dX6_clear_24 : decode cX6_clear 24 = .ok (.bipush 8, 2) := by decide +kernel
theorem dX6_clear_26 : decode cX6_clear 26 = .ok (.if_icmp .ge 23, 3) := by decide +kernel
theorem dX6_clear_29 : decode cX6_clear 29 = .ok (.aload_n 0, 1) := by decide +kernel
theorem dX6_clear_30 : decode cX6_clear 30 = .ok (.getfield 20, 3) := by decide +kernel
theorem dX6_clear_33 : decode cX6_clear 33 = .ok (.iload_n 1, 1) := by decide +kernel
theorem dX6_clear_34 : decode cX6_clear 34 = .ok (.iconst 0, 1) := by decide +kernel
theorem dX6_clear_35 : decode cX6_clear 35 = .ok (.bastore, 1) := by decide +kernel
theorem dX6_clear_36 : decode cX6_clear 36 = .ok (.aload_n 0, 1) := by decide +kernel
theorem dX6_clear_37 : decode cX6_clear 37 = .ok (.getfield 24, 3) := by decide +kernel
theorem dX6_clear_40 : decode cX6_clear 40 = .ok (.iload_n 1, 1) := by decide +kernel
theorem dX6_clear_41 : decode cX6_clear 41 = .ok (.iconst 0, 1) := by decide +kernel
theorem dX6_clear_42 : decode cX6_clear 42 = .ok (.bastore, 1) := by decide +kernel
theorem dX6_clear_43 : decode cX6_clear 43 = .ok (.iinc 1 1, 3) := by decide +kernel
theorem dX6_clear_46 : decode cX6_clear 46 = .ok (.goto (-23), 3) := by decide +kernel
theorem dX6_clear_49 : decode cX6_clear 49 = .ok (.return_, 1) := by decide +kernel
theorem dX6_putPerson_0 : decode cX6_putPerson 0 = .ok (.aload_n 0, 1) := by decide +kernel
theorem dX6_putPerson_1 : decode cX6_putPerson 1 = .ok (.getfield 30, 3) := by decide +kernel
theorem dX6_putPerson_4 : decode cX6_putPerson 4 = .ok (.iload_n 1, 1) := by decide +kernel
theorem dX6_putPerson_5 : decode cX6_putPerson 5 = .ok (.iload_n 2, 1) := by decide +kernel
theorem dX6_putPerson_6 : decode cX6_putPerson 6 = .ok (.iastore, 1) := by decide +kernel
theorem dX6_putPerson_7 : decode cX6_putPerson 7 = .ok (.aload_n 0, 1) := by decide +kernel
theorem dX6_putPerson_8 : decode cX6_putPerson 8 = .ok (.getfield 34, 3) := by decide +kernel
theorem dX6_putPerson_11 : decode cX6_putPerson 11 = .ok (.iload_n 1, 1) := by decide +kernel
theorem dX6_putPerson_12 : decode cX6_putPerson 12 = .ok (.iload_n 3, 1) := by decide +kernel
theorem dX6_putPerson_13 : decode cX6_putPerson 13 = .ok (.bastore, 1) := by decide +kernel
theorem dX6_putPerson_14 : decode cX6_putPerson 14 = .ok (.aload_n 0, 1) := by decide +kernel
theorem dX6_putPerson_15 : decode cX6_putPerson 15 = .ok (.getfield 37, 3) := by decide +kernel
theorem dX6_putPerson_18 : decode cX6_putPerson 18 = .ok (.iload_n 1, 1) := by decide +kernel
theorem dX6_putPerson_19 : decode cX6_putPerson 19 = .ok (.iload_n 3, 1) := by decide +kernel
theorem dX6_putPerson_20 : decode cX6_putPerson 20 = .ok (.ifCond .ne 17, 3) := by decide +kernel
theorem dX6_putPerson_23 : decode cX6_putPerson 23 = .ok (.iload_n 2, 1) := by decide +kernel
theorem dX6_putPerson_24 : decode cX6_putPerson 24 = .ok (.iconst (-1), 1) := by decide +kernel
theorem dX6_putPerson_25 : decode cX6_putPerson 25 = .ok (.if_icmp .eq 16, 3) := by decide +kernel
theorem dX6_putPerson_28 : decode cX6_putPerson 28 = .ok (.aload_n 0, 1) := by decide +kernel
theorem dX6_putPerson_29 : decode cX6_putPerson 29 = .ok (.getfield 37, 3) := by decide +kernel
theorem dX6_putPerson_32 : decode cX6_putPerson 32 = .ok (.iload_n 2, 1) := by decide +kernel
theorem dX6_putPerson_33 : decode cX6_putPerson 33 = .ok (.baload, 1) := by decide +kernel
theorem dX6_putPerson_34 : decode cX6_putPerson 34 = .ok (.ifCond .eq 7, 3) := by decide +kernel
theorem dX6_putPerson_37 : decode cX6_putPerson 37 = .ok (.iconst 1, 1) := by decide +kernel
theorem dX6_putPerson_38 : decode cX6_putPerson 38 = .ok (.goto 4, 3) := by decide +kernel
theorem dX6_putPerson_41 : decode cX6_putPerson 41 = .ok (.iconst 0, 1) := by decide +kernel
theorem dX6_putPerson_42 : decode cX6_putPerson 42 = .ok (.bastore, 1) := by decide +kernel
theorem dX6_putPerson_43 : decode cX6_putPerson 43 = .ok (.return_, 1) := by decide +kernel
theorem dX6_addGift_0 : decode cX6_addGift 0 = .ok (.aload_n 0, 1) := by decide +kernel
theorem dX6_addGift_1 : decode cX6_addGift 1 = .ok (.getfield 40, 3) := by decide +kernel
theorem dX6_addGift_4 : decode cX6_addGift 4 = .ok (.aload_n 0, 1) := by decide +kernel
theorem dX6_addGift_5 : decode cX6_addGift 5 = .ok (.getfield 59, 3) := by decide +kernel
theorem dX6_addGift_8 : decode cX6_addGift 8 = .ok (.iload_n 1, 1) := by decide +kernel
theorem dX6_addGift_9 : decode cX6_addGift 9 = .ok (.iastore, 1) := by decide +kernel
theorem dX6_addGift_10 : decode cX6_addGift 10 = .ok (.aload_n 0, 1) := by decide +kernel
theorem dX6_addGift_11 : decode cX6_addGift 11 = .ok (.getfield 43, 3) := by decide +kernel
theorem dX6_addGift_14 : decode cX6_addGift 14 = .ok (.aload_n 0, 1) := by decide +kernel
theorem dX6_addGift_15 : decode cX6_addGift 15 = .ok (.getfield 59, 3) := by decide +kernel
theorem dX6_addGift_18 : decode cX6_addGift 18 = .ok (.iload_n 2, 1) := by decide +kernel
theorem dX6_addGift_19 : decode cX6_addGift 19 = .ok (.iastore, 1) := by decide +kernel
theorem dX6_addGift_20 : decode cX6_addGift 20 = .ok (.aload_n 0, 1) := by decide +kernel
theorem dX6_addGift_21 : decode cX6_addGift 21 = .ok (.getfield 46, 3) := by decide +kernel
theorem dX6_addGift_24 : decode cX6_addGift 24 = .ok (.aload_n 0, 1) := by decide +kernel
theorem dX6_addGift_25 : decode cX6_addGift 25 = .ok (.getfield 59, 3) := by decide +kernel
theorem dX6_addGift_28 : decode cX6_addGift 28 = .ok (.iload_n 3, 1) := by decide +kernel
theorem dX6_addGift_29 : decode cX6_addGift 29 = .ok (.iastore, 1) := by decide +kernel
theorem dX6_addGift_30 : decode cX6_addGift 30 = .ok (.aload_n 0, 1) := by decide +kernel
theorem dX6_addGift_31 : decode cX6_addGift 31 = .ok (.getfield 49, 3) := by decide +kernel
theorem dX6_addGift_34 : decode cX6_addGift 34 = .ok (.aload_n 0, 1) := by decide +kernel
theorem dX6_addGift_35 : decode cX6_addGift 35 = .ok (.getfield 59, 3) := by decide +kernel
theorem dX6_addGift_38 : decode cX6_addGift 38 = .ok (.iload 4, 2) := by decide +kernel
theorem dX6_addGift_40 : decode cX6_addGift 40 = .ok (.iastore, 1) := by decide +kernel
theorem dX6_addGift_41 : decode cX6_addGift 41 = .ok (.aload_n 0, 1) := by decide +kernel
theorem dX6_addGift_42 : decode cX6_addGift 42 = .ok (.getfield 52, 3) := by decide +kernel
theorem dX6_addGift_45 : decode cX6_addGift 45 = .ok (.aload_n 0, 1) := by decide +kernel
theorem dX6_addGift_46 : decode cX6_addGift 46 = .ok (.getfield 59, 3) := by decide +kernel
theorem dX6_addGift_49 : decode cX6_addGift 49 = .ok (.iload 5, 2) := by decide +kernel
theorem dX6_addGift_51 : decode cX6_addGift 51 = .ok (.iastore, 1) := by decide +kernel
theorem dX6_addGift_52 : decode cX6_addGift 52 = .ok (.aload_n 0, 1) := by decide +kernel
theorem dX6_addGift_53 : decode cX6_addGift 53 = .ok (.dup, 1) := by decide +kernel
theorem dX6_addGift_54 : decode cX6_addGift 54 = .ok (.getfield 59, 3) := by decide +kernel
theorem dX6_addGift_57 : decode cX6_addGift 57 = .ok (.iconst 1, 1) := by decide +kernel
theorem dX6_addGift_58 : decode cX6_addGift 58 = .ok (.iadd, 1) := by decide +kernel
theorem dX6_addGift_59 : decode cX6_addGift 59 = .ok (.putfield 59, 3) := by decide +kernel
theorem dX6_addGift_62 : decode cX6_addGift 62 = .ok (.iload_n 1, 1) := by decide +kernel
theorem dX6_addGift_63 : decode cX6_addGift 63 = .ok (.ifCond .ne 13, 3) := by decide +kernel
theorem dX6_addGift_66 : decode cX6_addGift 66 = .ok (.aload_n 0, 1) := by decide +kernel
theorem dX6_addGift_67 : decode cX6_addGift 67 = .ok (.getfield 20, 3) := by decide +kernel
theorem dX6_addGift_70 : decode cX6_addGift 70 = .ok (.iload_n 3, 1) := by decide +kernel
theorem dX6_addGift_71 : decode cX6_addGift 71 = .ok (.iconst 1, 1) := by decide +kernel
theorem dX6_addGift_72 : decode cX6_addGift 72 = .ok (.bastore, 1) := by decide +kernel
theorem dX6_addGift_73 : decode cX6_addGift 73 = .ok (.goto 15, 3) := by decide +kernel
theorem dX6_addGift_76 : decode cX6_addGift 76 = .ok (.iload_n 1, 1) := by decide +kernel
theorem dX6_addGift_77 : decode cX6_addGift 77 = .ok (.iconst 2, 1) := by decide +kernel
theorem dX6_addGift_78 : decode cX6_addGift 78 = .ok (.if_icmp .ne 10, 3) := by decide +kernel
theorem dX6_addGift_81 : decode cX6_addGift 81 = .ok (.aload_n 0, 1) := by decide +kernel
theorem dX6_addGift_82 : decode cX6_addGift 82 = .ok (.getfield 24, 3) := by decide +kernel
theorem dX6_addGift_85 : decode cX6_addGift 85 = .ok (.iload_n 3, 1) := by decide +kernel
theorem dX6_addGift_86 : decode cX6_addGift 86 = .ok (.iconst 1, 1) := by decide +kernel
theorem dX6_addGift_87 : decode cX6_addGift 87 = .ok (.bastore, 1) := by decide +kernel
theorem dX6_addGift_88 : decode cX6_addGift 88 = .ok (.return_, 1) := by decide +kernel

theorem dX5_init_0 : decode cX5_init 0 = .ok (.aload_n 0, 1) := by decide +kernel
theorem dX5_init_1 : decode cX5_init 1 = .ok (.invokespecial 3, 3) := by decide +kernel
theorem dX5_init_4 : decode cX5_init 4 = .ok (.aload_n 0, 1) := by decide +kernel
theorem dX5_init_5 : decode cX5_init 5 = .ok (.bipush 12, 2) := by decide +kernel
theorem dX5_init_7 : decode cX5_init 7 = .ok (.newarray .int, 2) := by decide +kernel
theorem dX5_init_9 : decode cX5_init 9 = .ok (.putfield 9, 3) := by decide +kernel
theorem dX5_init_12 : decode cX5_init 12 = .ok (.aload_n 0, 1) := by decide +kernel
theorem dX5_init_13 : decode cX5_init 13 = .ok (.bipush 12, 2) := by decide +kernel
theorem dX5_init_15 : decode cX5_init 15 = .ok (.newarray .boolean, 2) := by decide +kernel
theorem dX5_init_17 : decode cX5_init 17 = .ok (.putfield 15, 3) := by decide +kernel
theorem dX5_init_20 : decode cX5_init 20 = .ok (.aload_n 0, 1) := by decide +kernel
theorem dX5_init_21 : decode cX5_init 21 = .ok (.bipush 8, 2) := by decide +kernel
theorem dX5_init_23 : decode cX5_init 23 = .ok (.newarray .int, 2) := by decide +kernel
theorem dX5_init_25 : decode cX5_init 25 = .ok (.putfield 19, 3) := by decide +kernel
theorem dX5_init_28 : decode cX5_init 28 = .ok (.aload_n 0, 1) := by decide +kernel
theorem dX5_init_29 : decode cX5_init 29 = .ok (.bipush 12, 2) := by decide +kernel
theorem dX5_init_31 : decode cX5_init 31 = .ok (.bipush 7, 2) := by decide +kernel
theorem dX5_init_33 : decode cX5_init 33 = .ok (.multianewarray 22 2, 4) := by decide +kernel
theorem dX5_init_37 : decode cX5_init 37 = .ok (.putfield 24, 3) := by decide +kernel
theorem dX5_init_40 : decode cX5_init 40 = .ok (.aload_n 0, 1) := by decide +kernel
theorem dX5_init_41 : decode cX5_init 41 = .ok (.bipush 12, 2) := by decide +kernel
theorem dX5_init_43 : decode cX5_init 43 = .ok (.bipush 7, 2) := by decide +kernel
theorem dX5_init_45 : decode cX5_init 45 = .ok (.multianewarray 22 2, 4) := by decide +kernel
theorem dX5_init_49 : decode cX5_init 49 = .ok (.putfield 27, 3) := by decide +kernel
theorem dX5_init_52 : decode cX5_init 52 = .ok (.aload_n 0, 1) := by decide +kernel
theorem dX5_init_53 : decode cX5_init 53 = .ok (.bipush 12, 2) := by decide +kernel
theorem dX5_init_55 : decode cX5_init 55 = .ok (.bipush 12, 2) := by decide +kernel
theorem dX5_init_57 : decode cX5_init 57 = .ok (.multianewarray 22 2, 4) := by decide +kernel
theorem dX5_init_61 : decode cX5_init 61 = .ok (.putfield 30, 3) := by decide +kernel
theorem dX5_init_64 : decode cX5_init 64 = .ok (.aload_n 0, 1) := by decide +kernel
theorem dX5_init_65 : decode cX5_init 65 = .ok (.bipush 12, 2) := by decide +kernel
theorem dX5_init_67 : decode cX5_init 67 = .ok (.newarray .int, 2) := by decide +kernel
theorem dX5_init_69 : decode cX5_init 69 = .ok (.putfield 33, 3) := by decide +kernel
theorem dX5_init_72 : decode cX5_init 72 = .ok (.aload_n 0, 1) := by decide +kernel
theorem dX5_init_73 : decode cX5_init 73 = .ok (.bipush 12, 2) := by decide +kernel
theorem dX5_init_75 : decode cX5_init 75 = .ok (.newarray .int, 2) := by decide +kernel
theorem dX5_init_77 : decode cX5_init 77 = .ok (.putfield 36, 3) := by decide +kernel
theorem dX5_init_80 : decode cX5_init 80 = .ok (.aload_n 0, 1) := by decide +kernel
theorem dX5_init_81 : decode cX5_init 81 = .ok (.bipush 12, 2) := by decide +kernel
theorem dX5_init_83 : decode cX5_init 83 = .ok (.newarray .long, 2) := by decide +kernel
theorem dX5_init_85 : decode cX5_init 85 = .ok (.putfield 39, 3) := by decide +kernel
theorem dX5_init_88 : decode cX5_init 88 = .ok (.aload_n 0, 1) := by decide +kernel
theorem dX5_init_89 : decode cX5_init 89 = .ok (.bipush 12, 2) := by decide +kernel
theorem dX5_init_91 : decode cX5_init 91 = .ok (.newarray .int, 2) := by decide +kernel
theorem dX5_init_93 : decode cX5_init 93 = .ok (.putfield 43, 3) := by decide +kernel
theorem dX5_init_96 : decode cX5_init 96 = .ok (.aload_n 0, 1) := by decide +kernel
theorem dX5_init_97 : decode cX5_init 97 = .ok (.aload_n 1, 1) := by decide +kernel
theorem dX5_init_98 : decode cX5_init 98 = .ok (.putfield 46, 3) := by decide +kernel
theorem dX5_init_101 : decode cX5_init 101 = .ok (.aload_n 0, 1) := by decide +kernel
theorem dX5_init_102 : decode cX5_init 102 = .ok (.aload_n 2, 1) := by decide +kernel
theorem dX5_init_103 : decode cX5_init 103 = .ok (.putfield 50, 3) := by decide +kernel
theorem dX5_init_106 : decode cX5_init 106 = .ok (.return_, 1) := by decide +kernel
theorem dX5_reckon_0 : decode cX5_reckon 0 = .ok (.aload_n 0, 1) := by decide +kernel
theorem dX5_reckon_1 : decode cX5_reckon 1 = .ok (.aload_n 1, 1) := by decide +kernel
theorem dX5_reckon_2 : decode cX5_reckon 2 = .ok (.putfield 46, 3) := by decide +kernel
theorem dX5_reckon_5 : decode cX5_reckon 5 = .ok (.aload_n 0, 1) := by decide +kernel
theorem dX5_reckon_6 : decode cX5_reckon 6 = .ok (.invokevirtual 54, 3) := by decide +kernel
theorem dX5_reckon_9 : decode cX5_reckon 9 = .ok (.aload_n 0, 1) := by decide +kernel
theorem dX5_reckon_10 : decode cX5_reckon 10 = .ok (.invokevirtual 57, 3) := by decide +kernel
theorem dX5_reckon_13 : decode cX5_reckon 13 = .ok (.aload_n 0, 1) := by decide +kernel
theorem dX5_reckon_14 : decode cX5_reckon 14 = .ok (.invokevirtual 60, 3) := by decide +kernel
theorem dX5_reckon_17 : decode cX5_reckon 17 = .ok (.iconst 0, 1) := by decide +kernel
theorem dX5_reckon_18 : decode cX5_reckon 18 = .ok (.istore_n 2, 1) := by decide +kernel
theorem dX5_reckon_19 : decode cX5_reckon 19 = .ok (.iload_n 2, 1) := by decide +kernel
theorem dX5_reckon_20 : decode cX5_reckon 20 = .ok (.aload_n 0, 1) := by decide +kernel
theorem dX5_reckon_21 : decode cX5_reckon 21 = .ok (.getfield 46, 3) := by decide +kernel
theorem dX5_reckon_24 : decode cX5_reckon 24 = .ok (.getfield 63, 3) := by decide +kernel
theorem dX5_reckon_27 : decode cX5_reckon 27 = .ok (.if_icmp .ge 34, 3) := by decide +kernel
theorem dX5_reckon_30 : decode cX5_reckon 30 = .ok (.aload_n 0, 1) := by decide +kernel
theorem dX5_reckon_31 : decode cX5_reckon 31 = .ok (.getfield 15, 3) := by decide +kernel
theorem dX5_reckon_34 : decode cX5_reckon 34 = .ok (.iload_n 2, 1) := by decide +kernel
theorem dX5_reckon_35 : decode cX5_reckon 35 = .ok (.aload_n 0, 1) := by decide +kernel
theorem dX5_reckon_36 : decode cX5_reckon 36 = .ok (.iload_n 2, 1) := by decide +kernel
theorem dX5_reckon_37 : decode cX5_reckon 37 = .ok (.invokevirtual 69, 3) := by decide +kernel
theorem dX5_reckon_40 : decode cX5_reckon 40 = .ok (.bastore, 1) := by decide +kernel
theorem dX5_reckon_41 : decode cX5_reckon 41 = .ok (.aload_n 0, 1) := by decide +kernel
theorem dX5_reckon_42 : decode cX5_reckon 42 = .ok (.getfield 15, 3) := by decide +kernel
theorem dX5_reckon_45 : decode cX5_reckon 45 = .ok (.iload_n 2, 1) := by decide +kernel
theorem dX5_reckon_46 : decode cX5_reckon 46 = .ok (.baload, 1) := by decide +kernel
theorem dX5_reckon_47 : decode cX5_reckon 47 = .ok (.ifCond .ne 8, 3) := by decide +kernel
theorem dX5_reckon_50 : decode cX5_reckon 50 = .ok (.aload_n 0, 1) := by decide +kernel
theorem dX5_reckon_51 : decode cX5_reckon 51 = .ok (.iload_n 2, 1) := by decide +kernel
theorem dX5_reckon_52 : decode cX5_reckon 52 = .ok (.invokevirtual 73, 3) := by decide +kernel
theorem dX5_reckon_55 : decode cX5_reckon 55 = .ok (.iinc 2 1, 3) := by decide +kernel
theorem dX5_reckon_58 : decode cX5_reckon 58 = .ok (.goto (-39), 3) := by decide +kernel
theorem dX5_reckon_61 : decode cX5_reckon 61 = .ok (.aload_n 0, 1) := by decide +kernel
theorem dX5_reckon_62 : decode cX5_reckon 62 = .ok (.invokevirtual 77, 3) := by decide +kernel
theorem dX5_reckon_65 : decode cX5_reckon 65 = .ok (.aload_n 0, 1) := by decide +kernel
theorem dX5_reckon_66 : decode cX5_reckon 66 = .ok (.invokevirtual 80, 3) := by decide +kernel
theorem dX5_reckon_69 : decode cX5_reckon 69 = .ok (.aload_n 0, 1) := by decide +kernel
theorem dX5_reckon_70 : decode cX5_reckon 70 = .ok (.invokevirtual 83, 3) := by decide +kernel
theorem dX5_reckon_73 : decode cX5_reckon 73 = .ok (.aload_n 0, 1) := by decide +kernel
theorem dX5_reckon_74 : decode cX5_reckon 74 = .ok (.invokevirtual 86, 3) := by decide +kernel
theorem dX5_reckon_77 : decode cX5_reckon 77 = .ok (.return_, 1) := by decide +kernel
theorem dX5_clear_0 : decode cX5_clear 0 = .ok (.iconst 0, 1) := by decide +kernel
theorem dX5_clear_1 : decode cX5_clear 1 = .ok (.istore_n 1, 1) := by decide +kernel
theorem dX5_clear_2 : decode cX5_clear 2 = .ok (.iload_n 1, 1) := by decide +kernel
theorem dX5_clear_3 : decode cX5_clear 3 = .ok (.bipush 12, 2) := by decide +kernel
theorem dX5_clear_5 : decode cX5_clear 5 = .ok (.if_icmp .ge 39, 3) := by decide +kernel
theorem dX5_clear_8 : decode cX5_clear 8 = .ok (.aload_n 0, 1) := by decide +kernel
theorem dX5_clear_9 : decode cX5_clear 9 = .ok (.getfield 24, 3) := by decide +kernel
theorem dX5_clear_12 : decode cX5_clear 12 = .ok (.iload_n 1, 1) := by decide +kernel
theorem dX5_clear_13 : decode cX5_clear 13 = .ok (.aaload, 1) := by decide +kernel
theorem dX5_clear_14 : decode cX5_clear 14 = .ok (.iconst 0, 1) := by decide +kernel
theorem dX5_clear_15 : decode cX5_clear 15 = .ok (.invokestatic 89, 3) := by decide +kernel
theorem dX5_clear_18 : decode cX5_clear 18 = .ok (.aload_n 0, 1) := by decide +kernel
theorem dX5_clear_19 : decode cX5_clear 19 = .ok (.getfield 27, 3) := by decide +kernel
theorem dX5_clear_22 : decode cX5_clear 22 = .ok (.iload_n 1, 1) := by decide +kernel
theorem dX5_clear_23 : decode cX5_clear 23 = .ok (.aaload, 1) := by decide +kernel
theorem dX5_clear_24 : decode cX5_clear 24 = .ok (.iconst 0, 1) := by decide +kernel
theorem dX5_clear_25 : decode cX5_clear 25 = .ok (.invokestatic 89, 3) := by decide +kernel
theorem dX5_clear_28 : decode cX5_clear 28 = .ok (.aload_n 0, 1) := by decide +kernel
theorem dX5_clear_29 : decode cX5_clear 29 = .ok (.getfield 30, 3) := by decide +kernel
theorem dX5_clear_32 : decode cX5_clear 32 = .ok (.iload_n 1, 1) := by decide +kernel
theorem dX5_clear_33 : decode cX5_clear 33 = .ok (.aaload, 1) := by decide +kernel
theorem dX5_clear_34 : decode cX5_clear 34 = .ok (.iconst 0, 1) := by decide +kernel
theorem dX5_clear_35 : decode cX5_clear 35 = .ok (.invokestatic 89, 3) := by decide +kernel
theorem dX5_clear_38 : decode cX5_clear 38 = .ok (.iinc 1 1, 3) := by decide +kernel
theorem dX5_clear_41 : decode cX5_clear 41 = .ok (.goto (-39), 3) := by decide +kernel
theorem dX5_clear_44 : decode cX5_clear 44 = .ok (.aload_n 0, 1) := by decide +kernel
theorem dX5_clear_45 : decode cX5_clear 45 = .ok (.getfield 9, 3) := by decide +kernel
theorem dX5_clear_48 : decode cX5_clear 48 = .ok (.iconst 0, 1) := by decide +kernel
theorem dX5_clear_49 : decode cX5_clear 49 = .ok (.invokestatic 89, 3) := by decide +kernel
theorem dX5_clear_52 : decode cX5_clear 52 = .ok (.aload_n 0, 1) := by decide +kernel
theorem dX5_clear_53 : decode cX5_clear 53 = .ok (.getfield 33, 3) := by decide +kernel
theorem dX5_clear_56 : decode cX5_clear 56 = .ok (.iconst 0, 1) := by decide +kernel
theorem dX5_clear_57 : decode cX5_clear 57 = .ok (.invokestatic 89, 3) := by decide +kernel
theorem dX5_clear_60 : decode cX5_clear 60 = .ok (.aload_n 0, 1) := by decide +kernel
theorem dX5_clear_61 : decode cX5_clear 61 = .ok (.iconst 0, 1) := by decide +kernel
theorem dX5_clear_62 : decode cX5_clear 62 = .ok (.putfield 95, 3) := by decide +kernel
theorem dX5_clear_65 : decode cX5_clear 65 = .ok (.aload_n 0, 1) := by decide +kernel
theorem dX5_clear_66 : decode cX5_clear 66 = .ok (.iconst 0, 1) := by decide +kernel
theorem dX5_clear_67 : decode cX5_clear 67 = .ok (.putfield 98, 3) := by decide +kernel
theorem dX5_clear_70 : decode cX5_clear 70 = .ok (.aload_n 0, 1) := by decide +kernel
theorem dX5_clear_71 : decode cX5_clear 71 = .ok (.iconst (-1), 1) := by decide +kernel
theorem dX5_clear_72 : decode cX5_clear 72 = .ok (.putfield 101, 3) := by decide +kernel
theorem dX5_clear_75 : decode cX5_clear 75 = .ok (.aload_n 0, 1) := by decide +kernel
theorem dX5_clear_76 : decode cX5_clear 76 = .ok (.iconst 0, 1) := by decide +kernel
theorem dX5_clear_77 : decode cX5_clear 77 = .ok (.putfield 104, 3) := by decide +kernel
theorem dX5_clear_80 : decode cX5_clear 80 = .ok (.return_, 1) := by decide +kernel
theorem dX5_lookAtStocks_0 : decode cX5_lookAtStocks 0 = .ok (.aload_n 0, 1) := by decide +kernel
theorem dX5_lookAtStocks_1 : decode cX5_lookAtStocks 1 = .ok (.getfield 46, 3) := by decide +kernel
theorem dX5_lookAtStocks_4 : decode cX5_lookAtStocks 4 = .ok (.getfield 107, 3) := by decide +kernel
theorem dX5_lookAtStocks_7 : decode cX5_lookAtStocks 7 = .ok (.getfield 111, 3) := by decide +kernel
theorem dX5_lookAtStocks_10 : decode cX5_lookAtStocks 10 = .ok (.iconst 1, 1) := by decide +kernel
theorem dX5_lookAtStocks_11 : decode cX5_lookAtStocks 11 = .ok (.isub, 1) := by decide +kernel
theorem dX5_lookAtStocks_12 : decode cX5_lookAtStocks 12 = .ok (.istore_n 1, 1) := by decide +kernel
theorem dX5_lookAtStocks_13 : decode cX5_lookAtStocks 13 = .ok (.iload_n 1, 1) := by decide +kernel
theorem dX5_lookAtStocks_14 : decode cX5_lookAtStocks 14 = .ok (.ifCond .lt 79, 3) := by decide +kernel
theorem dX5_lookAtStocks_17 : decode cX5_lookAtStocks 17 = .ok (.aload_n 0, 1) := by decide +kernel
theorem dX5_lookAtStocks_18 : decode cX5_lookAtStocks 18 = .ok (.getfield 50, 3) := by decide +kernel
theorem dX5_lookAtStocks_21 : decode cX5_lookAtStocks 21 = .ok (.iload_n 1, 1) := by decide +kernel
theorem dX5_lookAtStocks_22 : decode cX5_lookAtStocks 22 = .ok (.invokevirtual 116, 3) := by decide +kernel
theorem dX5_lookAtStocks_25 : decode cX5_lookAtStocks 25 = .ok (.ifCond .ne 10, 3) := by decide +kernel
theorem dX5_lookAtStocks_28 : decode cX5_lookAtStocks 28 = .ok (.aload_n 0, 1) := by decide +kernel
theorem dX5_lookAtStocks_29 : decode cX5_lookAtStocks 29 = .ok (.getfield 9, 3) := by decide +kernel
theorem dX5_lookAtStocks_32 : decode cX5_lookAtStocks 32 = .ok (.iload_n 1, 1) := by decide +kernel
theorem dX5_lookAtStocks_33 : decode cX5_lookAtStocks 33 = .ok (.iconst 1, 1) := by decide +kernel
theorem dX5_lookAtStocks_34 : decode cX5_lookAtStocks 34 = .ok (.iastore, 1) := by decide +kernel
theorem dX5_lookAtStocks_35 : decode cX5_lookAtStocks 35 = .ok (.aload_n 0, 1) := by decide +kernel
theorem dX5_lookAtStocks_36 : decode cX5_lookAtStocks 36 = .ok (.getfield 46, 3) := by decide +kernel
theorem dX5_lookAtStocks_39 : decode cX5_lookAtStocks 39 = .ok (.getfield 121, 3) := by decide +kernel
theorem dX5_lookAtStocks_42 : decode cX5_lookAtStocks 42 = .ok (.iload_n 1, 1) := by decide +kernel
theorem dX5_lookAtStocks_43 : decode cX5_lookAtStocks 43 = .ok (.iaload, 1) := by decide +kernel
theorem dX5_lookAtStocks_44 : decode cX5_lookAtStocks 44 = .ok (.istore_n 2, 1) := by decide +kernel
theorem dX5_lookAtStocks_45 : decode cX5_lookAtStocks 45 = .ok (.iload_n 2, 1) := by decide +kernel
theorem dX5_lookAtStocks_46 : decode cX5_lookAtStocks 46 = .ok (.iconst (-1), 1) := by decide +kernel
theorem dX5_lookAtStocks_47 : decode cX5_lookAtStocks 47 = .ok (.if_icmp .eq 18, 3) := by decide +kernel
theorem dX5_lookAtStocks_50 : decode cX5_lookAtStocks 50 = .ok (.aload_n 0, 1) := by decide +kernel
theorem dX5_lookAtStocks_51 : decode cX5_lookAtStocks 51 = .ok (.getfield 9, 3) := by decide +kernel
theorem dX5_lookAtStocks_54 : decode cX5_lookAtStocks 54 = .ok (.iload_n 2, 1) := by decide +kernel
theorem dX5_lookAtStocks_55 : decode cX5_lookAtStocks 55 = .ok (.dup2, 1) := by decide +kernel
theorem dX5_lookAtStocks_56 : decode cX5_lookAtStocks 56 = .ok (.iaload, 1) := by decide +kernel
theorem dX5_lookAtStocks_57 : decode cX5_lookAtStocks 57 = .ok (.aload_n 0, 1) := by decide +kernel
theorem dX5_lookAtStocks_58 : decode cX5_lookAtStocks 58 = .ok (.getfield 9, 3) := by decide +kernel
theorem dX5_lookAtStocks_61 : decode cX5_lookAtStocks 61 = .ok (.iload_n 1, 1) := by decide +kernel
theorem dX5_lookAtStocks_62 : decode cX5_lookAtStocks 62 = .ok (.iaload, 1) := by decide +kernel
theorem dX5_lookAtStocks_63 : decode cX5_lookAtStocks 63 = .ok (.iadd, 1) := by decide +kernel
theorem dX5_lookAtStocks_64 : decode cX5_lookAtStocks 64 = .ok (.iastore, 1) := by decide +kernel
theorem dX5_lookAtStocks_65 : decode cX5_lookAtStocks 65 = .ok (.aload_n 0, 1) := by decide +kernel
theorem dX5_lookAtStocks_66 : decode cX5_lookAtStocks 66 = .ok (.dup, 1) := by decide +kernel
theorem dX5_lookAtStocks_67 : decode cX5_lookAtStocks 67 = .ok (.getfield 104, 3) := by decide +kernel
theorem dX5_lookAtStocks_70 : decode cX5_lookAtStocks 70 = .ok (.aload_n 0, 1) := by decide +kernel
theorem dX5_lookAtStocks_71 : decode cX5_lookAtStocks 71 = .ok (.iload_n 1, 1) := by decide +kernel
theorem dX5_lookAtStocks_72 : decode cX5_lookAtStocks 72 = .ok (.invokevirtual 124, 3) := by decide +kernel
theorem dX5_lookAtStocks_75 : decode cX5_lookAtStocks 75 = .ok (.ifCond .eq 7, 3) := by decide +kernel
theorem dX5_lookAtStocks_78 : decode cX5_lookAtStocks 78 = .ok (.iconst 1, 1) := by decide +kernel
theorem dX5_lookAtStocks_79 : decode cX5_lookAtStocks 79 = .ok (.goto 4, 3) := by decide +kernel
theorem dX5_lookAtStocks_82 : decode cX5_lookAtStocks 82 = .ok (.iconst 0, 1) := by decide +kernel
theorem dX5_lookAtStocks_83 : decode cX5_lookAtStocks 83 = .ok (.iadd, 1) := by decide +kernel
theorem dX5_lookAtStocks_84 : decode cX5_lookAtStocks 84 = .ok (.putfield 104, 3) := by decide +kernel
theorem dX5_lookAtStocks_87 : decode cX5_lookAtStocks 87 = .ok (.iinc 1 (-1), 3) := by decide +kernel
theorem dX5_lookAtStocks_90 : decode cX5_lookAtStocks 90 = .ok (.goto (-77), 3) := by decide +kernel
theorem dX5_lookAtStocks_93 : decode cX5_lookAtStocks 93 = .ok (.return_, 1) := by decide +kernel
theorem dX5_isHeir_0 : decode cX5_isHeir 0 = .ok (.aload_n 0, 1) := by decide +kernel
theorem dX5_isHeir_1 : decode cX5_isHeir 1 = .ok (.getfield 46, 3) := by decide +kernel
theorem dX5_isHeir_4 : decode cX5_isHeir 4 = .ok (.getfield 127, 3) := by decide +kernel
theorem dX5_isHeir_7 : decode cX5_isHeir 7 = .ok (.iload_n 1, 1) := by decide +kernel
theorem dX5_isHeir_8 : decode cX5_isHeir 8 = .ok (.baload, 1) := by decide +kernel
theorem dX5_isHeir_9 : decode cX5_isHeir 9 = .ok (.ifCond .eq 16, 3) := by decide +kernel
theorem dX5_isHeir_12 : decode cX5_isHeir 12 = .ok (.aload_n 0, 1) := by decide +kernel
theorem dX5_isHeir_13 : decode cX5_isHeir 13 = .ok (.getfield 9, 3) := by decide +kernel
theorem dX5_isHeir_16 : decode cX5_isHeir 16 = .ok (.iload_n 1, 1) := by decide +kernel
theorem dX5_isHeir_17 : decode cX5_isHeir 17 = .ok (.iaload, 1) := by decide +kernel
theorem dX5_isHeir_18 : decode cX5_isHeir 18 = .ok (.ifCond .le 7, 3) := by decide +kernel
theorem dX5_isHeir_21 : decode cX5_isHeir 21 = .ok (.iconst 1, 1) := by decide +kernel
theorem dX5_isHeir_22 : decode cX5_isHeir 22 = .ok (.goto 4, 3) := by decide +kernel
theorem dX5_isHeir_25 : decode cX5_isHeir 25 = .ok (.iconst 0, 1) := by decide +kernel
theorem dX5_isHeir_26 : decode cX5_isHeir 26 = .ok (.ireturn, 1) := by decide +kernel
theorem dX5_isLapsed_0 : decode cX5_isLapsed 0 = .ok (.aload_n 0, 1) := by decide +kernel
theorem dX5_isLapsed_1 : decode cX5_isLapsed 1 = .ok (.getfield 46, 3) := by decide +kernel
theorem dX5_isLapsed_4 : decode cX5_isLapsed 4 = .ok (.getfield 130, 3) := by decide +kernel
theorem dX5_isLapsed_7 : decode cX5_isLapsed 7 = .ok (.iload_n 1, 1) := by decide +kernel
theorem dX5_isLapsed_8 : decode cX5_isLapsed 8 = .ok (.iaload, 1) := by decide +kernel
theorem dX5_isLapsed_9 : decode cX5_isLapsed 9 = .ok (.istore_n 2, 1) := by decide +kernel
theorem dX5_isLapsed_10 : decode cX5_isLapsed 10 = .ok (.aload_n 0, 1) := by decide +kernel
theorem dX5_isLapsed_11 : decode cX5_isLapsed 11 = .ok (.getfield 50, 3) := by decide +kernel
theorem dX5_isLapsed_14 : decode cX5_isLapsed 14 = .ok (.iload_n 1, 1) := by decide +kernel
theorem dX5_isLapsed_15 : decode cX5_isLapsed 15 = .ok (.invokevirtual 133, 3) := by decide +kernel
theorem dX5_isLapsed_18 : decode cX5_isLapsed 18 = .ok (.ifCond .ne 35, 3) := by decide +kernel
theorem dX5_isLapsed_21 : decode cX5_isLapsed 21 = .ok (.aload_n 0, 1) := by decide +kernel
theorem dX5_isLapsed_22 : decode cX5_isLapsed 22 = .ok (.getfield 50, 3) := by decide +kernel
theorem dX5_isLapsed_25 : decode cX5_isLapsed 25 = .ok (.iload_n 2, 1) := by decide +kernel
theorem dX5_isLapsed_26 : decode cX5_isLapsed 26 = .ok (.invokevirtual 116, 3) := by decide +kernel
theorem dX5_isLapsed_29 : decode cX5_isLapsed 29 = .ok (.ifCond .eq 15, 3) := by decide +kernel
theorem dX5_isLapsed_32 : decode cX5_isLapsed 32 = .ok (.aload_n 0, 1) := by decide +kernel
theorem dX5_isLapsed_33 : decode cX5_isLapsed 33 = .ok (.getfield 46, 3) := by decide +kernel
theorem dX5_isLapsed_36 : decode cX5_isLapsed 36 = .ok (.getfield 136, 3) := by decide +kernel
theorem dX5_isLapsed_39 : decode cX5_isLapsed 39 = .ok (.iload_n 2, 1) := by decide +kernel
theorem dX5_isLapsed_40 : decode cX5_isLapsed 40 = .ok (.baload, 1) := by decide +kernel
theorem dX5_isLapsed_41 : decode cX5_isLapsed 41 = .ok (.ifCond .eq 12, 3) := by decide +kernel
theorem dX5_isLapsed_44 : decode cX5_isLapsed 44 = .ok (.aload_n 0, 1) := by decide +kernel
theorem dX5_isLapsed_45 : decode cX5_isLapsed 45 = .ok (.getfield 9, 3) := by decide +kernel
theorem dX5_isLapsed_48 : decode cX5_isLapsed 48 = .ok (.iload_n 2, 1) := by decide +kernel
theorem dX5_isLapsed_49 : decode cX5_isLapsed 49 = .ok (.iaload, 1) := by decide +kernel
theorem dX5_isLapsed_50 : decode cX5_isLapsed 50 = .ok (.ifCond .ne 7, 3) := by decide +kernel
theorem dX5_isLapsed_53 : decode cX5_isLapsed 53 = .ok (.iconst 1, 1) := by decide +kernel
theorem dX5_isLapsed_54 : decode cX5_isLapsed 54 = .ok (.goto 4, 3) := by decide +kernel
theorem dX5_isLapsed_57 : decode cX5_isLapsed 57 = .ok (.iconst 0, 1) := by decide +kernel
theorem dX5_isLapsed_58 : decode cX5_isLapsed 58 = .ok (.ireturn, 1) := by decide +kernel
theorem dX5_lookAtEstate_0 : decode cX5_lookAtEstate 0 = .ok (.aload_n 0, 1) := by decide +kernel
theorem dX5_lookAtEstate_1 : decode cX5_lookAtEstate 1 = .ok (.aload_n 0, 1) := by decide +kernel
theorem dX5_lookAtEstate_2 : decode cX5_lookAtEstate 2 = .ok (.getfield 50, 3) := by decide +kernel
theorem dX5_lookAtEstate_5 : decode cX5_lookAtEstate 5 = .ok (.iconst 0, 1) := by decide +kernel
theorem dX5_lookAtEstate_6 : decode cX5_lookAtEstate 6 = .ok (.invokevirtual 139, 3) := by decide +kernel
theorem dX5_lookAtEstate_9 : decode cX5_lookAtEstate 9 = .ok (.putfield 143, 3) := by decide +kernel
theorem dX5_lookAtEstate_12 : decode cX5_lookAtEstate 12 = .ok (.iconst 0, 1) := by decide +kernel
theorem dX5_lookAtEstate_13 : decode cX5_lookAtEstate 13 = .ok (.istore_n 1, 1) := by decide +kernel
theorem dX5_lookAtEstate_14 : decode cX5_lookAtEstate 14 = .ok (.iload_n 1, 1) := by decide +kernel
theorem dX5_lookAtEstate_15 : decode cX5_lookAtEstate 15 = .ok (.aload_n 0, 1) := by decide +kernel
theorem dX5_lookAtEstate_16 : decode cX5_lookAtEstate 16 = .ok (.getfield 46, 3) := by decide +kernel
theorem dX5_lookAtEstate_19 : decode cX5_lookAtEstate 19 = .ok (.getfield 146, 3) := by decide +kernel
theorem dX5_lookAtEstate_22 : decode cX5_lookAtEstate 22 = .ok (.getfield 111, 3) := by decide +kernel
theorem dX5_lookAtEstate_25 : decode cX5_lookAtEstate 25 = .ok (.if_icmp .ge 38, 3) := by decide +kernel
theorem dX5_lookAtEstate_28 : decode cX5_lookAtEstate 28 = .ok (.aload_n 0, 1) := by decide +kernel
theorem dX5_lookAtEstate_29 : decode cX5_lookAtEstate 29 = .ok (.getfield 19, 3) := by decide +kernel
theorem dX5_lookAtEstate_32 : decode cX5_lookAtEstate 32 = .ok (.iload_n 1, 1) := by decide +kernel
theorem dX5_lookAtEstate_33 : decode cX5_lookAtEstate 33 = .ok (.aload_n 0, 1) := by decide +kernel
theorem dX5_lookAtEstate_34 : decode cX5_lookAtEstate 34 = .ok (.getfield 50, 3) := by decide +kernel
theorem dX5_lookAtEstate_37 : decode cX5_lookAtEstate 37 = .ok (.iload_n 1, 1) := by decide +kernel
theorem dX5_lookAtEstate_38 : decode cX5_lookAtEstate 38 = .ok (.invokevirtual 149, 3) := by decide +kernel
theorem dX5_lookAtEstate_41 : decode cX5_lookAtEstate 41 = .ok (.iastore, 1) := by decide +kernel
theorem dX5_lookAtEstate_42 : decode cX5_lookAtEstate 42 = .ok (.aload_n 0, 1) := by decide +kernel
theorem dX5_lookAtEstate_43 : decode cX5_lookAtEstate 43 = .ok (.dup, 1) := by decide +kernel
theorem dX5_lookAtEstate_44 : decode cX5_lookAtEstate 44 = .ok (.getfield 143, 3) := by decide +kernel
theorem dX5_lookAtEstate_47 : decode cX5_lookAtEstate 47 = .ok (.aload_n 0, 1) := by decide +kernel
theorem dX5_lookAtEstate_48 : decode cX5_lookAtEstate 48 = .ok (.getfield 19, 3) := by decide +kernel
theorem dX5_lookAtEstate_51 : decode cX5_lookAtEstate 51 = .ok (.iload_n 1, 1) := by decide +kernel
theorem dX5_lookAtEstate_52 : decode cX5_lookAtEstate 52 = .ok (.iaload, 1) := by decide +kernel
theorem dX5_lookAtEstate_53 : decode cX5_lookAtEstate 53 = .ok (.iadd, 1) := by decide +kernel
theorem dX5_lookAtEstate_54 : decode cX5_lookAtEstate 54 = .ok (.putfield 143, 3) := by decide +kernel
theorem dX5_lookAtEstate_57 : decode cX5_lookAtEstate 57 = .ok (.iinc 1 1, 3) := by decide +kernel
theorem dX5_lookAtEstate_60 : decode cX5_lookAtEstate 60 = .ok (.goto (-46), 3) := by decide +kernel
theorem dX5_lookAtEstate_63 : decode cX5_lookAtEstate 63 = .ok (.aload_n 0, 1) := by decide +kernel
theorem dX5_lookAtEstate_64 : decode cX5_lookAtEstate 64 = .ok (.iconst 0, 1) := by decide +kernel
theorem dX5_lookAtEstate_65 : decode cX5_lookAtEstate 65 = .ok (.aload_n 0, 1) := by decide +kernel
theorem dX5_lookAtEstate_66 : decode cX5_lookAtEstate 66 = .ok (.getfield 143, 3) := by decide +kernel
theorem dX5_lookAtEstate_69 : decode cX5_lookAtEstate 69 = .ok (.aload_n 0, 1) := by decide +kernel
theorem dX5_lookAtEstate_70 : decode cX5_lookAtEstate 70 = .ok (.getfield 50, 3) := by decide +kernel
theorem dX5_lookAtEstate_73 : decode cX5_lookAtEstate 73 = .ok (.iconst 1, 1) := by decide +kernel
theorem dX5_lookAtEstate_74 : decode cX5_lookAtEstate 74 = .ok (.invokevirtual 139, 3) := by decide +kernel
theorem dX5_lookAtEstate_77 : decode cX5_lookAtEstate 77 = .ok (.isub, 1) := by decide +kernel
theorem dX5_lookAtEstate_78 : decode cX5_lookAtEstate 78 = .ok (.invokestatic 152, 3) := by decide +kernel
theorem dX5_lookAtEstate_81 : decode cX5_lookAtEstate 81 = .ok (.putfield 158, 3) := by decide +kernel
theorem dX5_lookAtEstate_84 : decode cX5_lookAtEstate 84 = .ok (.return_, 1) := by decide +kernel
theorem dX5_claim_0 : decode cX5_claim 0 = .ok (.aload_n 0, 1) := by decide +kernel
theorem dX5_claim_1 : decode cX5_claim 1 = .ok (.getfield 46, 3) := by decide +kernel
theorem dX5_claim_4 : decode cX5_claim 4 = .ok (.getfield 161, 3) := by decide +kernel
theorem dX5_claim_7 : decode cX5_claim 7 = .ok (.iload_n 1, 1) := by decide +kernel
theorem dX5_claim_8 : decode cX5_claim 8 = .ok (.iaload, 1) := by decide +kernel
theorem dX5_claim_9 : decode cX5_claim 9 = .ok (.istore_n 2, 1) := by decide +kernel
theorem dX5_claim_10 : decode cX5_claim 10 = .ok (.iload_n 2, 1) := by decide +kernel
theorem dX5_claim_11 : decode cX5_claim 11 = .ok (.ifCond .ne 20, 3) := by decide +kernel
theorem dX5_claim_14 : decode cX5_claim 14 = .ok (.aload_n 0, 1) := by decide +kernel
theorem dX5_claim_15 : decode cX5_claim 15 = .ok (.iload_n 1, 1) := by decide +kernel
theorem dX5_claim_16 : decode cX5_claim 16 = .ok (.aload_n 0, 1) := by decide +kernel
theorem dX5_claim_17 : decode cX5_claim 17 = .ok (.getfield 46, 3) := by decide +kernel
theorem dX5_claim_20 : decode cX5_claim 20 = .ok (.getfield 164, 3) := by decide +kernel
theorem dX5_claim_23 : decode cX5_claim 23 = .ok (.iload_n 1, 1) := by decide +kernel
theorem dX5_claim_24 : decode cX5_claim 24 = .ok (.iaload, 1) := by decide +kernel
theorem dX5_claim_25 : decode cX5_claim 25 = .ok (.invokevirtual 167, 3) := by decide +kernel
theorem dX5_claim_28 : decode cX5_claim 28 = .ok (.goto 55, 3) := by decide +kernel
theorem dX5_claim_31 : decode cX5_claim 31 = .ok (.iload_n 2, 1) := by decide +kernel
theorem dX5_claim_32 : decode cX5_claim 32 = .ok (.iconst 1, 1) := by decide +kernel
theorem dX5_claim_33 : decode cX5_claim 33 = .ok (.if_icmp .ne 31, 3) := by decide +kernel
theorem dX5_claim_36 : decode cX5_claim 36 = .ok (.aload_n 0, 1) := by decide +kernel
theorem dX5_claim_37 : decode cX5_claim 37 = .ok (.getfield 24, 3) := by decide +kernel
theorem dX5_claim_40 : decode cX5_claim 40 = .ok (.iload_n 1, 1) := by decide +kernel
theorem dX5_claim_41 : decode cX5_claim 41 = .ok (.aaload, 1) := by decide +kernel
theorem dX5_claim_42 : decode cX5_claim 42 = .ok (.aload_n 0, 1) := by decide +kernel
theorem dX5_claim_43 : decode cX5_claim 43 = .ok (.getfield 46, 3) := by decide +kernel
theorem dX5_claim_46 : decode cX5_claim 46 = .ok (.getfield 171, 3) := by decide +kernel
theorem dX5_claim_49 : decode cX5_claim 49 = .ok (.iload_n 1, 1) := by decide +kernel
theorem dX5_claim_50 : decode cX5_claim 50 = .ok (.iaload, 1) := by decide +kernel
theorem dX5_claim_51 : decode cX5_claim 51 = .ok (.aload_n 0, 1) := by decide +kernel
theorem dX5_claim_52 : decode cX5_claim 52 = .ok (.getfield 46, 3) := by decide +kernel
theorem dX5_claim_55 : decode cX5_claim 55 = .ok (.getfield 174, 3) := by decide +kernel
theorem dX5_claim_58 : decode cX5_claim 58 = .ok (.iload_n 1, 1) := by decide +kernel
theorem dX5_claim_59 : decode cX5_claim 59 = .ok (.iaload, 1) := by decide +kernel
theorem dX5_claim_60 : decode cX5_claim 60 = .ok (.iastore, 1) := by decide +kernel
theorem dX5_claim_61 : decode cX5_claim 61 = .ok (.goto 22, 3) := by decide +kernel
theorem dX5_claim_64 : decode cX5_claim 64 = .ok (.iload_n 2, 1) := by decide +kernel
theorem dX5_claim_65 : decode cX5_claim 65 = .ok (.iconst 2, 1) := by decide +kernel
theorem dX5_claim_66 : decode cX5_claim 66 = .ok (.if_icmp .ne 17, 3) := by decide +kernel
theorem dX5_claim_69 : decode cX5_claim 69 = .ok (.aload_n 0, 1) := by decide +kernel
theorem dX5_claim_70 : decode cX5_claim 70 = .ok (.iload_n 1, 1) := by decide +kernel
theorem dX5_claim_71 : decode cX5_claim 71 = .ok (.aload_n 0, 1) := by decide +kernel
theorem dX5_claim_72 : decode cX5_claim 72 = .ok (.getfield 46, 3) := by decide +kernel
theorem dX5_claim_75 : decode cX5_claim 75 = .ok (.getfield 164, 3) := by decide +kernel
theorem dX5_claim_78 : decode cX5_claim 78 = .ok (.iload_n 1, 1) := by decide +kernel
theorem dX5_claim_79 : decode cX5_claim 79 = .ok (.iaload, 1) := by decide +kernel
theorem dX5_claim_80 : decode cX5_claim 80 = .ok (.invokevirtual 177, 3) := by decide +kernel
theorem dX5_claim_83 : decode cX5_claim 83 = .ok (.return_, 1) := by decide +kernel
theorem dX5_claimThing_0 : decode cX5_claimThing 0 = .ok (.aload_n 0, 1) := by decide +kernel
theorem dX5_claimThing_1 : decode cX5_claimThing 1 = .ok (.getfield 50, 3) := by decide +kernel
theorem dX5_claimThing_4 : decode cX5_claimThing 4 = .ok (.iload_n 2, 1) := by decide +kernel
theorem dX5_claimThing_5 : decode cX5_claimThing 5 = .ok (.invokevirtual 149, 3) := by decide +kernel
theorem dX5_claimThing_8 : decode cX5_claimThing 8 = .ok (.istore_n 3, 1) := by decide +kernel
theorem dX5_claimThing_9 : decode cX5_claimThing 9 = .ok (.aload_n 0, 1) := by decide +kernel
theorem dX5_claimThing_10 : decode cX5_claimThing 10 = .ok (.getfield 24, 3) := by decide +kernel
theorem dX5_claimThing_13 : decode cX5_claimThing 13 = .ok (.iload_n 1, 1) := by decide +kernel
theorem dX5_claimThing_14 : decode cX5_claimThing 14 = .ok (.aaload, 1) := by decide +kernel
theorem dX5_claimThing_15 : decode cX5_claimThing 15 = .ok (.iconst 0, 1) := by decide +kernel
theorem dX5_claimThing_16 : decode cX5_claimThing 16 = .ok (.iload_n 3, 1) := by decide +kernel
theorem dX5_claimThing_17 : decode cX5_claimThing 17 = .ok (.iastore, 1) := by decide +kernel
theorem dX5_claimThing_18 : decode cX5_claimThing 18 = .ok (.aload_n 0, 1) := by decide +kernel
theorem dX5_claimThing_19 : decode cX5_claimThing 19 = .ok (.getfield 50, 3) := by decide +kernel
theorem dX5_claimThing_22 : decode cX5_claimThing 22 = .ok (.iconst 4, 1) := by decide +kernel
theorem dX5_claimThing_23 : decode cX5_claimThing 23 = .ok (.invokevirtual 139, 3) := by decide +kernel
theorem dX5_claimThing_26 : decode cX5_claimThing 26 = .ok (.iconst 1, 1) := by decide +kernel
theorem dX5_claimThing_27 : decode cX5_claimThing 27 = .ok (.if_icmp .ne 25, 3) := by decide +kernel
theorem dX5_claimThing_30 : decode cX5_claimThing 30 = .ok (.aload_n 0, 1) := by decide +kernel
theorem dX5_claimThing_31 : decode cX5_claimThing 31 = .ok (.getfield 24, 3) := by decide +kernel
theorem dX5_claimThing_34 : decode cX5_claimThing 34 = .ok (.iload_n 1, 1) := by decide +kernel
theorem dX5_claimThing_35 : decode cX5_claimThing 35 = .ok (.aaload, 1) := by decide +kernel
theorem dX5_claimThing_36 : decode cX5_claimThing 36 = .ok (.iconst 4, 1) := by decide +kernel
theorem dX5_claimThing_37 : decode cX5_claimThing 37 = .ok (.iconst 0, 1) := by decide +kernel
theorem dX5_claimThing_38 : decode cX5_claimThing 38 = .ok (.aload_n 0, 1) := by decide +kernel
theorem dX5_claimThing_39 : decode cX5_claimThing 39 = .ok (.getfield 50, 3) := by decide +kernel
theorem dX5_claimThing_42 : decode cX5_claimThing 42 = .ok (.iload_n 2, 1) := by decide +kernel
theorem dX5_claimThing_43 : decode cX5_claimThing 43 = .ok (.invokevirtual 180, 3) := by decide +kernel
theorem dX5_claimThing_46 : decode cX5_claimThing 46 = .ok (.iload_n 3, 1) := by decide +kernel
theorem dX5_claimThing_47 : decode cX5_claimThing 47 = .ok (.isub, 1) := by decide +kernel
theorem dX5_claimThing_48 : decode cX5_claimThing 48 = .ok (.invokestatic 152, 3) := by decide +kernel
theorem dX5_claimThing_51 : decode cX5_claimThing 51 = .ok (.iastore, 1) := by decide +kernel
theorem dX5_claimThing_52 : decode cX5_claimThing 52 = .ok (.return_, 1) := by decide +kernel
theorem dX5_claimOutOfFund_0 : decode cX5_claimOutOfFund 0 = .ok (.aload_n 0, 1) := by decide +kernel
theorem dX5_claimOutOfFund_1 : decode cX5_claimOutOfFund 1 = .ok (.getfield 46, 3) := by decide +kernel
theorem dX5_claimOutOfFund_4 : decode cX5_claimOutOfFund 4 = .ok (.getfield 174, 3) := by decide +kernel
theorem dX5_claimOutOfFund_7 : decode cX5_claimOutOfFund 7 = .ok (.iload_n 1, 1) := by decide +kernel
theorem dX5_claimOutOfFund_8 : decode cX5_claimOutOfFund 8 = .ok (.iaload, 1) := by decide +kernel
theorem dX5_claimOutOfFund_9 : decode cX5_claimOutOfFund 9 = .ok (.istore_n 3, 1) := by decide +kernel
theorem dX5_claimOutOfFund_10 : decode cX5_claimOutOfFund 10 = .ok (.iload_n 3, 1) := by decide +kernel
theorem dX5_claimOutOfFund_11 : decode cX5_claimOutOfFund 11 = .ok (.aload_n 0, 1) := by decide +kernel
theorem dX5_claimOutOfFund_12 : decode cX5_claimOutOfFund 12 = .ok (.getfield 19, 3) := by decide +kernel
theorem dX5_claimOutOfFund_15 : decode cX5_claimOutOfFund 15 = .ok (.iload_n 2, 1) := by decide +kernel
theorem dX5_claimOutOfFund_16 : decode cX5_claimOutOfFund 16 = .ok (.iaload, 1) := by decide +kernel
theorem dX5_claimOutOfFund_17 : decode cX5_claimOutOfFund 17 = .ok (.invokestatic 183, 3) := by decide +kernel
theorem dX5_claimOutOfFund_20 : decode cX5_claimOutOfFund 20 = .ok (.istore 4, 2) := by decide +kernel
theorem dX5_claimOutOfFund_22 : decode cX5_claimOutOfFund 22 = .ok (.aload_n 0, 1) := by decide +kernel
theorem dX5_claimOutOfFund_23 : decode cX5_claimOutOfFund 23 = .ok (.getfield 19, 3) := by decide +kernel
theorem dX5_claimOutOfFund_26 : decode cX5_claimOutOfFund 26 = .ok (.iload_n 2, 1) := by decide +kernel
theorem dX5_claimOutOfFund_27 : decode cX5_claimOutOfFund 27 = .ok (.dup2, 1) := by decide +kernel
theorem dX5_claimOutOfFund_28 : decode cX5_claimOutOfFund 28 = .ok (.iaload, 1) := by decide +kernel
theorem dX5_claimOutOfFund_29 : decode cX5_claimOutOfFund 29 = .ok (.iload 4, 2) := by decide +kernel
theorem dX5_claimOutOfFund_31 : decode cX5_claimOutOfFund 31 = .ok (.isub, 1) := by decide +kernel
theorem dX5_claimOutOfFund_32 : decode cX5_claimOutOfFund 32 = .ok (.iastore, 1) := by decide +kernel
theorem dX5_claimOutOfFund_33 : decode cX5_claimOutOfFund 33 = .ok (.aload_n 0, 1) := by decide +kernel
theorem dX5_claimOutOfFund_34 : decode cX5_claimOutOfFund 34 = .ok (.getfield 24, 3) := by decide +kernel
theorem dX5_claimOutOfFund_37 : decode cX5_claimOutOfFund 37 = .ok (.iload_n 1, 1) := by decide +kernel
theorem dX5_claimOutOfFund_38 : decode cX5_claimOutOfFund 38 = .ok (.aaload, 1) := by decide +kernel
theorem dX5_claimOutOfFund_39 : decode cX5_claimOutOfFund 39 = .ok (.iconst 0, 1) := by decide +kernel
theorem dX5_claimOutOfFund_40 : decode cX5_claimOutOfFund 40 = .ok (.iload 4, 2) := by decide +kernel
theorem dX5_claimOutOfFund_42 : decode cX5_claimOutOfFund 42 = .ok (.iastore, 1) := by decide +kernel
theorem dX5_claimOutOfFund_43 : decode cX5_claimOutOfFund 43 = .ok (.aload_n 0, 1) := by decide +kernel
theorem dX5_claimOutOfFund_44 : decode cX5_claimOutOfFund 44 = .ok (.getfield 24, 3) := by decide +kernel
theorem dX5_claimOutOfFund_47 : decode cX5_claimOutOfFund 47 = .ok (.iload_n 1, 1) := by decide +kernel
theorem dX5_claimOutOfFund_48 : decode cX5_claimOutOfFund 48 = .ok (.aaload, 1) := by decide +kernel
theorem dX5_claimOutOfFund_49 : decode cX5_claimOutOfFund 49 = .ok (.aload_n 0, 1) := by decide +kernel
theorem dX5_claimOutOfFund_50 : decode cX5_claimOutOfFund 50 = .ok (.getfield 46, 3) := by decide +kernel
theorem dX5_claimOutOfFund_53 : decode cX5_claimOutOfFund 53 = .ok (.getfield 171, 3) := by decide +kernel
theorem dX5_claimOutOfFund_56 : decode cX5_claimOutOfFund 56 = .ok (.iload_n 1, 1) := by decide +kernel
theorem dX5_claimOutOfFund_57 : decode cX5_claimOutOfFund 57 = .ok (.iaload, 1) := by decide +kernel
theorem dX5_claimOutOfFund_58 : decode cX5_claimOutOfFund 58 = .ok (.iload_n 3, 1) := by decide +kernel
theorem dX5_claimOutOfFund_59 : decode cX5_claimOutOfFund 59 = .ok (.iload 4, 2) := by decide +kernel
theorem dX5_claimOutOfFund_61 : decode cX5_claimOutOfFund 61 = .ok (.isub, 1) := by decide +kernel
theorem dX5_claimOutOfFund_62 : decode cX5_claimOutOfFund 62 = .ok (.iastore, 1) := by decide +kernel
theorem dX5_claimOutOfFund_63 : decode cX5_claimOutOfFund 63 = .ok (.return_, 1) := by decide +kernel
theorem dX5_payClasses_0 : decode cX5_payClasses 0 = .ok (.aload_n 0, 1) := by decide +kernel
theorem dX5_payClasses_1 : decode cX5_payClasses 1 = .ok (.getfield 158, 3) := by decide +kernel
theorem dX5_payClasses_4 : decode cX5_payClasses 4 = .ok (.istore_n 1, 1) := by decide +kernel
theorem dX5_payClasses_5 : decode cX5_payClasses 5 = .ok (.iconst 0, 1) := by decide +kernel
theorem dX5_payClasses_6 : decode cX5_payClasses 6 = .ok (.istore_n 2, 1) := by decide +kernel
theorem dX5_payClasses_7 : decode cX5_payClasses 7 = .ok (.iload_n 2, 1) := by decide +kernel
theorem dX5_payClasses_8 : decode cX5_payClasses 8 = .ok (.iconst 4, 1) := by decide +kernel
theorem dX5_payClasses_9 : decode cX5_payClasses 9 = .ok (.if_icmp .gt 16, 3) := by decide +kernel
theorem dX5_payClasses_12 : decode cX5_payClasses 12 = .ok (.aload_n 0, 1) := by decide +kernel
theorem dX5_payClasses_13 : decode cX5_payClasses 13 = .ok (.iload_n 2, 1) := by decide +kernel
theorem dX5_payClasses_14 : decode cX5_payClasses 14 = .ok (.iload_n 1, 1) := by decide +kernel
theorem dX5_payClasses_15 : decode cX5_payClasses 15 = .ok (.invokevirtual 186, 3) := by decide +kernel
theorem dX5_payClasses_18 : decode cX5_payClasses 18 = .ok (.istore_n 1, 1) := by decide +kernel
theorem dX5_payClasses_19 : decode cX5_payClasses 19 = .ok (.iinc 2 1, 3) := by decide +kernel
theorem dX5_payClasses_22 : decode cX5_payClasses 22 = .ok (.goto (-15), 3) := by decide +kernel
theorem dX5_payClasses_25 : decode cX5_payClasses 25 = .ok (.aload_n 0, 1) := by decide +kernel
theorem dX5_payClasses_26 : decode cX5_payClasses 26 = .ok (.invokevirtual 189, 3) := by decide +kernel
theorem dX5_payClasses_29 : decode cX5_payClasses 29 = .ok (.aload_n 0, 1) := by decide +kernel
theorem dX5_payClasses_30 : decode cX5_payClasses 30 = .ok (.aload_n 0, 1) := by decide +kernel
theorem dX5_payClasses_31 : decode cX5_payClasses 31 = .ok (.iconst 5, 1) := by decide +kernel
theorem dX5_payClasses_32 : decode cX5_payClasses 32 = .ok (.iload_n 1, 1) := by decide +kernel
theorem dX5_payClasses_33 : decode cX5_payClasses 33 = .ok (.invokevirtual 186, 3) := by decide +kernel
theorem dX5_payClasses_36 : decode cX5_payClasses 36 = .ok (.putfield 192, 3) := by decide +kernel
theorem dX5_payClasses_39 : decode cX5_payClasses 39 = .ok (.return_, 1) := by decide +kernel
theorem dX5_claimInterest_0 : decode cX5_claimInterest 0 = .ok (.iconst 0, 1) := by decide +kernel
theorem dX5_claimInterest_1 : decode cX5_claimInterest 1 = .ok (.aload_n 0, 1) := by decide +kernel
theorem dX5_claimInterest_2 : decode cX5_claimInterest 2 = .ok (.getfield 50, 3) := by decide +kernel
theorem dX5_claimInterest_5 : decode cX5_claimInterest 5 = .ok (.iconst 2, 1) := by decide +kernel
theorem dX5_claimInterest_6 : decode cX5_claimInterest 6 = .ok (.invokevirtual 139, 3) := by decide +kernel
theorem dX5_claimInterest_9 : decode cX5_claimInterest 9 = .ok (.bipush 12, 2) := by decide +kernel
theorem dX5_claimInterest_11 : decode cX5_claimInterest 11 = .ok (.isub, 1) := by decide +kernel
theorem dX5_claimInterest_12 : decode cX5_claimInterest 12 = .ok (.invokestatic 152, 3) := by decide +kernel
theorem dX5_claimInterest_15 : decode cX5_claimInterest 15 = .ok (.istore_n 1, 1) := by decide +kernel
theorem dX5_claimInterest_16 : decode cX5_claimInterest 16 = .ok (.iconst 0, 1) := by decide +kernel
theorem dX5_claimInterest_17 : decode cX5_claimInterest 17 = .ok (.istore_n 2, 1) := by decide +kernel
theorem dX5_claimInterest_18 : decode cX5_claimInterest 18 = .ok (.iload_n 2, 1) := by decide +kernel
theorem dX5_claimInterest_19 : decode cX5_claimInterest 19 = .ok (.aload_n 0, 1) := by decide +kernel
theorem dX5_claimInterest_20 : decode cX5_claimInterest 20 = .ok (.getfield 46, 3) := by decide +kernel
theorem dX5_claimInterest_23 : decode cX5_claimInterest 23 = .ok (.getfield 63, 3) := by decide +kernel
theorem dX5_claimInterest_26 : decode cX5_claimInterest 26 = .ok (.if_icmp .ge 45, 3) := by decide +kernel
theorem dX5_claimInterest_29 : decode cX5_claimInterest 29 = .ok (.aload_n 0, 1) := by decide +kernel
theorem dX5_claimInterest_30 : decode cX5_claimInterest 30 = .ok (.iload_n 2, 1) := by decide +kernel
theorem dX5_claimInterest_31 : decode cX5_claimInterest 31 = .ok (.iconst 1, 1) := by decide +kernel
theorem dX5_claimInterest_32 : decode cX5_claimInterest 32 = .ok (.iconst 4, 1) := by decide +kernel
theorem dX5_claimInterest_33 : decode cX5_claimInterest 33 = .ok (.invokevirtual 195, 3) := by decide +kernel
theorem dX5_claimInterest_36 : decode cX5_claimInterest 36 = .ok (.i2l, 1) := by decide +kernel
theorem dX5_claimInterest_37 : decode cX5_claimInterest 37 = .ok (.lstore_n 3, 1) := by decide +kernel
theorem dX5_claimInterest_38 : decode cX5_claimInterest 38 = .ok (.aload_n 0, 1) := by decide +kernel
theorem dX5_claimInterest_39 : decode cX5_claimInterest 39 = .ok (.getfield 24, 3) := by decide +kernel
theorem dX5_claimInterest_42 : decode cX5_claimInterest 42 = .ok (.iload_n 2, 1) := by decide +kernel
theorem dX5_claimInterest_43 : decode cX5_claimInterest 43 = .ok (.aaload, 1) := by decide +kernel
theorem dX5_claimInterest_44 : decode cX5_claimInterest 44 = .ok (.iconst 5, 1) := by decide +kernel
theorem dX5_claimInterest_45 : decode cX5_claimInterest 45 = .ok (.lload_n 3, 1) := by decide +kernel
theorem dX5_claimInterest_46 : decode cX5_claimInterest 46 = .ok (.aload_n 0, 1) := by decide +kernel
theorem dX5_claimInterest_47 : decode cX5_claimInterest 47 = .ok (.getfield 50, 3) := by decide +kernel
theorem dX5_claimInterest_50 : decode cX5_claimInterest 50 = .ok (.iconst 3, 1) := by decide +kernel
theorem dX5_claimInterest_51 : decode cX5_claimInterest 51 = .ok (.invokevirtual 139, 3) := by decide +kernel
theorem dX5_claimInterest_54 : decode cX5_claimInterest 54 = .ok (.i2l, 1) := by decide +kernel
theorem dX5_claimInterest_55 : decode cX5_claimInterest 55 = .ok (.lmul, 1) := by decide +kernel
theorem dX5_claimInterest_56 : decode cX5_claimInterest 56 = .ok (.iload_n 1, 1) := by decide +kernel
theorem dX5_claimInterest_57 : decode cX5_claimInterest 57 = .ok (.i2l, 1) := by decide +kernel
theorem dX5_claimInterest_58 : decode cX5_claimInterest 58 = .ok (.lmul, 1) := by decide +kernel
theorem dX5_claimInterest_59 : decode cX5_claimInterest 59 = .ok (.ldc2_w 199, 3) := by decide +kernel
theorem dX5_claimInterest_62 : decode cX5_claimInterest 62 = .ok (.ldiv, 1) := by decide +kernel
theorem dX5_claimInterest_63 : decode cX5_claimInterest 63 = .ok (.l2i, 1) := by decide +kernel
theorem dX5_claimInterest_64 : decode cX5_claimInterest 64 = .ok (.iastore, 1) := by decide +kernel
theorem dX5_claimInterest_65 : decode cX5_claimInterest 65 = .ok (.iinc 2 1, 3) := by decide +kernel
theorem dX5_claimInterest_68 : decode cX5_claimInterest 68 = .ok (.goto (-50), 3) := by decide +kernel
theorem dX5_claimInterest_71 : decode cX5_claimInterest 71 = .ok (.return_, 1) := by decide +kernel
theorem dX5_payClass_0 : decode cX5_payClass 0 = .ok (.aload_n 0, 1) := by decide +kernel
theorem dX5_payClass_1 : decode cX5_payClass 1 = .ok (.iload_n 1, 1) := by decide +kernel
theorem dX5_payClass_2 : decode cX5_payClass 2 = .ok (.invokevirtual 201, 3) := by decide +kernel
theorem dX5_payClass_5 : decode cX5_payClass 5 = .ok (.istore_n 3, 1) := by decide +kernel
theorem dX5_payClass_6 : decode cX5_payClass 6 = .ok (.iload_n 3, 1) := by decide +kernel
theorem dX5_payClass_7 : decode cX5_payClass 7 = .ok (.iload_n 2, 1) := by decide +kernel
theorem dX5_payClass_8 : decode cX5_payClass 8 = .ok (.if_icmp .gt 7, 3) := by decide +kernel
theorem dX5_payClass_11 : decode cX5_payClass 11 = .ok (.iconst 1, 1) := by decide +kernel
theorem dX5_payClass_12 : decode cX5_payClass 12 = .ok (.goto 4, 3) := by decide +kernel
theorem dX5_payClass_15 : decode cX5_payClass 15 = .ok (.iconst 0, 1) := by decide +kernel
theorem dX5_payClass_16 : decode cX5_payClass 16 = .ok (.istore 4, 2) := by decide +kernel
theorem dX5_payClass_18 : decode cX5_payClass 18 = .ok (.iload 4, 2) := by decide +kernel
theorem dX5_payClass_20 : decode cX5_payClass 20 = .ok (.ifCond .ne 16, 3) := by decide +kernel
theorem dX5_payClass_23 : decode cX5_payClass 23 = .ok (.aload_n 0, 1) := by decide +kernel
theorem dX5_payClass_24 : decode cX5_payClass 24 = .ok (.getfield 101, 3) := by decide +kernel
theorem dX5_payClass_27 : decode cX5_payClass 27 = .ok (.iconst (-1), 1) := by decide +kernel
theorem dX5_payClass_28 : decode cX5_payClass 28 = .ok (.if_icmp .ne 8, 3) := by decide +kernel
theorem dX5_payClass_31 : decode cX5_payClass 31 = .ok (.aload_n 0, 1) := by decide +kernel
theorem dX5_payClass_32 : decode cX5_payClass 32 = .ok (.iload_n 1, 1) := by decide +kernel
theorem dX5_payClass_33 : decode cX5_payClass 33 = .ok (.putfield 101, 3) := by decide +kernel
theorem dX5_payClass_36 : decode cX5_payClass 36 = .ok (.iconst 0, 1) := by decide +kernel
theorem dX5_payClass_37 : decode cX5_payClass 37 = .ok (.istore 5, 2) := by decide +kernel
theorem dX5_payClass_39 : decode cX5_payClass 39 = .ok (.iload 5, 2) := by decide +kernel
theorem dX5_payClass_41 : decode cX5_payClass 41 = .ok (.aload_n 0, 1) := by decide +kernel
theorem dX5_payClass_42 : decode cX5_payClass 42 = .ok (.getfield 46, 3) := by decide +kernel
theorem dX5_payClass_45 : decode cX5_payClass 45 = .ok (.getfield 63, 3) := by decide +kernel
theorem dX5_payClass_48 : decode cX5_payClass 48 = .ok (.if_icmp .ge 25, 3) := by decide +kernel
theorem dX5_payClass_51 : decode cX5_payClass 51 = .ok (.aload_n 0, 1) := by decide +kernel
theorem dX5_payClass_52 : decode cX5_payClass 52 = .ok (.getfield 36, 3) := by decide +kernel
theorem dX5_payClass_55 : decode cX5_payClass 55 = .ok (.iload 5, 2) := by decide +kernel
theorem dX5_payClass_57 : decode cX5_payClass 57 = .ok (.aload_n 0, 1) := by decide +kernel
theorem dX5_payClass_58 : decode cX5_payClass 58 = .ok (.getfield 24, 3) := by decide +kernel
theorem dX5_payClass_61 : decode cX5_payClass 61 = .ok (.iload 5, 2) := by decide +kernel
theorem dX5_payClass_63 : decode cX5_payClass 63 = .ok (.aaload, 1) := by decide +kernel
theorem dX5_payClass_64 : decode cX5_payClass 64 = .ok (.iload_n 1, 1) := by decide +kernel
theorem dX5_payClass_65 : decode cX5_payClass 65 = .ok (.iaload, 1) := by decide +kernel
theorem dX5_payClass_66 : decode cX5_payClass 66 = .ok (.iastore, 1) := by decide +kernel
theorem dX5_payClass_67 : decode cX5_payClass 67 = .ok (.iinc 5 1, 3) := by decide +kernel
theorem dX5_payClass_70 : decode cX5_payClass 70 = .ok (.goto (-31), 3) := by decide +kernel
theorem dX5_payClass_73 : decode cX5_payClass 73 = .ok (.aload_n 0, 1) := by decide +kernel
theorem dX5_payClass_74 : decode cX5_payClass 74 = .ok (.iload_n 1, 1) := by decide +kernel
theorem dX5_payClass_75 : decode cX5_payClass 75 = .ok (.iload 4, 2) := by decide +kernel
theorem dX5_payClass_77 : decode cX5_payClass 77 = .ok (.ifCond .eq 7, 3) := by decide +kernel
theorem dX5_payClass_80 : decode cX5_payClass 80 = .ok (.iload_n 3, 1) := by decide +kernel
theorem dX5_payClass_81 : decode cX5_payClass 81 = .ok (.goto 4, 3) := by decide +kernel
theorem dX5_payClass_84 : decode cX5_payClass 84 = .ok (.iload_n 2, 1) := by decide +kernel
theorem dX5_payClass_85 : decode cX5_payClass 85 = .ok (.invokevirtual 204, 3) := by decide +kernel
theorem dX5_payClass_88 : decode cX5_payClass 88 = .ok (.iload 4, 2) := by decide +kernel
theorem dX5_payClass_90 : decode cX5_payClass 90 = .ok (.ifCond .eq 9, 3) := by decide +kernel
theorem dX5_payClass_93 : decode cX5_payClass 93 = .ok (.iload_n 2, 1) := by decide +kernel
theorem dX5_payClass_94 : decode cX5_payClass 94 = .ok (.iload_n 3, 1) := by decide +kernel
theorem dX5_payClass_95 : decode cX5_payClass 95 = .ok (.isub, 1) := by decide +kernel
theorem dX5_payClass_96 : decode cX5_payClass 96 = .ok (.goto 4, 3) := by decide +kernel
theorem dX5_payClass_99 : decode cX5_payClass 99 = .ok (.iconst 0, 1) := by decide +kernel
theorem dX5_payClass_100 : decode cX5_payClass 100 = .ok (.ireturn, 1) := by decide +kernel
theorem dX5_partRest_0 : decode cX5_partRest 0 = .ok (.iconst 0, 1) := by decide +kernel
theorem dX5_partRest_1 : decode cX5_partRest 1 = .ok (.istore_n 1, 1) := by decide +kernel
theorem dX5_partRest_2 : decode cX5_partRest 2 = .ok (.iconst 0, 1) := by decide +kernel
theorem dX5_partRest_3 : decode cX5_partRest 3 = .ok (.istore_n 2, 1) := by decide +kernel
theorem dX5_partRest_4 : decode cX5_partRest 4 = .ok (.iload_n 2, 1) := by decide +kernel
theorem dX5_partRest_5 : decode cX5_partRest 5 = .ok (.aload_n 0, 1) := by decide +kernel
theorem dX5_partRest_6 : decode cX5_partRest 6 = .ok (.getfield 46, 3) := by decide +kernel
theorem dX5_partRest_9 : decode cX5_partRest 9 = .ok (.getfield 63, 3) := by decide +kernel
theorem dX5_partRest_12 : decode cX5_partRest 12 = .ok (.if_icmp .ge 59, 3) := by decide +kernel
theorem dX5_partRest_15 : decode cX5_partRest 15 = .ok (.aload_n 0, 1) := by decide +kernel
theorem dX5_partRest_16 : decode cX5_partRest 16 = .ok (.getfield 36, 3) := by decide +kernel
theorem dX5_partRest_19 : decode cX5_partRest 19 = .ok (.iload_n 2, 1) := by decide +kernel
theorem dX5_partRest_20 : decode cX5_partRest 20 = .ok (.aload_n 0, 1) := by decide +kernel
theorem dX5_partRest_21 : decode cX5_partRest 21 = .ok (.getfield 46, 3) := by decide +kernel
theorem dX5_partRest_24 : decode cX5_partRest 24 = .ok (.getfield 161, 3) := by decide +kernel
theorem dX5_partRest_27 : decode cX5_partRest 27 = .ok (.iload_n 2, 1) := by decide +kernel
theorem dX5_partRest_28 : decode cX5_partRest 28 = .ok (.iaload, 1) := by decide +kernel
theorem dX5_partRest_29 : decode cX5_partRest 29 = .ok (.iconst 3, 1) := by decide +kernel
theorem dX5_partRest_30 : decode cX5_partRest 30 = .ok (.if_icmp .ne 24, 3) := by decide +kernel
theorem dX5_partRest_33 : decode cX5_partRest 33 = .ok (.aload_n 0, 1) := by decide +kernel
theorem dX5_partRest_34 : decode cX5_partRest 34 = .ok (.getfield 15, 3) := by decide +kernel
theorem dX5_partRest_37 : decode cX5_partRest 37 = .ok (.iload_n 2, 1) := by decide +kernel
theorem dX5_partRest_38 : decode cX5_partRest 38 = .ok (.baload, 1) := by decide +kernel
theorem dX5_partRest_39 : decode cX5_partRest 39 = .ok (.ifCond .ne 15, 3) := by decide +kernel
theorem dX5_partRest_42 : decode cX5_partRest 42 = .ok (.aload_n 0, 1) := by decide +kernel
theorem dX5_partRest_43 : decode cX5_partRest 43 = .ok (.getfield 46, 3) := by decide +kernel
theorem dX5_partRest_46 : decode cX5_partRest 46 = .ok (.getfield 174, 3) := by decide +kernel
theorem dX5_partRest_49 : decode cX5_partRest 49 = .ok (.iload_n 2, 1) := by decide +kernel
theorem dX5_partRest_50 : decode cX5_partRest 50 = .ok (.iaload, 1) := by decide +kernel
theorem dX5_partRest_51 : decode cX5_partRest 51 = .ok (.goto 4, 3) := by decide +kernel
theorem dX5_partRest_54 : decode cX5_partRest 54 = .ok (.iconst 0, 1) := by decide +kernel
theorem dX5_partRest_55 : decode cX5_partRest 55 = .ok (.iastore, 1) := by decide +kernel
theorem dX5_partRest_56 : decode cX5_partRest 56 = .ok (.iload_n 1, 1) := by decide +kernel
theorem dX5_partRest_57 : decode cX5_partRest 57 = .ok (.aload_n 0, 1) := by decide +kernel
theorem dX5_partRest_58 : decode cX5_partRest 58 = .ok (.getfield 36, 3) := by decide +kernel
theorem dX5_partRest_61 : decode cX5_partRest 61 = .ok (.iload_n 2, 1) := by decide +kernel
theorem dX5_partRest_62 : decode cX5_partRest 62 = .ok (.iaload, 1) := by decide +kernel
theorem dX5_partRest_63 : decode cX5_partRest 63 = .ok (.iadd, 1) := by decide +kernel
theorem dX5_partRest_64 : decode cX5_partRest 64 = .ok (.istore_n 1, 1) := by decide +kernel
theorem dX5_partRest_65 : decode cX5_partRest 65 = .ok (.iinc 2 1, 3) := by decide +kernel
theorem dX5_partRest_68 : decode cX5_partRest 68 = .ok (.goto (-64), 3) := by decide +kernel
theorem dX5_partRest_71 : decode cX5_partRest 71 = .ok (.iload_n 1, 1) := by decide +kernel
theorem dX5_partRest_72 : decode cX5_partRest 72 = .ok (.ifCond .ne 42, 3) := by decide +kernel
theorem dX5_partRest_75 : decode cX5_partRest 75 = .ok (.aload_n 0, 1) := by decide +kernel
theorem dX5_partRest_76 : decode cX5_partRest 76 = .ok (.aload_n 0, 1) := by decide +kernel
theorem dX5_partRest_77 : decode cX5_partRest 77 = .ok (.getfield 104, 3) := by decide +kernel
theorem dX5_partRest_80 : decode cX5_partRest 80 = .ok (.ifCond .le 10, 3) := by decide +kernel
theorem dX5_partRest_83 : decode cX5_partRest 83 = .ok (.aload_n 0, 1) := by decide +kernel
theorem dX5_partRest_84 : decode cX5_partRest 84 = .ok (.getfield 192, 3) := by decide +kernel
theorem dX5_partRest_87 : decode cX5_partRest 87 = .ok (.goto 4, 3) := by decide +kernel
theorem dX5_partRest_90 : decode cX5_partRest 90 = .ok (.iconst 0, 1) := by decide +kernel
theorem dX5_partRest_91 : decode cX5_partRest 91 = .ok (.putfield 95, 3) := by decide +kernel
theorem dX5_partRest_94 : decode cX5_partRest 94 = .ok (.aload_n 0, 1) := by decide +kernel
theorem dX5_partRest_95 : decode cX5_partRest 95 = .ok (.aload_n 0, 1) := by decide +kernel
theorem dX5_partRest_96 : decode cX5_partRest 96 = .ok (.getfield 104, 3) := by decide +kernel
theorem dX5_partRest_99 : decode cX5_partRest 99 = .ok (.ifCond .le 7, 3) := by decide +kernel
theorem dX5_partRest_102 : decode cX5_partRest 102 = .ok (.iconst 0, 1) := by decide +kernel
theorem dX5_partRest_103 : decode cX5_partRest 103 = .ok (.goto 7, 3) := by decide +kernel
theorem dX5_partRest_106 : decode cX5_partRest 106 = .ok (.aload_n 0, 1) := by decide +kernel
theorem dX5_partRest_107 : decode cX5_partRest 107 = .ok (.getfield 192, 3) := by decide +kernel
theorem dX5_partRest_110 : decode cX5_partRest 110 = .ok (.putfield 98, 3) := by decide +kernel
theorem dX5_partRest_113 : decode cX5_partRest 113 = .ok (.return_, 1) := by decide +kernel
theorem dX5_partRest_114 : decode cX5_partRest 114 = .ok (.aload_n 0, 1) := by decide +kernel
theorem dX5_partRest_115 : decode cX5_partRest 115 = .ok (.bipush 6, 2) := by decide +kernel
theorem dX5_partRest_117 : decode cX5_partRest 117 = .ok (.aload_n 0, 1) := by decide +kernel
theorem dX5_partRest_118 : decode cX5_partRest 118 = .ok (.getfield 192, 3) := by decide +kernel
theorem dX5_partRest_121 : decode cX5_partRest 121 = .ok (.invokevirtual 204, 3) := by decide +kernel
theorem dX5_partRest_124 : decode cX5_partRest 124 = .ok (.iconst 0, 1) := by decide +kernel
theorem dX5_partRest_125 : decode cX5_partRest 125 = .ok (.istore_n 2, 1) := by decide +kernel
theorem dX5_partRest_126 : decode cX5_partRest 126 = .ok (.iload_n 2, 1) := by decide +kernel
theorem dX5_partRest_127 : decode cX5_partRest 127 = .ok (.aload_n 0, 1) := by decide +kernel
theorem dX5_partRest_128 : decode cX5_partRest 128 = .ok (.getfield 46, 3) := by decide +kernel
theorem dX5_partRest_131 : decode cX5_partRest 131 = .ok (.getfield 63, 3) := by decide +kernel
theorem dX5_partRest_134 : decode cX5_partRest 134 = .ok (.if_icmp .ge 27, 3) := by decide +kernel
theorem dX5_partRest_137 : decode cX5_partRest 137 = .ok (.aload_n 0, 1) := by decide +kernel
theorem dX5_partRest_138 : decode cX5_partRest 138 = .ok (.getfield 24, 3) := by decide +kernel
theorem dX5_partRest_141 : decode cX5_partRest 141 = .ok (.iload_n 2, 1) := by decide +kernel
theorem dX5_partRest_142 : decode cX5_partRest 142 = .ok (.aaload, 1) := by decide +kernel
theorem dX5_partRest_143 : decode cX5_partRest 143 = .ok (.bipush 6, 2) := by decide +kernel
theorem dX5_partRest_145 : decode cX5_partRest 145 = .ok (.aload_n 0, 1) := by decide +kernel
theorem dX5_partRest_146 : decode cX5_partRest 146 = .ok (.getfield 27, 3) := by decide +kernel
theorem dX5_partRest_149 : decode cX5_partRest 149 = .ok (.iload_n 2, 1) := by decide +kernel
theorem dX5_partRest_150 : decode cX5_partRest 150 = .ok (.aaload, 1) := by decide +kernel
theorem dX5_partRest_151 : decode cX5_partRest 151 = .ok (.bipush 6, 2) := by decide +kernel
theorem dX5_partRest_153 : decode cX5_partRest 153 = .ok (.iaload, 1) := by decide +kernel
theorem dX5_partRest_154 : decode cX5_partRest 154 = .ok (.iastore, 1) := by decide +kernel
theorem dX5_partRest_155 : decode cX5_partRest 155 = .ok (.iinc 2 1, 3) := by decide +kernel
theorem dX5_partRest_158 : decode cX5_partRest 158 = .ok (.goto (-32), 3) := by decide +kernel
theorem dX5_partRest_161 : decode cX5_partRest 161 = .ok (.return_, 1) := by decide +kernel
theorem dX5_partByWeights_0 : decode cX5_partByWeights 0 = .ok (.lconst 0, 1) := by decide +kernel
theorem dX5_partByWeights_1 : decode cX5_partByWeights 1 = .ok (.lstore_n 3, 1) := by decide +kernel
theorem dX5_partByWeights_2 : decode cX5_partByWeights 2 = .ok (.iconst 0, 1) := by decide +kernel
theorem dX5_partByWeights_3 : decode cX5_partByWeights 3 = .ok (.istore 5, 2) := by decide +kernel
theorem dX5_partByWeights_5 : decode cX5_partByWeights 5 = .ok (.iload 5, 2) := by decide +kernel
theorem dX5_partByWeights_7 : decode cX5_partByWeights 7 = .ok (.aload_n 0, 1) := by decide +kernel
theorem dX5_partByWeights_8 : decode cX5_partByWeights 8 = .ok (.getfield 46, 3) := by decide +kernel
theorem dX5_partByWeights_11 : decode cX5_partByWeights 11 = .ok (.getfield 63, 3) := by decide +kernel
theorem dX5_partByWeights_14 : decode cX5_partByWeights 14 = .ok (.if_icmp .ge 20, 3) := by decide +kernel
theorem dX5_partByWeights_17 : decode cX5_partByWeights 17 = .ok (.lload_n 3, 1) := by decide +kernel
theorem dX5_partByWeights_18 : decode cX5_partByWeights 18 = .ok (.aload_n 0, 1) := by decide +kernel
theorem dX5_partByWeights_19 : decode cX5_partByWeights 19 = .ok (.getfield 36, 3) := by decide +kernel
theorem dX5_partByWeights_22 : decode cX5_partByWeights 22 = .ok (.iload 5, 2) := by decide +kernel
theorem dX5_partByWeights_24 : decode cX5_partByWeights 24 = .ok (.iaload, 1) := by decide +kernel
theorem dX5_partByWeights_25 : decode cX5_partByWeights 25 = .ok (.i2l, 1) := by decide +kernel
theorem dX5_partByWeights_26 : decode cX5_partByWeights 26 = .ok (.ladd, 1) := by decide +kernel
theorem dX5_partByWeights_27 : decode cX5_partByWeights 27 = .ok (.lstore_n 3, 1) := by decide +kernel
theorem dX5_partByWeights_28 : decode cX5_partByWeights 28 = .ok (.iinc 5 1, 3) := by decide +kernel
theorem dX5_partByWeights_31 : decode cX5_partByWeights 31 = .ok (.goto (-26), 3) := by decide +kernel
theorem dX5_partByWeights_34 : decode cX5_partByWeights 34 = .ok (.lload_n 3, 1) := by decide +kernel
theorem dX5_partByWeights_35 : decode cX5_partByWeights 35 = .ok (.lconst 0, 1) := by decide +kernel
theorem dX5_partByWeights_36 : decode cX5_partByWeights 36 = .ok (.lcmp, 1) := by decide +kernel
theorem dX5_partByWeights_37 : decode cX5_partByWeights 37 = .ok (.ifCond .ne 4, 3) := by decide +kernel
theorem dX5_partByWeights_40 : decode cX5_partByWeights 40 = .ok (.return_, 1) := by decide +kernel
theorem dX5_partByWeights_41 : decode cX5_partByWeights 41 = .ok (.iload_n 2, 1) := by decide +kernel
theorem dX5_partByWeights_42 : decode cX5_partByWeights 42 = .ok (.istore 5, 2) := by decide +kernel
theorem dX5_partByWeights_44 : decode cX5_partByWeights 44 = .ok (.iconst 0, 1) := by decide +kernel
theorem dX5_partByWeights_45 : decode cX5_partByWeights 45 = .ok (.istore 6, 2) := by decide +kernel
theorem dX5_partByWeights_47 : decode cX5_partByWeights 47 = .ok (.iload 6, 2) := by decide +kernel

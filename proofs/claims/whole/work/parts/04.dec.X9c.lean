theorem dX9_living_21 : decode cX9_living 21 = .ok (.iconst 0, 1) := by decide +kernel
theorem dX9_living_22 : decode cX9_living 22 = .ok (.goto 4, 3) := by decide +kernel
theorem dX9_living_25 : decode cX9_living 25 = .ok (.iconst 1, 1) := by decide +kernel
theorem dX9_living_26 : decode cX9_living 26 = .ok (.iadd, 1) := by decide +kernel
theorem dX9_living_27 : decode cX9_living 27 = .ok (.istore_n 1, 1) := by decide +kernel
theorem dX9_living_28 : decode cX9_living 28 = .ok (.iinc 2 1, 3) := by decide +kernel
theorem dX9_living_31 : decode cX9_living 31 = .ok (.goto (-27), 3) := by decide +kernel
theorem dX9_living_34 : decode cX9_living 34 = .ok (.iload_n 1, 1) := by decide +kernel
theorem dX9_living_35 : decode cX9_living 35 = .ok (.ireturn, 1) := by decide +kernel
theorem dX9_die_0 : decode cX9_die 0 = .ok (.aload_n 0, 1) := by decide +kernel
theorem dX9_die_1 : decode cX9_die 1 = .ok (.aload_n 0, 1) := by decide +kernel
theorem dX9_die_2 : decode cX9_die 2 = .ok (.iload_n 1, 1) := by decide +kernel
theorem dX9_die_3 : decode cX9_die 3 = .ok (.invokevirtual 290, 3) := by decide +kernel
theorem dX9_die_6 : decode cX9_die 6 = .ok (.ifCond .ne 7, 3) := by decide +kernel
theorem dX9_die_9 : decode cX9_die 9 = .ok (.iconst 1, 1) := by decide +kernel
theorem dX9_die_10 : decode cX9_die 10 = .ok (.goto 16, 3) := by decide +kernel
theorem dX9_die_13 : decode cX9_die 13 = .ok (.aload_n 0, 1) := by decide +kernel
theorem dX9_die_14 : decode cX9_die 14 = .ok (.iload_n 1, 1) := by decide +kernel
theorem dX9_die_15 : decode cX9_die 15 = .ok (.invokevirtual 308, 3) := by decide +kernel
theorem dX9_die_18 : decode cX9_die 18 = .ok (.ifCond .eq 7, 3) := by decide +kernel
theorem dX9_die_21 : decode cX9_die 21 = .ok (.iconst 2, 1) := by decide +kernel
theorem dX9_die_22 : decode cX9_die 22 = .ok (.goto 4, 3) := by decide +kernel
theorem dX9_die_25 : decode cX9_die 25 = .ok (.iconst 0, 1) := by decide +kernel
theorem dX9_die_26 : decode cX9_die 26 = .ok (.putfield 98, 3) := by decide +kernel
theorem dX9_die_29 : decode cX9_die 29 = .ok (.aload_n 0, 1) := by decide +kernel
theorem dX9_die_30 : decode cX9_die 30 = .ok (.getfield 98, 3) := by decide +kernel
theorem dX9_die_33 : decode cX9_die 33 = .ok (.ifCond .le 5, 3) := by decide +kernel
theorem dX9_die_36 : decode cX9_die 36 = .ok (.iconst 0, 1) := by decide +kernel
theorem dX9_die_37 : decode cX9_die 37 = .ok (.ireturn, 1) := by decide +kernel
theorem dX9_die_38 : decode cX9_die 38 = .ok (.aload_n 0, 1) := by decide +kernel
theorem dX9_die_39 : decode cX9_die 39 = .ok (.invokevirtual 334, 3) := by decide +kernel
theorem dX9_die_42 : decode cX9_die 42 = .ok (.aload_n 0, 1) := by decide +kernel
theorem dX9_die_43 : decode cX9_die 43 = .ok (.getfield 7, 3) := by decide +kernel
theorem dX9_die_46 : decode cX9_die 46 = .ok (.bipush 32, 2) := by decide +kernel
theorem dX9_die_48 : decode cX9_die 48 = .ok (.iload_n 1, 1) := by decide +kernel
theorem dX9_die_49 : decode cX9_die 49 = .ok (.iadd, 1) := by decide +kernel
theorem dX9_die_50 : decode cX9_die 50 = .ok (.iconst 1, 1) := by decide +kernel
theorem dX9_die_51 : decode cX9_die 51 = .ok (.iastore, 1) := by decide +kernel
theorem dX9_die_52 : decode cX9_die 52 = .ok (.aload_n 0, 1) := by decide +kernel
theorem dX9_die_53 : decode cX9_die 53 = .ok (.invokevirtual 341, 3) := by decide +kernel
theorem dX9_die_56 : decode cX9_die 56 = .ok (.ireturn, 1) := by decide +kernel
theorem dX9_renounce_0 : decode cX9_renounce 0 = .ok (.aload_n 0, 1) := by decide +kernel
theorem dX9_renounce_1 : decode cX9_renounce 1 = .ok (.aload_n 0, 1) := by decide +kernel
theorem dX9_renounce_2 : decode cX9_renounce 2 = .ok (.iload_n 1, 1) := by decide +kernel
theorem dX9_renounce_3 : decode cX9_renounce 3 = .ok (.invokevirtual 319, 3) := by decide +kernel
theorem dX9_renounce_6 : decode cX9_renounce 6 = .ok (.ifCond .eq 7, 3) := by decide +kernel
theorem dX9_renounce_9 : decode cX9_renounce 9 = .ok (.iconst 0, 1) := by decide +kernel
theorem dX9_renounce_10 : decode cX9_renounce 10 = .ok (.goto 4, 3) := by decide +kernel
theorem dX9_renounce_13 : decode cX9_renounce 13 = .ok (.iconst 1, 1) := by decide +kernel
theorem dX9_renounce_14 : decode cX9_renounce 14 = .ok (.putfield 98, 3) := by decide +kernel
theorem dX9_renounce_17 : decode cX9_renounce 17 = .ok (.aload_n 0, 1) := by decide +kernel
theorem dX9_renounce_18 : decode cX9_renounce 18 = .ok (.getfield 98, 3) := by decide +kernel
theorem dX9_renounce_21 : decode cX9_renounce 21 = .ok (.ifCond .le 5, 3) := by decide +kernel
theorem dX9_renounce_24 : decode cX9_renounce 24 = .ok (.iconst 0, 1) := by decide +kernel
theorem dX9_renounce_25 : decode cX9_renounce 25 = .ok (.ireturn, 1) := by decide +kernel
theorem dX9_renounce_26 : decode cX9_renounce 26 = .ok (.aload_n 0, 1) := by decide +kernel
theorem dX9_renounce_27 : decode cX9_renounce 27 = .ok (.invokevirtual 334, 3) := by decide +kernel
theorem dX9_renounce_30 : decode cX9_renounce 30 = .ok (.aload_n 0, 1) := by decide +kernel
theorem dX9_renounce_31 : decode cX9_renounce 31 = .ok (.getfield 7, 3) := by decide +kernel
theorem dX9_renounce_34 : decode cX9_renounce 34 = .ok (.bipush 44, 2) := by decide +kernel
theorem dX9_renounce_36 : decode cX9_renounce 36 = .ok (.iload_n 1, 1) := by decide +kernel
theorem dX9_renounce_37 : decode cX9_renounce 37 = .ok (.iadd, 1) := by decide +kernel
theorem dX9_renounce_38 : decode cX9_renounce 38 = .ok (.iaload, 1) := by decide +kernel
theorem dX9_renounce_39 : decode cX9_renounce 39 = .ok (.iconst 1, 1) := by decide +kernel
theorem dX9_renounce_40 : decode cX9_renounce 40 = .ok (.if_icmp .ne 7, 3) := by decide +kernel
theorem dX9_renounce_43 : decode cX9_renounce 43 = .ok (.iconst 1, 1) := by decide +kernel
theorem dX9_renounce_44 : decode cX9_renounce 44 = .ok (.goto 4, 3) := by decide +kernel
theorem dX9_renounce_47 : decode cX9_renounce 47 = .ok (.iconst 0, 1) := by decide +kernel
theorem dX9_renounce_48 : decode cX9_renounce 48 = .ok (.istore_n 3, 1) := by decide +kernel
theorem dX9_renounce_49 : decode cX9_renounce 49 = .ok (.aload_n 0, 1) := by decide +kernel
theorem dX9_renounce_50 : decode cX9_renounce 50 = .ok (.getfield 7, 3) := by decide +kernel
theorem dX9_renounce_53 : decode cX9_renounce 53 = .ok (.bipush 44, 2) := by decide +kernel
theorem dX9_renounce_55 : decode cX9_renounce 55 = .ok (.iload_n 1, 1) := by decide +kernel
theorem dX9_renounce_56 : decode cX9_renounce 56 = .ok (.iadd, 1) := by decide +kernel
theorem dX9_renounce_57 : decode cX9_renounce 57 = .ok (.iload_n 2, 1) := by decide +kernel
theorem dX9_renounce_58 : decode cX9_renounce 58 = .ok (.ifCond .eq 7, 3) := by decide +kernel
theorem dX9_renounce_61 : decode cX9_renounce 61 = .ok (.iconst 1, 1) := by decide +kernel
theorem dX9_renounce_62 : decode cX9_renounce 62 = .ok (.goto 4, 3) := by decide +kernel
theorem dX9_renounce_65 : decode cX9_renounce 65 = .ok (.iconst 0, 1) := by decide +kernel
theorem dX9_renounce_66 : decode cX9_renounce 66 = .ok (.iastore, 1) := by decide +kernel
theorem dX9_renounce_67 : decode cX9_renounce 67 = .ok (.iload_n 3, 1) := by decide +kernel
theorem dX9_renounce_68 : decode cX9_renounce 68 = .ok (.ireturn, 1) := by decide +kernel
theorem dX9_set_0 : decode cX9_set 0 = .ok (.aload_n 0, 1) := by decide +kernel
theorem dX9_set_1 : decode cX9_set 1 = .ok (.iload_n 1, 1) := by decide +kernel
theorem dX9_set_2 : decode cX9_set 2 = .ok (.i2l, 1) := by decide +kernel
theorem dX9_set_3 : decode cX9_set 3 = .ok (.lconst 0, 1) := by decide +kernel
theorem dX9_set_4 : decode cX9_set 4 = .ok (.ldc2_w 303, 3) := by decide +kernel
theorem dX9_set_7 : decode cX9_set 7 = .ok (.invokestatic 143, 3) := by decide +kernel
theorem dX9_set_10 : decode cX9_set 10 = .ok (.ifCond .ne 7, 3) := by decide +kernel
theorem dX9_set_13 : decode cX9_set 13 = .ok (.iconst 1, 1) := by decide +kernel
theorem dX9_set_14 : decode cX9_set 14 = .ok (.goto 51, 3) := by decide +kernel
theorem dX9_set_17 : decode cX9_set 17 = .ok (.iload_n 2, 1) := by decide +kernel
theorem dX9_set_18 : decode cX9_set 18 = .ok (.i2l, 1) := by decide +kernel
theorem dX9_set_19 : decode cX9_set 19 = .ok (.lconst 0, 1) := by decide +kernel
theorem dX9_set_20 : decode cX9_set 20 = .ok (.iload_n 1, 1) := by decide +kernel
theorem dX9_set_21 : decode cX9_set 21 = .ok (.iconst 2, 1) := by decide +kernel
theorem dX9_set_22 : decode cX9_set 22 = .ok (.if_icmp .ge 9, 3) := by decide +kernel
theorem dX9_set_25 : decode cX9_set 25 = .ok (.ldc2_w 344, 3) := by decide +kernel
theorem dX9_set_28 : decode cX9_set 28 = .ok (.goto 26, 3) := by decide +kernel
theorem dX9_set_31 : decode cX9_set 31 = .ok (.iload_n 1, 1) := by decide +kernel
theorem dX9_set_32 : decode cX9_set 32 = .ok (.iconst 2, 1) := by decide +kernel
theorem dX9_set_33 : decode cX9_set 33 = .ok (.if_icmp .ne 9, 3) := by decide +kernel
theorem dX9_set_36 : decode cX9_set 36 = .ok (.ldc2_w 346, 3) := by decide +kernel
theorem dX9_set_39 : decode cX9_set 39 = .ok (.goto 15, 3) := by decide +kernel
theorem dX9_set_42 : decode cX9_set 42 = .ok (.iload_n 1, 1) := by decide +kernel
theorem dX9_set_43 : decode cX9_set 43 = .ok (.iconst 3, 1) := by decide +kernel
theorem dX9_set_44 : decode cX9_set 44 = .ok (.if_icmp .ne 9, 3) := by decide +kernel
theorem dX9_set_47 : decode cX9_set 47 = .ok (.ldc2_w 348, 3) := by decide +kernel
theorem dX9_set_50 : decode cX9_set 50 = .ok (.goto 4, 3) := by decide +kernel
theorem dX9_set_53 : decode cX9_set 53 = .ok (.lconst 1, 1) := by decide +kernel
theorem dX9_set_54 : decode cX9_set 54 = .ok (.invokestatic 143, 3) := by decide +kernel
theorem dX9_set_57 : decode cX9_set 57 = .ok (.ifCond .eq 7, 3) := by decide +kernel
theorem dX9_set_60 : decode cX9_set 60 = .ok (.iconst 0, 1) := by decide +kernel
theorem dX9_set_61 : decode cX9_set 61 = .ok (.goto 4, 3) := by decide +kernel
theorem dX9_set_64 : decode cX9_set 64 = .ok (.iconst 2, 1) := by decide +kernel
theorem dX9_set_65 : decode cX9_set 65 = .ok (.putfield 98, 3) := by decide +kernel
theorem dX9_set_68 : decode cX9_set 68 = .ok (.aload_n 0, 1) := by decide +kernel
theorem dX9_set_69 : decode cX9_set 69 = .ok (.getfield 98, 3) := by decide +kernel
theorem dX9_set_72 : decode cX9_set 72 = .ok (.ifCond .le 5, 3) := by decide +kernel
theorem dX9_set_75 : decode cX9_set 75 = .ok (.iconst 0, 1) := by decide +kernel
theorem dX9_set_76 : decode cX9_set 76 = .ok (.ireturn, 1) := by decide +kernel
theorem dX9_set_77 : decode cX9_set 77 = .ok (.aload_n 0, 1) := by decide +kernel
theorem dX9_set_78 : decode cX9_set 78 = .ok (.invokevirtual 334, 3) := by decide +kernel
theorem dX9_set_81 : decode cX9_set 81 = .ok (.aload_n 0, 1) := by decide +kernel
theorem dX9_set_82 : decode cX9_set 82 = .ok (.getfield 7, 3) := by decide +kernel
theorem dX9_set_85 : decode cX9_set 85 = .ok (.bipush 56, 2) := by decide +kernel
theorem dX9_set_87 : decode cX9_set 87 = .ok (.iload_n 1, 1) := by decide +kernel
theorem dX9_set_88 : decode cX9_set 88 = .ok (.iadd, 1) := by decide +kernel
theorem dX9_set_89 : decode cX9_set 89 = .ok (.iaload, 1) := by decide +kernel
theorem dX9_set_90 : decode cX9_set 90 = .ok (.istore_n 3, 1) := by decide +kernel
theorem dX9_set_91 : decode cX9_set 91 = .ok (.aload_n 0, 1) := by decide +kernel
theorem dX9_set_92 : decode cX9_set 92 = .ok (.getfield 7, 3) := by decide +kernel
theorem dX9_set_95 : decode cX9_set 95 = .ok (.bipush 56, 2) := by decide +kernel
theorem dX9_set_97 : decode cX9_set 97 = .ok (.iload_n 1, 1) := by decide +kernel
theorem dX9_set_98 : decode cX9_set 98 = .ok (.iadd, 1) := by decide +kernel
theorem dX9_set_99 : decode cX9_set 99 = .ok (.iload_n 2, 1) := by decide +kernel
theorem dX9_set_100 : decode cX9_set 100 = .ok (.iastore, 1) := by decide +kernel
theorem dX9_set_101 : decode cX9_set 101 = .ok (.iload_n 3, 1) := by decide +kernel
theorem dX9_set_102 : decode cX9_set 102 = .ok (.ireturn, 1) := by decide +kernel
theorem dX9_undo_0 : decode cX9_undo 0 = .ok (.aload_n 0, 1) := by decide +kernel
theorem dX9_undo_1 : decode cX9_undo 1 = .ok (.iconst 0, 1) := by decide +kernel
theorem dX9_undo_2 : decode cX9_undo 2 = .ok (.putfield 98, 3) := by decide +kernel
theorem dX9_undo_5 : decode cX9_undo 5 = .ok (.aload_n 0, 1) := by decide +kernel
theorem dX9_undo_6 : decode cX9_undo 6 = .ok (.getfield 284, 3) := by decide +kernel
theorem dX9_undo_9 : decode cX9_undo 9 = .ok (.ifCond .ne 5, 3) := by decide +kernel
theorem dX9_undo_12 : decode cX9_undo 12 = .ok (.iconst (-1), 1) := by decide +kernel
theorem dX9_undo_13 : decode cX9_undo 13 = .ok (.ireturn, 1) := by decide +kernel
theorem dX9_undo_14 : decode cX9_undo 14 = .ok (.aload_n 0, 1) := by decide +kernel
theorem dX9_undo_15 : decode cX9_undo 15 = .ok (.dup, 1) := by decide +kernel
theorem dX9_undo_16 : decode cX9_undo 16 = .ok (.getfield 284, 3) := by decide +kernel
theorem dX9_undo_19 : decode cX9_undo 19 = .ok (.iconst 1, 1) := by decide +kernel
theorem dX9_undo_20 : decode cX9_undo 20 = .ok (.isub, 1) := by decide +kernel
theorem dX9_undo_21 : decode cX9_undo 21 = .ok (.putfield 284, 3) := by decide +kernel
theorem dX9_undo_24 : decode cX9_undo 24 = .ok (.iconst 0, 1) := by decide +kernel
theorem dX9_undo_25 : decode cX9_undo 25 = .ok (.istore_n 1, 1) := by decide +kernel
theorem dX9_undo_26 : decode cX9_undo 26 = .ok (.iload_n 1, 1) := by decide +kernel
theorem dX9_undo_27 : decode cX9_undo 27 = .ok (.bipush 61, 2) := by decide +kernel
theorem dX9_undo_29 : decode cX9_undo 29 = .ok (.if_icmp .ge 29, 3) := by decide +kernel
theorem dX9_undo_32 : decode cX9_undo 32 = .ok (.aload_n 0, 1) := by decide +kernel
theorem dX9_undo_33 : decode cX9_undo 33 = .ok (.getfield 7, 3) := by decide +kernel
theorem dX9_undo_36 : decode cX9_undo 36 = .ok (.iload_n 1, 1) := by decide +kernel
theorem dX9_undo_37 : decode cX9_undo 37 = .ok (.aload_n 0, 1) := by decide +kernel
theorem dX9_undo_38 : decode cX9_undo 38 = .ok (.getfield 16, 3) := by decide +kernel
theorem dX9_undo_41 : decode cX9_undo 41 = .ok (.bipush 61, 2) := by decide +kernel
theorem dX9_undo_43 : decode cX9_undo 43 = .ok (.aload_n 0, 1) := by decide +kernel
theorem dX9_undo_44 : decode cX9_undo 44 = .ok (.getfield 284, 3) := by decide +kernel
theorem dX9_undo_47 : decode cX9_undo 47 = .ok (.imul, 1) := by decide +kernel
theorem dX9_undo_48 : decode cX9_undo 48 = .ok (.iload_n 1, 1) := by decide +kernel
theorem dX9_undo_49 : decode cX9_undo 49 = .ok (.iadd, 1) := by decide +kernel
theorem dX9_undo_50 : decode cX9_undo 50 = .ok (.iaload, 1) := by decide +kernel
theorem dX9_undo_51 : decode cX9_undo 51 = .ok (.iastore, 1) := by decide +kernel
theorem dX9_undo_52 : decode cX9_undo 52 = .ok (.iinc 1 1, 3) := by decide +kernel
theorem dX9_undo_55 : decode cX9_undo 55 = .ok (.goto (-29), 3) := by decide +kernel
theorem dX9_undo_58 : decode cX9_undo 58 = .ok (.aload_n 0, 1) := by decide +kernel
theorem dX9_undo_59 : decode cX9_undo 59 = .ok (.getfield 284, 3) := by decide +kernel
theorem dX9_undo_62 : decode cX9_undo 62 = .ok (.ireturn, 1) := by decide +kernel
theorem dX9_broughtAll_0 : decode cX9_broughtAll 0 = .ok (.iconst 0, 1) := by decide +kernel
theorem dX9_broughtAll_1 : decode cX9_broughtAll 1 = .ok (.istore_n 1, 1) := by decide +kernel
theorem dX9_broughtAll_2 : decode cX9_broughtAll 2 = .ok (.iconst 0, 1) := by decide +kernel
theorem dX9_broughtAll_3 : decode cX9_broughtAll 3 = .ok (.istore_n 2, 1) := by decide +kernel
theorem dX9_broughtAll_4 : decode cX9_broughtAll 4 = .ok (.iload_n 2, 1) := by decide +kernel
theorem dX9_broughtAll_5 : decode cX9_broughtAll 5 = .ok (.aload_n 0, 1) := by decide +kernel
theorem dX9_broughtAll_6 : decode cX9_broughtAll 6 = .ok (.getfield 278, 3) := by decide +kernel
theorem dX9_broughtAll_9 : decode cX9_broughtAll 9 = .ok (.if_icmp .ge 17, 3) := by decide +kernel
theorem dX9_broughtAll_12 : decode cX9_broughtAll 12 = .ok (.iload_n 1, 1) := by decide +kernel
theorem dX9_broughtAll_13 : decode cX9_broughtAll 13 = .ok (.aload_n 0, 1) := by decide +kernel
theorem dX9_broughtAll_14 : decode cX9_broughtAll 14 = .ok (.iload_n 2, 1) := by decide +kernel
theorem dX9_broughtAll_15 : decode cX9_broughtAll 15 = .ok (.invokevirtual 305, 3) := by decide +kernel
theorem dX9_broughtAll_18 : decode cX9_broughtAll 18 = .ok (.iadd, 1) := by decide +kernel
theorem dX9_broughtAll_19 : decode cX9_broughtAll 19 = .ok (.istore_n 1, 1) := by decide +kernel
theorem dX9_broughtAll_20 : decode cX9_broughtAll 20 = .ok (.iinc 2 1, 3) := by decide +kernel
theorem dX9_broughtAll_23 : decode cX9_broughtAll 23 = .ok (.goto (-19), 3) := by decide +kernel
theorem dX9_broughtAll_26 : decode cX9_broughtAll 26 = .ok (.iload_n 1, 1) := by decide +kernel
theorem dX9_broughtAll_27 : decode cX9_broughtAll 27 = .ok (.ireturn, 1) := by decide +kernel
theorem dX9_estateNow_0 : decode cX9_estateNow 0 = .ok (.aload_n 0, 1) := by decide +kernel
theorem dX9_estateNow_1 : decode cX9_estateNow 1 = .ok (.getfield 7, 3) := by decide +kernel
theorem dX9_estateNow_4 : decode cX9_estateNow 4 = .ok (.bipush 56, 2) := by decide +kernel
theorem dX9_estateNow_6 : decode cX9_estateNow 6 = .ok (.iaload, 1) := by decide +kernel
theorem dX9_estateNow_7 : decode cX9_estateNow 7 = .ok (.aload_n 0, 1) := by decide +kernel
theorem dX9_estateNow_8 : decode cX9_estateNow 8 = .ok (.invokevirtual 350, 3) := by decide +kernel
theorem dX9_estateNow_11 : decode cX9_estateNow 11 = .ok (.iadd, 1) := by decide +kernel
theorem dX9_estateNow_12 : decode cX9_estateNow 12 = .ok (.ireturn, 1) := by decide +kernel
theorem dX9_leftOf_0 : decode cX9_leftOf 0 = .ok (.aload_n 0, 1) := by decide +kernel
theorem dX9_leftOf_1 : decode cX9_leftOf 1 = .ok (.iload_n 1, 1) := by decide +kernel
theorem dX9_leftOf_2 : decode cX9_leftOf 2 = .ok (.invokevirtual 305, 3) := by decide +kernel
theorem dX9_leftOf_5 : decode cX9_leftOf 5 = .ok (.istore_n 3, 1) := by decide +kernel
theorem dX9_leftOf_6 : decode cX9_leftOf 6 = .ok (.iconst 0, 1) := by decide +kernel
theorem dX9_leftOf_7 : decode cX9_leftOf 7 = .ok (.istore 4, 2) := by decide +kernel
theorem dX9_leftOf_9 : decode cX9_leftOf 9 = .ok (.iload 4, 2) := by decide +kernel
theorem dX9_leftOf_11 : decode cX9_leftOf 11 = .ok (.iload_n 2, 1) := by decide +kernel
theorem dX9_leftOf_12 : decode cX9_leftOf 12 = .ok (.if_icmp .ge 65, 3) := by decide +kernel
theorem dX9_leftOf_15 : decode cX9_leftOf 15 = .ok (.aload_n 0, 1) := by decide +kernel
theorem dX9_leftOf_16 : decode cX9_leftOf 16 = .ok (.iload 4, 2) := by decide +kernel
theorem dX9_leftOf_18 : decode cX9_leftOf 18 = .ok (.iconst 0, 1) := by decide +kernel
theorem dX9_leftOf_19 : decode cX9_leftOf 19 = .ok (.invokevirtual 317, 3) := by decide +kernel
theorem dX9_leftOf_22 : decode cX9_leftOf 22 = .ok (.iconst 2, 1) := by decide +kernel
theorem dX9_leftOf_23 : decode cX9_leftOf 23 = .ok (.if_icmp .ne 48, 3) := by decide +kernel
theorem dX9_leftOf_26 : decode cX9_leftOf 26 = .ok (.aload_n 0, 1) := by decide +kernel
theorem dX9_leftOf_27 : decode cX9_leftOf 27 = .ok (.iload 4, 2) := by decide +kernel
theorem dX9_leftOf_29 : decode cX9_leftOf 29 = .ok (.iconst 2, 1) := by decide +kernel
theorem dX9_leftOf_30 : decode cX9_leftOf 30 = .ok (.invokevirtual 317, 3) := by decide +kernel
theorem dX9_leftOf_33 : decode cX9_leftOf 33 = .ok (.iload_n 1, 1) := by decide +kernel
theorem dX9_leftOf_34 : decode cX9_leftOf 34 = .ok (.if_icmp .ne 37, 3) := by decide +kernel
theorem dX9_leftOf_37 : decode cX9_leftOf 37 = .ok (.aload_n 0, 1) := by decide +kernel
theorem dX9_leftOf_38 : decode cX9_leftOf 38 = .ok (.iload 4, 2) := by decide +kernel
theorem dX9_leftOf_40 : decode cX9_leftOf 40 = .ok (.invokevirtual 322, 3) := by decide +kernel
theorem dX9_leftOf_43 : decode cX9_leftOf 43 = .ok (.ifCond .ne 28, 3) := by decide +kernel
theorem dX9_leftOf_46 : decode cX9_leftOf 46 = .ok (.iload_n 3, 1) := by decide +kernel
theorem dX9_leftOf_47 : decode cX9_leftOf 47 = .ok (.iload_n 3, 1) := by decide +kernel
theorem dX9_leftOf_48 : decode cX9_leftOf 48 = .ok (.aload_n 0, 1) := by decide +kernel
theorem dX9_leftOf_49 : decode cX9_leftOf 49 = .ok (.iload 4, 2) := by decide +kernel
theorem dX9_leftOf_51 : decode cX9_leftOf 51 = .ok (.iconst 3, 1) := by decide +kernel
theorem dX9_leftOf_52 : decode cX9_leftOf 52 = .ok (.invokevirtual 317, 3) := by decide +kernel
theorem dX9_leftOf_55 : decode cX9_leftOf 55 = .ok (.if_icmp .ge 7, 3) := by decide +kernel
theorem dX9_leftOf_58 : decode cX9_leftOf 58 = .ok (.iload_n 3, 1) := by decide +kernel
theorem dX9_leftOf_59 : decode cX9_leftOf 59 = .ok (.goto 10, 3) := by decide +kernel
theorem dX9_leftOf_62 : decode cX9_leftOf 62 = .ok (.aload_n 0, 1) := by decide +kernel
theorem dX9_leftOf_63 : decode cX9_leftOf 63 = .ok (.iload 4, 2) := by decide +kernel
theorem dX9_leftOf_65 : decode cX9_leftOf 65 = .ok (.iconst 3, 1) := by decide +kernel
theorem dX9_leftOf_66 : decode cX9_leftOf 66 = .ok (.invokevirtual 317, 3) := by decide +kernel
theorem dX9_leftOf_69 : decode cX9_leftOf 69 = .ok (.isub, 1) := by decide +kernel
theorem dX9_leftOf_70 : decode cX9_leftOf 70 = .ok (.istore_n 3, 1) := by decide +kernel
theorem dX9_leftOf_71 : decode cX9_leftOf 71 = .ok (.iinc 4 1, 3) := by decide +kernel
theorem dX9_leftOf_74 : decode cX9_leftOf 74 = .ok (.goto (-65), 3) := by decide +kernel
theorem dX9_leftOf_77 : decode cX9_leftOf 77 = .ok (.iload_n 3, 1) := by decide +kernel
theorem dX9_leftOf_78 : decode cX9_leftOf 78 = .ok (.ireturn, 1) := by decide +kernel
theorem dX9_laysDue_0 : decode cX9_laysDue 0 = .ok (.iconst 0, 1) := by decide +kernel
theorem dX9_laysDue_1 : decode cX9_laysDue 1 = .ok (.istore_n 1, 1) := by decide +kernel
theorem dX9_laysDue_2 : decode cX9_laysDue 2 = .ok (.iload_n 1, 1) := by decide +kernel
theorem dX9_laysDue_3 : decode cX9_laysDue 3 = .ok (.bipush 84, 2) := by decide +kernel
theorem dX9_laysDue_5 : decode cX9_laysDue 5 = .ok (.if_icmp .ge 23, 3) := by decide +kernel
theorem dX9_laysDue_8 : decode cX9_laysDue 8 = .ok (.aload_n 0, 1) := by decide +kernel
theorem dX9_laysDue_9 : decode cX9_laysDue 9 = .ok (.getfield 67, 3) := by decide +kernel
theorem dX9_laysDue_12 : decode cX9_laysDue 12 = .ok (.iload_n 1, 1) := by decide +kernel
theorem dX9_laysDue_13 : decode cX9_laysDue 13 = .ok (.iconst 0, 1) := by decide +kernel
theorem dX9_laysDue_14 : decode cX9_laysDue 14 = .ok (.iastore, 1) := by decide +kernel
theorem dX9_laysDue_15 : decode cX9_laysDue 15 = .ok (.aload_n 0, 1) := by decide +kernel
theorem dX9_laysDue_16 : decode cX9_laysDue 16 = .ok (.getfield 70, 3) := by decide +kernel
theorem dX9_laysDue_19 : decode cX9_laysDue 19 = .ok (.iload_n 1, 1) := by decide +kernel
theorem dX9_laysDue_20 : decode cX9_laysDue 20 = .ok (.iconst 0, 1) := by decide +kernel
theorem dX9_laysDue_21 : decode cX9_laysDue 21 = .ok (.iastore, 1) := by decide +kernel
theorem dX9_laysDue_22 : decode cX9_laysDue 22 = .ok (.iinc 1 1, 3) := by decide +kernel
theorem dX9_laysDue_25 : decode cX9_laysDue 25 = .ok (.goto (-23), 3) := by decide +kernel
theorem dX9_laysDue_28 : decode cX9_laysDue 28 = .ok (.iconst 0, 1) := by decide +kernel
theorem dX9_laysDue_29 : decode cX9_laysDue 29 = .ok (.istore_n 1, 1) := by decide +kernel
theorem dX9_laysDue_30 : decode cX9_laysDue 30 = .ok (.iload_n 1, 1) := by decide +kernel
theorem dX9_laysDue_31 : decode cX9_laysDue 31 = .ok (.aload_n 0, 1) := by decide +kernel
theorem dX9_laysDue_32 : decode cX9_laysDue 32 = .ok (.getfield 275, 3) := by decide +kernel
theorem dX9_laysDue_35 : decode cX9_laysDue 35 = .ok (.if_icmp .ge 22, 3) := by decide +kernel
theorem dX9_laysDue_38 : decode cX9_laysDue 38 = .ok (.aload_n 0, 1) := by decide +kernel
theorem dX9_laysDue_39 : decode cX9_laysDue 39 = .ok (.iload_n 1, 1) := by decide +kernel
theorem dX9_laysDue_40 : decode cX9_laysDue 40 = .ok (.invokevirtual 322, 3) := by decide +kernel
theorem dX9_laysDue_43 : decode cX9_laysDue 43 = .ok (.ifCond .ne 8, 3) := by decide +kernel
theorem dX9_laysDue_46 : decode cX9_laysDue 46 = .ok (.aload_n 0, 1) := by decide +kernel
theorem dX9_laysDue_47 : decode cX9_laysDue 47 = .ok (.iload_n 1, 1) := by decide +kernel
theorem dX9_laysDue_48 : decode cX9_laysDue 48 = .ok (.invokevirtual 353, 3) := by decide +kernel
theorem dX9_laysDue_51 : decode cX9_laysDue 51 = .ok (.iinc 1 1, 3) := by decide +kernel
theorem dX9_laysDue_54 : decode cX9_laysDue 54 = .ok (.goto (-24), 3) := by decide +kernel
theorem dX9_laysDue_57 : decode cX9_laysDue 57 = .ok (.iconst 0, 1) := by decide +kernel
theorem dX9_laysDue_58 : decode cX9_laysDue 58 = .ok (.istore_n 1, 1) := by decide +kernel
theorem dX9_laysDue_59 : decode cX9_laysDue 59 = .ok (.iload_n 1, 1) := by decide +kernel
theorem dX9_laysDue_60 : decode cX9_laysDue 60 = .ok (.bipush 7, 2) := by decide +kernel
theorem dX9_laysDue_62 : decode cX9_laysDue 62 = .ok (.if_icmp .ge 24, 3) := by decide +kernel
theorem dX9_laysDue_65 : decode cX9_laysDue 65 = .ok (.aload_n 0, 1) := by decide +kernel
theorem dX9_laysDue_66 : decode cX9_laysDue 66 = .ok (.getfield 73, 3) := by decide +kernel
theorem dX9_laysDue_69 : decode cX9_laysDue 69 = .ok (.iload_n 1, 1) := by decide +kernel
theorem dX9_laysDue_70 : decode cX9_laysDue 70 = .ok (.aload_n 0, 1) := by decide +kernel
theorem dX9_laysDue_71 : decode cX9_laysDue 71 = .ok (.aload_n 0, 1) := by decide +kernel
theorem dX9_laysDue_72 : decode cX9_laysDue 72 = .ok (.getfield 67, 3) := by decide +kernel
theorem dX9_laysDue_75 : decode cX9_laysDue 75 = .ok (.iload_n 1, 1) := by decide +kernel
theorem dX9_laysDue_76 : decode cX9_laysDue 76 = .ok (.invokevirtual 356, 3) := by decide +kernel
theorem dX9_laysDue_79 : decode cX9_laysDue 79 = .ok (.iastore, 1) := by decide +kernel
theorem dX9_laysDue_80 : decode cX9_laysDue 80 = .ok (.iinc 1 1, 3) := by decide +kernel
theorem dX9_laysDue_83 : decode cX9_laysDue 83 = .ok (.goto (-24), 3) := by decide +kernel
theorem dX9_laysDue_86 : decode cX9_laysDue 86 = .ok (.return_, 1) := by decide +kernel
theorem dX9_laysDueOf_0 : decode cX9_laysDueOf 0 = .ok (.bipush 7, 2) := by decide +kernel
theorem dX9_laysDueOf_2 : decode cX9_laysDueOf 2 = .ok (.iload_n 1, 1) := by decide +kernel
theorem dX9_laysDueOf_3 : decode cX9_laysDueOf 3 = .ok (.imul, 1) := by decide +kernel
theorem dX9_laysDueOf_4 : decode cX9_laysDueOf 4 = .ok (.istore_n 2, 1) := by decide +kernel
theorem dX9_laysDueOf_5 : decode cX9_laysDueOf 5 = .ok (.aload_n 0, 1) := by decide +kernel
theorem dX9_laysDueOf_6 : decode cX9_laysDueOf 6 = .ok (.iload_n 1, 1) := by decide +kernel
theorem dX9_laysDueOf_7 : decode cX9_laysDueOf 7 = .ok (.iconst 3, 1) := by decide +kernel
theorem dX9_laysDueOf_8 : decode cX9_laysDueOf 8 = .ok (.invokevirtual 317, 3) := by decide +kernel
theorem dX9_laysDueOf_11 : decode cX9_laysDueOf 11 = .ok (.istore_n 3, 1) := by decide +kernel
theorem dX9_laysDueOf_12 : decode cX9_laysDueOf 12 = .ok (.aload_n 0, 1) := by decide +kernel
theorem dX9_laysDueOf_13 : decode cX9_laysDueOf 13 = .ok (.iload_n 1, 1) := by decide +kernel
theorem dX9_laysDueOf_14 : decode cX9_laysDueOf 14 = .ok (.iconst 0, 1) := by decide +kernel
theorem dX9_laysDueOf_15 : decode cX9_laysDueOf 15 = .ok (.invokevirtual 317, 3) := by decide +kernel
theorem dX9_laysDueOf_18 : decode cX9_laysDueOf 18 = .ok (.istore 4, 2) := by decide +kernel
theorem dX9_laysDueOf_20 : decode cX9_laysDueOf 20 = .ok (.iload 4, 2) := by decide +kernel
theorem dX9_laysDueOf_22 : decode cX9_laysDueOf 22 = .ok (.ifCond .ne 80, 3) := by decide +kernel
theorem dX9_laysDueOf_25 : decode cX9_laysDueOf 25 = .ok (.aload_n 0, 1) := by decide +kernel
theorem dX9_laysDueOf_26 : decode cX9_laysDueOf 26 = .ok (.iload_n 1, 1) := by decide +kernel
theorem dX9_laysDueOf_27 : decode cX9_laysDueOf 27 = .ok (.iconst 2, 1) := by decide +kernel
theorem dX9_laysDueOf_28 : decode cX9_laysDueOf 28 = .ok (.invokevirtual 317, 3) := by decide +kernel
theorem dX9_laysDueOf_31 : decode cX9_laysDueOf 31 = .ok (.istore 5, 2) := by decide +kernel
theorem dX9_laysDueOf_33 : decode cX9_laysDueOf 33 = .ok (.aload_n 0, 1) := by decide +kernel
theorem dX9_laysDueOf_34 : decode cX9_laysDueOf 34 = .ok (.getfield 67, 3) := by decide +kernel
theorem dX9_laysDueOf_37 : decode cX9_laysDueOf 37 = .ok (.iload_n 2, 1) := by decide +kernel
theorem dX9_laysDueOf_38 : decode cX9_laysDueOf 38 = .ok (.aload_n 0, 1) := by decide +kernel
theorem dX9_laysDueOf_39 : decode cX9_laysDueOf 39 = .ok (.iload 5, 2) := by decide +kernel
theorem dX9_laysDueOf_41 : decode cX9_laysDueOf 41 = .ok (.invokevirtual 305, 3) := by decide +kernel
theorem dX9_laysDueOf_44 : decode cX9_laysDueOf 44 = .ok (.iastore, 1) := by decide +kernel
theorem dX9_laysDueOf_45 : decode cX9_laysDueOf 45 = .ok (.aload_n 0, 1) := by decide +kernel
theorem dX9_laysDueOf_46 : decode cX9_laysDueOf 46 = .ok (.iload 5, 2) := by decide +kernel
theorem dX9_laysDueOf_48 : decode cX9_laysDueOf 48 = .ok (.iconst 0, 1) := by decide +kernel
theorem dX9_laysDueOf_49 : decode cX9_laysDueOf 49 = .ok (.invokevirtual 300, 3) := by decide +kernel
theorem dX9_laysDueOf_52 : decode cX9_laysDueOf 52 = .ok (.aload_n 0, 1) := by decide +kernel
theorem dX9_laysDueOf_53 : decode cX9_laysDueOf 53 = .ok (.iload 5, 2) := by decide +kernel
theorem dX9_laysDueOf_55 : decode cX9_laysDueOf 55 = .ok (.invokevirtual 305, 3) := by decide +kernel
theorem dX9_laysDueOf_58 : decode cX9_laysDueOf 58 = .ok (.isub, 1) := by decide +kernel
theorem dX9_laysDueOf_59 : decode cX9_laysDueOf 59 = .ok (.istore 6, 2) := by decide +kernel
theorem dX9_laysDueOf_61 : decode cX9_laysDueOf 61 = .ok (.aload_n 0, 1) := by decide +kernel
theorem dX9_laysDueOf_62 : decode cX9_laysDueOf 62 = .ok (.getfield 67, 3) := by decide +kernel
theorem dX9_laysDueOf_65 : decode cX9_laysDueOf 65 = .ok (.iload_n 2, 1) := by decide +kernel
theorem dX9_laysDueOf_66 : decode cX9_laysDueOf 66 = .ok (.iconst 4, 1) := by decide +kernel
theorem dX9_laysDueOf_67 : decode cX9_laysDueOf 67 = .ok (.iadd, 1) := by decide +kernel
theorem dX9_laysDueOf_68 : decode cX9_laysDueOf 68 = .ok (.aload_n 0, 1) := by decide +kernel
theorem dX9_laysDueOf_69 : decode cX9_laysDueOf 69 = .ok (.getfield 7, 3) := by decide +kernel
theorem dX9_laysDueOf_72 : decode cX9_laysDueOf 72 = .ok (.bipush 60, 2) := by decide +kernel
theorem dX9_laysDueOf_74 : decode cX9_laysDueOf 74 = .ok (.iaload, 1) := by decide +kernel
theorem dX9_laysDueOf_75 : decode cX9_laysDueOf 75 = .ok (.iconst 1, 1) := by decide +kernel
theorem dX9_laysDueOf_76 : decode cX9_laysDueOf 76 = .ok (.if_icmp .ne 21, 3) := by decide +kernel
theorem dX9_laysDueOf_79 : decode cX9_laysDueOf 79 = .ok (.aload_n 0, 1) := by decide +kernel
theorem dX9_laysDueOf_80 : decode cX9_laysDueOf 80 = .ok (.iload_n 1, 1) := by decide +kernel
theorem dX9_laysDueOf_81 : decode cX9_laysDueOf 81 = .ok (.invokevirtual 325, 3) := by decide +kernel
theorem dX9_laysDueOf_84 : decode cX9_laysDueOf 84 = .ok (.ifCond .le 13, 3) := by decide +kernel
theorem dX9_laysDueOf_87 : decode cX9_laysDueOf 87 = .ok (.iload 6, 2) := by decide +kernel
theorem dX9_laysDueOf_89 : decode cX9_laysDueOf 89 = .ok (.ifCond .le 8, 3) := by decide +kernel
theorem dX9_laysDueOf_92 : decode cX9_laysDueOf 92 = .ok (.iload 6, 2) := by decide +kernel
theorem dX9_laysDueOf_94 : decode cX9_laysDueOf 94 = .ok (.goto 4, 3) := by decide +kernel
theorem dX9_laysDueOf_97 : decode cX9_laysDueOf 97 = .ok (.iconst 0, 1) := by decide +kernel
theorem dX9_laysDueOf_98 : decode cX9_laysDueOf 98 = .ok (.iastore, 1) := by decide +kernel
theorem dX9_laysDueOf_99 : decode cX9_laysDueOf 99 = .ok (.goto 84, 3) := by decide +kernel
theorem dX9_laysDueOf_102 : decode cX9_laysDueOf 102 = .ok (.iload 4, 2) := by decide +kernel
theorem dX9_laysDueOf_104 : decode cX9_laysDueOf 104 = .ok (.iconst 1, 1) := by decide +kernel
theorem dX9_laysDueOf_105 : decode cX9_laysDueOf 105 = .ok (.if_icmp .ne 20, 3) := by decide +kernel
theorem dX9_laysDueOf_108 : decode cX9_laysDueOf 108 = .ok (.aload_n 0, 1) := by decide +kernel
theorem dX9_laysDueOf_109 : decode cX9_laysDueOf 109 = .ok (.getfield 67, 3) := by decide +kernel
theorem dX9_laysDueOf_112 : decode cX9_laysDueOf 112 = .ok (.iload_n 2, 1) := by decide +kernel
theorem dX9_laysDueOf_113 : decode cX9_laysDueOf 113 = .ok (.aload_n 0, 1) := by decide +kernel
theorem dX9_laysDueOf_114 : decode cX9_laysDueOf 114 = .ok (.iload_n 1, 1) := by decide +kernel
theorem dX9_laysDueOf_115 : decode cX9_laysDueOf 115 = .ok (.iconst 4, 1) := by decide +kernel
theorem dX9_laysDueOf_116 : decode cX9_laysDueOf 116 = .ok (.invokevirtual 317, 3) := by decide +kernel
theorem dX9_laysDueOf_119 : decode cX9_laysDueOf 119 = .ok (.iadd, 1) := by decide +kernel
theorem dX9_laysDueOf_120 : decode cX9_laysDueOf 120 = .ok (.iload_n 3, 1) := by decide +kernel
theorem dX9_laysDueOf_121 : decode cX9_laysDueOf 121 = .ok (.iastore, 1) := by decide +kernel
theorem dX9_laysDueOf_122 : decode cX9_laysDueOf 122 = .ok (.goto 61, 3) := by decide +kernel
theorem dX9_laysDueOf_125 : decode cX9_laysDueOf 125 = .ok (.iload 4, 2) := by decide +kernel
theorem dX9_laysDueOf_127 : decode cX9_laysDueOf 127 = .ok (.iconst 2, 1) := by decide +kernel
theorem dX9_laysDueOf_128 : decode cX9_laysDueOf 128 = .ok (.if_icmp .ne 55, 3) := by decide +kernel
theorem dX9_laysDueOf_131 : decode cX9_laysDueOf 131 = .ok (.aload_n 0, 1) := by decide +kernel
theorem dX9_laysDueOf_132 : decode cX9_laysDueOf 132 = .ok (.aload_n 0, 1) := by decide +kernel
theorem dX9_laysDueOf_133 : decode cX9_laysDueOf 133 = .ok (.iload_n 1, 1) := by decide +kernel
theorem dX9_laysDueOf_134 : decode cX9_laysDueOf 134 = .ok (.iconst 2, 1) := by decide +kernel
theorem dX9_laysDueOf_135 : decode cX9_laysDueOf 135 = .ok (.invokevirtual 317, 3) := by decide +kernel
theorem dX9_laysDueOf_138 : decode cX9_laysDueOf 138 = .ok (.iload_n 1, 1) := by decide +kernel
theorem dX9_laysDueOf_139 : decode cX9_laysDueOf 139 = .ok (.invokevirtual 360, 3) := by decide +kernel
theorem dX9_laysDueOf_142 : decode cX9_laysDueOf 142 = .ok (.istore 5, 2) := by decide +kernel
theorem dX9_laysDueOf_144 : decode cX9_laysDueOf 144 = .ok (.aload_n 0, 1) := by decide +kernel
theorem dX9_laysDueOf_145 : decode cX9_laysDueOf 145 = .ok (.getfield 67, 3) := by decide +kernel
theorem dX9_laysDueOf_148 : decode cX9_laysDueOf 148 = .ok (.iload_n 2, 1) := by decide +kernel
theorem dX9_laysDueOf_149 : decode cX9_laysDueOf 149 = .ok (.iload 5, 2) := by decide +kernel
theorem dX9_laysDueOf_151 : decode cX9_laysDueOf 151 = .ok (.iload_n 3, 1) := by decide +kernel
theorem dX9_laysDueOf_152 : decode cX9_laysDueOf 152 = .ok (.if_icmp .ge 8, 3) := by decide +kernel
theorem dX9_laysDueOf_155 : decode cX9_laysDueOf 155 = .ok (.iload 5, 2) := by decide +kernel
theorem dX9_laysDueOf_157 : decode cX9_laysDueOf 157 = .ok (.goto 4, 3) := by decide +kernel
theorem dX9_laysDueOf_160 : decode cX9_laysDueOf 160 = .ok (.iload_n 3, 1) := by decide +kernel
theorem dX9_laysDueOf_161 : decode cX9_laysDueOf 161 = .ok (.iastore, 1) := by decide +kernel
theorem dX9_laysDueOf_162 : decode cX9_laysDueOf 162 = .ok (.aload_n 0, 1) := by decide +kernel
theorem dX9_laysDueOf_163 : decode cX9_laysDueOf 163 = .ok (.getfield 67, 3) := by decide +kernel
theorem dX9_laysDueOf_166 : decode cX9_laysDueOf 166 = .ok (.iload_n 2, 1) := by decide +kernel
theorem dX9_laysDueOf_167 : decode cX9_laysDueOf 167 = .ok (.aload_n 0, 1) := by decide +kernel
theorem dX9_laysDueOf_168 : decode cX9_laysDueOf 168 = .ok (.iload_n 1, 1) := by decide +kernel
theorem dX9_laysDueOf_169 : decode cX9_laysDueOf 169 = .ok (.iconst 4, 1) := by decide +kernel
theorem dX9_laysDueOf_170 : decode cX9_laysDueOf 170 = .ok (.invokevirtual 317, 3) := by decide +kernel
theorem dX9_laysDueOf_173 : decode cX9_laysDueOf 173 = .ok (.iadd, 1) := by decide +kernel
theorem dX9_laysDueOf_174 : decode cX9_laysDueOf 174 = .ok (.iload_n 3, 1) := by decide +kernel
theorem dX9_laysDueOf_175 : decode cX9_laysDueOf 175 = .ok (.aload_n 0, 1) := by decide +kernel
theorem dX9_laysDueOf_176 : decode cX9_laysDueOf 176 = .ok (.getfield 67, 3) := by decide +kernel
theorem dX9_laysDueOf_179 : decode cX9_laysDueOf 179 = .ok (.iload_n 2, 1) := by decide +kernel
theorem dX9_laysDueOf_180 : decode cX9_laysDueOf 180 = .ok (.iaload, 1) := by decide +kernel
theorem dX9_laysDueOf_181 : decode cX9_laysDueOf 181 = .ok (.isub, 1) := by decide +kernel
theorem dX9_laysDueOf_182 : decode cX9_laysDueOf 182 = .ok (.iastore, 1) := by decide +kernel
theorem dX9_laysDueOf_183 : decode cX9_laysDueOf 183 = .ok (.return_, 1) := by decide +kernel
theorem dX9_sumOf_0 : decode cX9_sumOf 0 = .ok (.iconst 0, 1) := by decide +kernel
theorem dX9_sumOf_1 : decode cX9_sumOf 1 = .ok (.istore_n 3, 1) := by decide +kernel
theorem dX9_sumOf_2 : decode cX9_sumOf 2 = .ok (.iconst 0, 1) := by decide +kernel
theorem dX9_sumOf_3 : decode cX9_sumOf 3 = .ok (.istore 4, 2) := by decide +kernel
theorem dX9_sumOf_5 : decode cX9_sumOf 5 = .ok (.iload 4, 2) := by decide +kernel
theorem dX9_sumOf_7 : decode cX9_sumOf 7 = .ok (.aload_n 0, 1) := by decide +kernel
theorem dX9_sumOf_8 : decode cX9_sumOf 8 = .ok (.getfield 275, 3) := by decide +kernel
theorem dX9_sumOf_11 : decode cX9_sumOf 11 = .ok (.if_icmp .ge 21, 3) := by decide +kernel
theorem dX9_sumOf_14 : decode cX9_sumOf 14 = .ok (.iload_n 3, 1) := by decide +kernel
theorem dX9_sumOf_15 : decode cX9_sumOf 15 = .ok (.aload_n 1, 1) := by decide +kernel
theorem dX9_sumOf_16 : decode cX9_sumOf 16 = .ok (.bipush 7, 2) := by decide +kernel
theorem dX9_sumOf_18 : decode cX9_sumOf 18 = .ok (.iload 4, 2) := by decide +kernel
theorem dX9_sumOf_20 : decode cX9_sumOf 20 = .ok (.imul, 1) := by decide +kernel
theorem dX9_sumOf_21 : decode cX9_sumOf 21 = .ok (.iload_n 2, 1) := by decide +kernel
theorem dX9_sumOf_22 : decode cX9_sumOf 22 = .ok (.iadd, 1) := by decide +kernel
theorem dX9_sumOf_23 : decode cX9_sumOf 23 = .ok (.iaload, 1) := by decide +kernel
theorem dX9_sumOf_24 : decode cX9_sumOf 24 = .ok (.iadd, 1) := by decide +kernel
theorem dX9_sumOf_25 : decode cX9_sumOf 25 = .ok (.istore_n 3, 1) := by decide +kernel
theorem dX9_sumOf_26 : decode cX9_sumOf 26 = .ok (.iinc 4 1, 3) := by decide +kernel
theorem dX9_sumOf_29 : decode cX9_sumOf 29 = .ok (.goto (-24), 3) := by decide +kernel
theorem dX9_sumOf_32 : decode cX9_sumOf 32 = .ok (.iload_n 3, 1) := by decide +kernel
theorem dX9_sumOf_33 : decode cX9_sumOf 33 = .ok (.ireturn, 1) := by decide +kernel
theorem dX9_parted_0 : decode cX9_parted 0 = .ok (.lconst 0, 1) := by decide +kernel
theorem dX9_parted_1 : decode cX9_parted 1 = .ok (.lstore_n 2, 1) := by decide +kernel
theorem dX9_parted_2 : decode cX9_parted 2 = .ok (.iconst 0, 1) := by decide +kernel
theorem dX9_parted_3 : decode cX9_parted 3 = .ok (.istore 4, 2) := by decide +kernel
theorem dX9_parted_5 : decode cX9_parted 5 = .ok (.iload 4, 2) := by decide +kernel
theorem dX9_parted_7 : decode cX9_parted 7 = .ok (.aload_n 0, 1) := by decide +kernel
theorem dX9_parted_8 : decode cX9_parted 8 = .ok (.getfield 275, 3) := by decide +kernel
theorem dX9_parted_11 : decode cX9_parted 11 = .ok (.if_icmp .ge 19, 3) := by decide +kernel
theorem dX9_parted_14 : decode cX9_parted 14 = .ok (.lload_n 2, 1) := by decide +kernel
theorem dX9_parted_15 : decode cX9_parted 15 = .ok (.aload_n 0, 1) := by decide +kernel
theorem dX9_parted_16 : decode cX9_parted 16 = .ok (.getfield 83, 3) := by decide +kernel
theorem dX9_parted_19 : decode cX9_parted 19 = .ok (.iload 4, 2) := by decide +kernel
theorem dX9_parted_21 : decode cX9_parted 21 = .ok (.laload, 1) := by decide +kernel
theorem dX9_parted_22 : decode cX9_parted 22 = .ok (.ladd, 1) := by decide +kernel
theorem dX9_parted_23 : decode cX9_parted 23 = .ok (.lstore_n 2, 1) := by decide +kernel
theorem dX9_parted_24 : decode cX9_parted 24 = .ok (.iinc 4 1, 3) := by decide +kernel
theorem dX9_parted_27 : decode cX9_parted 27 = .ok (.goto (-22), 3) := by decide +kernel
theorem dX9_parted_30 : decode cX9_parted 30 = .ok (.iload_n 1, 1) := by decide +kernel
theorem dX9_parted_31 : decode cX9_parted 31 = .ok (.istore 4, 2) := by decide +kernel
theorem dX9_parted_33 : decode cX9_parted 33 = .ok (.iconst 0, 1) := by decide +kernel
theorem dX9_parted_34 : decode cX9_parted 34 = .ok (.istore 5, 2) := by decide +kernel
theorem dX9_parted_36 : decode cX9_parted 36 = .ok (.iload 5, 2) := by decide +kernel
theorem dX9_parted_38 : decode cX9_parted 38 = .ok (.aload_n 0, 1) := by decide +kernel
theorem dX9_parted_39 : decode cX9_parted 39 = .ok (.getfield 275, 3) := by decide +kernel
theorem dX9_parted_42 : decode cX9_parted 42 = .ok (.if_icmp .ge 60, 3) := by decide +kernel
theorem dX9_parted_45 : decode cX9_parted 45 = .ok (.aload_n 0, 1) := by decide +kernel
theorem dX9_parted_46 : decode cX9_parted 46 = .ok (.getfield 86, 3) := by decide +kernel
theorem dX9_parted_49 : decode cX9_parted 49 = .ok (.iload 5, 2) := by decide +kernel
theorem dX9_parted_51 : decode cX9_parted 51 = .ok (.aload_n 0, 1) := by decide +kernel
theorem dX9_parted_52 : decode cX9_parted 52 = .ok (.getfield 83, 3) := by decide +kernel
theorem dX9_parted_55 : decode cX9_parted 55 = .ok (.iload 5, 2) := by decide +kernel
theorem dX9_parted_57 : decode cX9_parted 57 = .ok (.laload, 1) := by decide +kernel
theorem dX9_parted_58 : decode cX9_parted 58 = .ok (.iload_n 1, 1) := by decide +kernel
theorem dX9_parted_59 : decode cX9_parted 59 = .ok (.i2l, 1) := by decide +kernel
theorem dX9_parted_60 : decode cX9_parted 60 = .ok (.lmul, 1) := by decide +kernel
theorem dX9_parted_61 : decode cX9_parted 61 = .ok (.lload_n 2, 1) := by decide +kernel
theorem dX9_parted_62 : decode cX9_parted 62 = .ok (.ldiv, 1) := by decide +kernel
theorem dX9_parted_63 : decode cX9_parted 63 = .ok (.l2i, 1) := by decide +kernel
theorem dX9_parted_64 : decode cX9_parted 64 = .ok (.iastore, 1) := by decide +kernel
theorem dX9_parted_65 : decode cX9_parted 65 = .ok (.aload_n 0, 1) := by decide +kernel
theorem dX9_parted_66 : decode cX9_parted 66 = .ok (.getfield 79, 3) := by decide +kernel
theorem dX9_parted_69 : decode cX9_parted 69 = .ok (.iload 5, 2) := by decide +kernel
theorem dX9_parted_71 : decode cX9_parted 71 = .ok (.aload_n 0, 1) := by decide +kernel
theorem dX9_parted_72 : decode cX9_parted 72 = .ok (.getfield 83, 3) := by decide +kernel
theorem dX9_parted_75 : decode cX9_parted 75 = .ok (.iload 5, 2) := by decide +kernel
theorem dX9_parted_77 : decode cX9_parted 77 = .ok (.laload, 1) := by decide +kernel
theorem dX9_parted_78 : decode cX9_parted 78 = .ok (.iload_n 1, 1) := by decide +kernel
theorem dX9_parted_79 : decode cX9_parted 79 = .ok (.i2l, 1) := by decide +kernel
theorem dX9_parted_80 : decode cX9_parted 80 = .ok (.lmul, 1) := by decide +kernel
theorem dX9_parted_81 : decode cX9_parted 81 = .ok (.lload_n 2, 1) := by decide +kernel
theorem dX9_parted_82 : decode cX9_parted 82 = .ok (.lrem, 1) := by decide +kernel
theorem dX9_parted_83 : decode cX9_parted 83 = .ok (.lastore, 1) := by decide +kernel
theorem dX9_parted_84 : decode cX9_parted 84 = .ok (.iload 4, 2) := by decide +kernel
theorem dX9_parted_86 : decode cX9_parted 86 = .ok (.aload_n 0, 1) := by decide +kernel
theorem dX9_parted_87 : decode cX9_parted 87 = .ok (.getfield 86, 3) := by decide +kernel
theorem dX9_parted_90 : decode cX9_parted 90 = .ok (.iload 5, 2) := by decide +kernel
theorem dX9_parted_92 : decode cX9_parted 92 = .ok (.iaload, 1) := by decide +kernel
theorem dX9_parted_93 : decode cX9_parted 93 = .ok (.isub, 1) := by decide +kernel
theorem dX9_parted_94 : decode cX9_parted 94 = .ok (.istore 4, 2) := by decide +kernel
theorem dX9_parted_96 : decode cX9_parted 96 = .ok (.iinc 5 1, 3) := by decide +kernel
theorem dX9_parted_99 : decode cX9_parted 99 = .ok (.goto (-63), 3) := by decide +kernel
theorem dX9_parted_102 : decode cX9_parted 102 = .ok (.iload 4, 2) := by decide +kernel
theorem dX9_parted_104 : decode cX9_parted 104 = .ok (.ifCond .le 108, 3) := by decide +kernel
theorem dX9_parted_107 : decode cX9_parted 107 = .ok (.iconst (-1), 1) := by decide +kernel
theorem dX9_parted_108 : decode cX9_parted 108 = .ok (.istore 5, 2) := by decide +kernel
theorem dX9_parted_110 : decode cX9_parted 110 = .ok (.iconst 0, 1) := by decide +kernel
theorem dX9_parted_111 : decode cX9_parted 111 = .ok (.istore 6, 2) := by decide +kernel
theorem dX9_parted_113 : decode cX9_parted 113 = .ok (.iload 6, 2) := by decide +kernel
theorem dX9_parted_115 : decode cX9_parted 115 = .ok (.aload_n 0, 1) := by decide +kernel
theorem dX9_parted_116 : decode cX9_parted 116 = .ok (.getfield 275, 3) := by decide +kernel
theorem dX9_parted_119 : decode cX9_parted 119 = .ok (.if_icmp .ge 66, 3) := by decide +kernel
theorem dX9_parted_122 : decode cX9_parted 122 = .ok (.aload_n 0, 1) := by decide +kernel
theorem dX9_parted_123 : decode cX9_parted 123 = .ok (.getfield 83, 3) := by decide +kernel
theorem dX9_parted_126 : decode cX9_parted 126 = .ok (.iload 6, 2) := by decide +kernel
theorem dX9_parted_128 : decode cX9_parted 128 = .ok (.laload, 1) := by decide +kernel
theorem dX9_parted_129 : decode cX9_parted 129 = .ok (.lconst 0, 1) := by decide +kernel
theorem dX9_parted_130 : decode cX9_parted 130 = .ok (.lcmp, 1) := by decide +kernel
theorem dX9_parted_131 : decode cX9_parted 131 = .ok (.ifCond .le 44, 3) := by decide +kernel
theorem dX9_parted_134 : decode cX9_parted 134 = .ok (.aload_n 0, 1) := by decide +kernel
theorem dX9_parted_135 : decode cX9_parted 135 = .ok (.getfield 79, 3) := by decide +kernel
theorem dX9_parted_138 : decode cX9_parted 138 = .ok (.iload 6, 2) := by decide +kernel
theorem dX9_parted_140 : decode cX9_parted 140 = .ok (.laload, 1) := by decide +kernel
theorem dX9_parted_141 : decode cX9_parted 141 = .ok (.lconst 0, 1) := by decide +kernel
theorem dX9_parted_142 : decode cX9_parted 142 = .ok (.lcmp, 1) := by decide +kernel
theorem dX9_parted_143 : decode cX9_parted 143 = .ok (.ifCond .lt 32, 3) := by decide +kernel
theorem dX9_parted_146 : decode cX9_parted 146 = .ok (.iload 5, 2) := by decide +kernel
theorem dX9_parted_148 : decode cX9_parted 148 = .ok (.iconst (-1), 1) := by decide +kernel
theorem dX9_parted_149 : decode cX9_parted 149 = .ok (.if_icmp .eq 21, 3) := by decide +kernel
theorem dX9_parted_152 : decode cX9_parted 152 = .ok (.aload_n 0, 1) := by decide +kernel
theorem dX9_parted_153 : decode cX9_parted 153 = .ok (.getfield 79, 3) := by decide +kernel
theorem dX9_parted_156 : decode cX9_parted 156 = .ok (.iload 6, 2) := by decide +kernel
theorem dX9_parted_158 : decode cX9_parted 158 = .ok (.laload, 1) := by decide +kernel
theorem dX9_parted_159 : decode cX9_parted 159 = .ok (.aload_n 0, 1) := by decide +kernel
theorem dX9_parted_160 : decode cX9_parted 160 = .ok (.getfield 79, 3) := by decide +kernel
theorem dX9_parted_163 : decode cX9_parted 163 = .ok (.iload 5, 2) := by decide +kernel
theorem dX9_parted_165 : decode cX9_parted 165 = .ok (.laload, 1) := by decide +kernel
theorem dX9_parted_166 : decode cX9_parted 166 = .ok (.lcmp, 1) := by decide +kernel
theorem dX9_parted_167 : decode cX9_parted 167 = .ok (.ifCond .le 8, 3) := by decide +kernel
theorem dX9_parted_170 : decode cX9_parted 170 = .ok (.iload 6, 2) := by decide +kernel
theorem dX9_parted_172 : decode cX9_parted 172 = .ok (.goto 5, 3) := by decide +kernel
theorem dX9_parted_175 : decode cX9_parted 175 = .ok (.iload 5, 2) := by decide +kernel
theorem dX9_parted_177 : decode cX9_parted 177 = .ok (.istore 5, 2) := by decide +kernel
theorem dX9_parted_179 : decode cX9_parted 179 = .ok (.iinc 6 1, 3) := by decide +kernel
theorem dX9_parted_182 : decode cX9_parted 182 = .ok (.goto (-69), 3) := by decide +kernel
theorem dX9_parted_185 : decode cX9_parted 185 = .ok (.aload_n 0, 1) := by decide +kernel
theorem dX9_parted_186 : decode cX9_parted 186 = .ok (.getfield 86, 3) := by decide +kernel
theorem dX9_parted_189 : decode cX9_parted 189 = .ok (.iload 5, 2) := by decide +kernel
theorem dX9_parted_191 : decode cX9_parted 191 = .ok (.dup2, 1) := by decide +kernel
theorem dX9_parted_192 : decode cX9_parted 192 = .ok (.iaload, 1) := by decide +kernel
theorem dX9_parted_193 : decode cX9_parted 193 = .ok (.iconst 1, 1) := by decide +kernel
theorem dX9_parted_194 : decode cX9_parted 194 = .ok (.iadd, 1) := by decide +kernel
theorem dX9_parted_195 : decode cX9_parted 195 = .ok (.iastore, 1) := by decide +kernel
theorem dX9_parted_196 : decode cX9_parted 196 = .ok (.aload_n 0, 1) := by decide +kernel
theorem dX9_parted_197 : decode cX9_parted 197 = .ok (.getfield 79, 3) := by decide +kernel
theorem dX9_parted_200 : decode cX9_parted 200 = .ok (.iload 5, 2) := by decide +kernel
theorem dX9_parted_202 : decode cX9_parted 202 = .ok (.ldc2_w 363, 3) := by decide +kernel
theorem dX9_parted_205 : decode cX9_parted 205 = .ok (.lastore, 1) := by decide +kernel
theorem dX9_parted_206 : decode cX9_parted 206 = .ok (.iinc 4 (-1), 3) := by decide +kernel
theorem dX9_parted_209 : decode cX9_parted 209 = .ok (.goto (-107), 3) := by decide +kernel
theorem dX9_parted_212 : decode cX9_parted 212 = .ok (.return_, 1) := by decide +kernel
theorem dX9_pays_0 : decode cX9_pays 0 = .ok (.aload_n 0, 1) := by decide +kernel
theorem dX9_pays_1 : decode cX9_pays 1 = .ok (.getfield 73, 3) := by decide +kernel
theorem dX9_pays_4 : decode cX9_pays 4 = .ok (.iload_n 1, 1) := by decide +kernel
theorem dX9_pays_5 : decode cX9_pays 5 = .ok (.iaload, 1) := by decide +kernel
theorem dX9_pays_6 : decode cX9_pays 6 = .ok (.istore_n 3, 1) := by decide +kernel
theorem dX9_pays_7 : decode cX9_pays 7 = .ok (.iload_n 2, 1) := by decide +kernel
theorem dX9_pays_8 : decode cX9_pays 8 = .ok (.iload_n 3, 1) := by decide +kernel
theorem dX9_pays_9 : decode cX9_pays 9 = .ok (.if_icmp .lt 49, 3) := by decide +kernel
theorem dX9_pays_12 : decode cX9_pays 12 = .ok (.iconst 0, 1) := by decide +kernel
theorem dX9_pays_13 : decode cX9_pays 13 = .ok (.istore 4, 2) := by decide +kernel
theorem dX9_pays_15 : decode cX9_pays 15 = .ok (.iload 4, 2) := by decide +kernel
theorem dX9_pays_17 : decode cX9_pays 17 = .ok (.aload_n 0, 1) := by decide +kernel
theorem dX9_pays_18 : decode cX9_pays 18 = .ok (.getfield 275, 3) := by decide +kernel
theorem dX9_pays_21 : decode cX9_pays 21 = .ok (.if_icmp .ge 33, 3) := by decide +kernel
theorem dX9_pays_24 : decode cX9_pays 24 = .ok (.aload_n 0, 1) := by decide +kernel
theorem dX9_pays_25 : decode cX9_pays 25 = .ok (.getfield 70, 3) := by decide +kernel
theorem dX9_pays_28 : decode cX9_pays 28 = .ok (.bipush 7, 2) := by decide +kernel
theorem dX9_pays_30 : decode cX9_pays 30 = .ok (.iload 4, 2) := by decide +kernel
theorem dX9_pays_32 : decode cX9_pays 32 = .ok (.imul, 1) := by decide +kernel
theorem dX9_pays_33 : decode cX9_pays 33 = .ok (.iload_n 1, 1) := by decide +kernel
theorem dX9_pays_34 : decode cX9_pays 34 = .ok (.iadd, 1) := by decide +kernel
theorem dX9_pays_35 : decode cX9_pays 35 = .ok (.aload_n 0, 1) := by decide +kernel
theorem dX9_pays_36 : decode cX9_pays 36 = .ok (.getfield 67, 3) := by decide +kernel
theorem dX9_pays_39 : decode cX9_pays 39 = .ok (.bipush 7, 2) := by decide +kernel
theorem dX9_pays_41 : decode cX9_pays 41 = .ok (.iload 4, 2) := by decide +kernel
theorem dX9_pays_43 : decode cX9_pays 43 = .ok (.imul, 1) := by decide +kernel
theorem dX9_pays_44 : decode cX9_pays 44 = .ok (.iload_n 1, 1) := by decide +kernel
theorem dX9_pays_45 : decode cX9_pays 45 = .ok (.iadd, 1) := by decide +kernel
theorem dX9_pays_46 : decode cX9_pays 46 = .ok (.iaload, 1) := by decide +kernel
theorem dX9_pays_47 : decode cX9_pays 47 = .ok (.iastore, 1) := by decide +kernel
theorem dX9_pays_48 : decode cX9_pays 48 = .ok (.iinc 4 1, 3) := by decide +kernel
theorem dX9_pays_51 : decode cX9_pays 51 = .ok (.goto (-36), 3) := by decide +kernel
theorem dX9_pays_54 : decode cX9_pays 54 = .ok (.iload_n 2, 1) := by decide +kernel
theorem dX9_pays_55 : decode cX9_pays 55 = .ok (.iload_n 3, 1) := by decide +kernel
theorem dX9_pays_56 : decode cX9_pays 56 = .ok (.isub, 1) := by decide +kernel
theorem dX9_pays_57 : decode cX9_pays 57 = .ok (.ireturn, 1) := by decide +kernel
theorem dX9_pays_58 : decode cX9_pays 58 = .ok (.aload_n 0, 1) := by decide +kernel
theorem dX9_pays_59 : decode cX9_pays 59 = .ok (.aload_n 0, 1) := by decide +kernel
theorem dX9_pays_60 : decode cX9_pays 60 = .ok (.getfield 365, 3) := by decide +kernel
theorem dX9_pays_63 : decode cX9_pays 63 = .ok (.iconst (-1), 1) := by decide +kernel
theorem dX9_pays_64 : decode cX9_pays 64 = .ok (.if_icmp .ne 7, 3) := by decide +kernel
theorem dX9_pays_67 : decode cX9_pays 67 = .ok (.iload_n 1, 1) := by decide +kernel
theorem dX9_pays_68 : decode cX9_pays 68 = .ok (.goto 7, 3) := by decide +kernel
theorem dX9_pays_71 : decode cX9_pays 71 = .ok (.aload_n 0, 1) := by decide +kernel
theorem dX9_pays_72 : decode cX9_pays 72 = .ok (.getfield 365, 3) := by decide +kernel
theorem dX9_pays_75 : decode cX9_pays 75 = .ok (.putfield 365, 3) := by decide +kernel
theorem dX9_pays_78 : decode cX9_pays 78 = .ok (.iconst 0, 1) := by decide +kernel
theorem dX9_pays_79 : decode cX9_pays 79 = .ok (.istore 4, 2) := by decide +kernel
theorem dX9_pays_81 : decode cX9_pays 81 = .ok (.iload 4, 2) := by decide +kernel
theorem dX9_pays_83 : decode cX9_pays 83 = .ok (.aload_n 0, 1) := by decide +kernel
theorem dX9_pays_84 : decode cX9_pays 84 = .ok (.getfield 275, 3) := by decide +kernel
theorem dX9_pays_87 : decode cX9_pays 87 = .ok (.if_icmp .ge 29, 3) := by decide +kernel
theorem dX9_pays_90 : decode cX9_pays 90 = .ok (.aload_n 0, 1) := by decide +kernel
theorem dX9_pays_91 : decode cX9_pays 91 = .ok (.getfield 83, 3) := by decide +kernel
theorem dX9_pays_94 : decode cX9_pays 94 = .ok (.iload 4, 2) := by decide +kernel
theorem dX9_pays_96 : decode cX9_pays 96 = .ok (.aload_n 0, 1) := by decide +kernel
theorem dX9_pays_97 : decode cX9_pays 97 = .ok (.getfield 67, 3) := by decide +kernel
theorem dX9_pays_100 : decode cX9_pays 100 = .ok (.bipush 7, 2) := by decide +kernel
theorem dX9_pays_102 : decode cX9_pays 102 = .ok (.iload 4, 2) := by decide +kernel
theorem dX9_pays_104 : decode cX9_pays 104 = .ok (.imul, 1) := by decide +kernel
theorem dX9_pays_105 : decode cX9_pays 105 = .ok (.iload_n 1, 1) := by decide +kernel
theorem dX9_pays_106 : decode cX9_pays 106 = .ok (.iadd, 1) := by decide +kernel
theorem dX9_pays_107 : decode cX9_pays 107 = .ok (.iaload, 1) := by decide +kernel
theorem dX9_pays_108 : decode cX9_pays 108 = .ok (.i2l, 1) := by decide +kernel
theorem dX9_pays_109 : decode cX9_pays 109 = .ok (.lastore, 1) := by decide +kernel
theorem dX9_pays_110 : decode cX9_pays 110 = .ok (.iinc 4 1, 3) := by decide +kernel
theorem dX9_pays_113 : decode cX9_pays 113 = .ok (.goto (-32), 3) := by decide +kernel
theorem dX9_pays_116 : decode cX9_pays 116 = .ok (.aload_n 0, 1) := by decide +kernel
theorem dX9_pays_117 : decode cX9_pays 117 = .ok (.iload_n 2, 1) := by decide +kernel
theorem dX9_pays_118 : decode cX9_pays 118 = .ok (.invokevirtual 368, 3) := by decide +kernel
theorem dX9_pays_121 : decode cX9_pays 121 = .ok (.iconst 0, 1) := by decide +kernel
theorem dX9_pays_122 : decode cX9_pays 122 = .ok (.istore 4, 2) := by decide +kernel
theorem dX9_pays_124 : decode cX9_pays 124 = .ok (.iload 4, 2) := by decide +kernel
theorem dX9_pays_126 : decode cX9_pays 126 = .ok (.aload_n 0, 1) := by decide +kernel
theorem dX9_pays_127 : decode cX9_pays 127 = .ok (.getfield 275, 3) := by decide +kernel
theorem dX9_pays_130 : decode cX9_pays 130 = .ok (.if_icmp .ge 28, 3) := by decide +kernel
theorem dX9_pays_133 : decode cX9_pays 133 = .ok (.aload_n 0, 1) := by decide +kernel
theorem dX9_pays_134 : decode cX9_pays 134 = .ok (.getfield 70, 3) := by decide +kernel
theorem dX9_pays_137 : decode cX9_pays 137 = .ok (.bipush 7, 2) := by decide +kernel
theorem dX9_pays_139 : decode cX9_pays 139 = .ok (.iload 4, 2) := by decide +kernel
theorem dX9_pays_141 : decode cX9_pays 141 = .ok (.imul, 1) := by decide +kernel
theorem dX9_pays_142 : decode cX9_pays 142 = .ok (.iload_n 1, 1) := by decide +kernel
theorem dX9_pays_143 : decode cX9_pays 143 = .ok (.iadd, 1) := by decide +kernel
theorem dX9_pays_144 : decode cX9_pays 144 = .ok (.aload_n 0, 1) := by decide +kernel
theorem dX9_pays_145 : decode cX9_pays 145 = .ok (.getfield 86, 3) := by decide +kernel
theorem dX9_pays_148 : decode cX9_pays 148 = .ok (.iload 4, 2) := by decide +kernel
theorem dX9_pays_150 : decode cX9_pays 150 = .ok (.iaload, 1) := by decide +kernel
theorem dX9_pays_151 : decode cX9_pays 151 = .ok (.iastore, 1) := by decide +kernel
theorem dX9_pays_152 : decode cX9_pays 152 = .ok (.iinc 4 1, 3) := by decide +kernel
theorem dX9_pays_155 : decode cX9_pays 155 = .ok (.goto (-31), 3) := by decide +kernel
theorem dX9_pays_158 : decode cX9_pays 158 = .ok (.iconst 0, 1) := by decide +kernel
theorem dX9_pays_159 : decode cX9_pays 159 = .ok (.ireturn, 1) := by decide +kernel
theorem dX9_laysInterest_0 : decode cX9_laysInterest 0 = .ok (.aload_n 0, 1) := by decide +kernel
theorem dX9_laysInterest_1 : decode cX9_laysInterest 1 = .ok (.getfield 7, 3) := by decide +kernel
theorem dX9_laysInterest_4 : decode cX9_laysInterest 4 = .ok (.bipush 58, 2) := by decide +kernel
theorem dX9_laysInterest_6 : decode cX9_laysInterest 6 = .ok (.iaload, 1) := by decide +kernel
theorem dX9_laysInterest_7 : decode cX9_laysInterest 7 = .ok (.bipush 12, 2) := by decide +kernel
theorem dX9_laysInterest_9 : decode cX9_laysInterest 9 = .ok (.if_icmp .le 17, 3) := by decide +kernel
theorem dX9_laysInterest_12 : decode cX9_laysInterest 12 = .ok (.aload_n 0, 1) := by decide +kernel
theorem dX9_laysInterest_13 : decode cX9_laysInterest 13 = .ok (.getfield 7, 3) := by decide +kernel
theorem dX9_laysInterest_16 : decode cX9_laysInterest 16 = .ok (.bipush 58, 2) := by decide +kernel
theorem dX9_laysInterest_18 : decode cX9_laysInterest 18 = .ok (.iaload, 1) := by decide +kernel
theorem dX9_laysInterest_19 : decode cX9_laysInterest 19 = .ok (.bipush 12, 2) := by decide +kernel
theorem dX9_laysInterest_21 : decode cX9_laysInterest 21 = .ok (.isub, 1) := by decide +kernel
theorem dX9_laysInterest_22 : decode cX9_laysInterest 22 = .ok (.i2l, 1) := by decide +kernel
theorem dX9_laysInterest_23 : decode cX9_laysInterest 23 = .ok (.goto 4, 3) := by decide +kernel
theorem dX9_laysInterest_26 : decode cX9_laysInterest 26 = .ok (.lconst 0, 1) := by decide +kernel
theorem dX9_laysInterest_27 : decode cX9_laysInterest 27 = .ok (.lstore_n 1, 1) := by decide +kernel
theorem dX9_laysInterest_28 : decode cX9_laysInterest 28 = .ok (.aload_n 0, 1) := by decide +kernel
theorem dX9_laysInterest_29 : decode cX9_laysInterest 29 = .ok (.getfield 73, 3) := by decide +kernel
theorem dX9_laysInterest_32 : decode cX9_laysInterest 32 = .ok (.iconst 5, 1) := by decide +kernel
theorem dX9_laysInterest_33 : decode cX9_laysInterest 33 = .ok (.iconst 0, 1) := by decide +kernel
theorem dX9_laysInterest_34 : decode cX9_laysInterest 34 = .ok (.iastore, 1) := by decide +kernel
theorem dX9_laysInterest_35 : decode cX9_laysInterest 35 = .ok (.iconst 0, 1) := by decide +kernel
theorem dX9_laysInterest_36 : decode cX9_laysInterest 36 = .ok (.istore_n 3, 1) := by decide +kernel
theorem dX9_laysInterest_37 : decode cX9_laysInterest 37 = .ok (.iload_n 3, 1) := by decide +kernel
theorem dX9_laysInterest_38 : decode cX9_laysInterest 38 = .ok (.aload_n 0, 1) := by decide +kernel
theorem dX9_laysInterest_39 : decode cX9_laysInterest 39 = .ok (.getfield 275, 3) := by decide +kernel
theorem dX9_laysInterest_42 : decode cX9_laysInterest 42 = .ok (.if_icmp .ge 94, 3) := by decide +kernel
theorem dX9_laysInterest_45 : decode cX9_laysInterest 45 = .ok (.lconst 0, 1) := by decide +kernel
theorem dX9_laysInterest_46 : decode cX9_laysInterest 46 = .ok (.lstore 4, 2) := by decide +kernel
theorem dX9_laysInterest_48 : decode cX9_laysInterest 48 = .ok (.iconst 1, 1) := by decide +kernel
theorem dX9_laysInterest_49 : decode cX9_laysInterest 49 = .ok (.istore 6, 2) := by decide +kernel
theorem dX9_laysInterest_51 : decode cX9_laysInterest 51 = .ok (.iload 6, 2) := by decide +kernel
theorem dX9_laysInterest_53 : decode cX9_laysInterest 53 = .ok (.iconst 5, 1) := by decide +kernel
theorem dX9_laysInterest_54 : decode cX9_laysInterest 54 = .ok (.if_icmp .ge 27, 3) := by decide +kernel
theorem dX9_laysInterest_57 : decode cX9_laysInterest 57 = .ok (.lload 4, 2) := by decide +kernel
theorem dX9_laysInterest_59 : decode cX9_laysInterest 59 = .ok (.aload_n 0, 1) := by decide +kernel
theorem dX9_laysInterest_60 : decode cX9_laysInterest 60 = .ok (.getfield 70, 3) := by decide +kernel
theorem dX9_laysInterest_63 : decode cX9_laysInterest 63 = .ok (.bipush 7, 2) := by decide +kernel
theorem dX9_laysInterest_65 : decode cX9_laysInterest 65 = .ok (.iload_n 3, 1) := by decide +kernel
theorem dX9_laysInterest_66 : decode cX9_laysInterest 66 = .ok (.imul, 1) := by decide +kernel
theorem dX9_laysInterest_67 : decode cX9_laysInterest 67 = .ok (.iload 6, 2) := by decide +kernel
theorem dX9_laysInterest_69 : decode cX9_laysInterest 69 = .ok (.iadd, 1) := by decide +kernel
theorem dX9_laysInterest_70 : decode cX9_laysInterest 70 = .ok (.iaload, 1) := by decide +kernel
theorem dX9_laysInterest_71 : decode cX9_laysInterest 71 = .ok (.i2l, 1) := by decide +kernel
theorem dX9_laysInterest_72 : decode cX9_laysInterest 72 = .ok (.ladd, 1) := by decide +kernel
theorem dX9_laysInterest_73 : decode cX9_laysInterest 73 = .ok (.lstore 4, 2) := by decide +kernel
theorem dX9_laysInterest_75 : decode cX9_laysInterest 75 = .ok (.iinc 6 1, 3) := by decide +kernel
theorem dX9_laysInterest_78 : decode cX9_laysInterest 78 = .ok (.goto (-27), 3) := by decide +kernel
theorem dX9_laysInterest_81 : decode cX9_laysInterest 81 = .ok (.aload_n 0, 1) := by decide +kernel
theorem dX9_laysInterest_82 : decode cX9_laysInterest 82 = .ok (.getfield 67, 3) := by decide +kernel
theorem dX9_laysInterest_85 : decode cX9_laysInterest 85 = .ok (.bipush 7, 2) := by decide +kernel
theorem dX9_laysInterest_87 : decode cX9_laysInterest 87 = .ok (.iload_n 3, 1) := by decide +kernel
theorem dX9_laysInterest_88 : decode cX9_laysInterest 88 = .ok (.imul, 1) := by decide +kernel
theorem dX9_laysInterest_89 : decode cX9_laysInterest 89 = .ok (.iconst 5, 1) := by decide +kernel
theorem dX9_laysInterest_90 : decode cX9_laysInterest 90 = .ok (.iadd, 1) := by decide +kernel
theorem dX9_laysInterest_91 : decode cX9_laysInterest 91 = .ok (.lload 4, 2) := by decide +kernel
theorem dX9_laysInterest_93 : decode cX9_laysInterest 93 = .ok (.aload_n 0, 1) := by decide +kernel
theorem dX9_laysInterest_94 : decode cX9_laysInterest 94 = .ok (.getfield 7, 3) := by decide +kernel
theorem dX9_laysInterest_97 : decode cX9_laysInterest 97 = .ok (.bipush 59, 2) := by decide +kernel
theorem dX9_laysInterest_99 : decode cX9_laysInterest 99 = .ok (.iaload, 1) := by decide +kernel
theorem dX9_laysInterest_100 : decode cX9_laysInterest 100 = .ok (.i2l, 1) := by decide +kernel
theorem dX9_laysInterest_101 : decode cX9_laysInterest 101 = .ok (.lmul, 1) := by decide +kernel
theorem dX9_laysInterest_102 : decode cX9_laysInterest 102 = .ok (.lload_n 1, 1) := by decide +kernel
theorem dX9_laysInterest_103 : decode cX9_laysInterest 103 = .ok (.lmul, 1) := by decide +kernel
theorem dX9_laysInterest_104 : decode cX9_laysInterest 104 = .ok (.ldc2_w 371, 3) := by decide +kernel
theorem dX9_laysInterest_107 : decode cX9_laysInterest 107 = .ok (.ldiv, 1) := by decide +kernel
theorem dX9_laysInterest_108 : decode cX9_laysInterest 108 = .ok (.l2i, 1) := by decide +kernel
theorem dX9_laysInterest_109 : decode cX9_laysInterest 109 = .ok (.iastore, 1) := by decide +kernel
theorem dX9_laysInterest_110 : decode cX9_laysInterest 110 = .ok (.aload_n 0, 1) := by decide +kernel
theorem dX9_laysInterest_111 : decode cX9_laysInterest 111 = .ok (.getfield 73, 3) := by decide +kernel
theorem dX9_laysInterest_114 : decode cX9_laysInterest 114 = .ok (.iconst 5, 1) := by decide +kernel
theorem dX9_laysInterest_115 : decode cX9_laysInterest 115 = .ok (.dup2, 1) := by decide +kernel
theorem dX9_laysInterest_116 : decode cX9_laysInterest 116 = .ok (.iaload, 1) := by decide +kernel
theorem dX9_laysInterest_117 : decode cX9_laysInterest 117 = .ok (.aload_n 0, 1) := by decide +kernel
theorem dX9_laysInterest_118 : decode cX9_laysInterest 118 = .ok (.getfield 67, 3) := by decide +kernel
theorem dX9_laysInterest_121 : decode cX9_laysInterest 121 = .ok (.bipush 7, 2) := by decide +kernel
theorem dX9_laysInterest_123 : decode cX9_laysInterest 123 = .ok (.iload_n 3, 1) := by decide +kernel
theorem dX9_laysInterest_124 : decode cX9_laysInterest 124 = .ok (.imul, 1) := by decide +kernel
theorem dX9_laysInterest_125 : decode cX9_laysInterest 125 = .ok (.iconst 5, 1) := by decide +kernel
theorem dX9_laysInterest_126 : decode cX9_laysInterest 126 = .ok (.iadd, 1) := by decide +kernel
theorem dX9_laysInterest_127 : decode cX9_laysInterest 127 = .ok (.iaload, 1) := by decide +kernel
theorem dX9_laysInterest_128 : decode cX9_laysInterest 128 = .ok (.iadd, 1) := by decide +kernel
theorem dX9_laysInterest_129 : decode cX9_laysInterest 129 = .ok (.iastore, 1) := by decide +kernel
theorem dX9_laysInterest_130 : decode cX9_laysInterest 130 = .ok (.iinc 3 1, 3) := by decide +kernel
theorem dX9_laysInterest_133 : decode cX9_laysInterest 133 = .ok (.goto (-96), 3) := by decide +kernel
theorem dX9_laysInterest_136 : decode cX9_laysInterest 136 = .ok (.return_, 1) := by decide +kernel
theorem dX9_lays_0 : decode cX9_lays 0 = .ok (.aload_n 0, 1) := by decide +kernel
theorem dX9_lays_1 : decode cX9_lays 1 = .ok (.invokevirtual 373, 3) := by decide +kernel
theorem dX9_lays_4 : decode cX9_lays 4 = .ok (.aload_n 0, 1) := by decide +kernel
theorem dX9_lays_5 : decode cX9_lays 5 = .ok (.iconst (-1), 1) := by decide +kernel
theorem dX9_lays_6 : decode cX9_lays 6 = .ok (.putfield 365, 3) := by decide +kernel
theorem dX9_lays_9 : decode cX9_lays 9 = .ok (.aload_n 0, 1) := by decide +kernel
theorem dX9_lays_10 : decode cX9_lays 10 = .ok (.invokevirtual 376, 3) := by decide +kernel
theorem dX9_lays_13 : decode cX9_lays 13 = .ok (.aload_n 0, 1) := by decide +kernel
theorem dX9_lays_14 : decode cX9_lays 14 = .ok (.getfield 7, 3) := by decide +kernel
theorem dX9_lays_17 : decode cX9_lays 17 = .ok (.bipush 57, 2) := by decide +kernel
theorem dX9_lays_19 : decode cX9_lays 19 = .ok (.iaload, 1) := by decide +kernel
theorem dX9_lays_20 : decode cX9_lays 20 = .ok (.isub, 1) := by decide +kernel
theorem dX9_lays_21 : decode cX9_lays 21 = .ok (.istore_n 1, 1) := by decide +kernel
theorem dX9_lays_22 : decode cX9_lays 22 = .ok (.iload_n 1, 1) := by decide +kernel
theorem dX9_lays_23 : decode cX9_lays 23 = .ok (.ifCond .ge 7, 3) := by decide +kernel
theorem dX9_lays_26 : decode cX9_lays 26 = .ok (.iconst 0, 1) := by decide +kernel
theorem dX9_lays_27 : decode cX9_lays 27 = .ok (.goto 4, 3) := by decide +kernel
theorem dX9_lays_30 : decode cX9_lays 30 = .ok (.iload_n 1, 1) := by decide +kernel
theorem dX9_lays_31 : decode cX9_lays 31 = .ok (.istore_n 1, 1) := by decide +kernel
theorem dX9_lays_32 : decode cX9_lays 32 = .ok (.iconst 0, 1) := by decide +kernel
theorem dX9_lays_33 : decode cX9_lays 33 = .ok (.istore_n 2, 1) := by decide +kernel
theorem dX9_lays_34 : decode cX9_lays 34 = .ok (.iload_n 2, 1) := by decide +kernel
theorem dX9_lays_35 : decode cX9_lays 35 = .ok (.iconst 5, 1) := by decide +kernel
theorem dX9_lays_36 : decode cX9_lays 36 = .ok (.if_icmp .ge 16, 3) := by decide +kernel
theorem dX9_lays_39 : decode cX9_lays 39 = .ok (.aload_n 0, 1) := by decide +kernel
theorem dX9_lays_40 : decode cX9_lays 40 = .ok (.iload_n 2, 1) := by decide +kernel
theorem dX9_lays_41 : decode cX9_lays 41 = .ok (.iload_n 1, 1) := by decide +kernel
theorem dX9_lays_42 : decode cX9_lays 42 = .ok (.invokevirtual 379, 3) := by decide +kernel
theorem dX9_lays_45 : decode cX9_lays 45 = .ok (.istore_n 1, 1) := by decide +kernel
theorem dX9_lays_46 : decode cX9_lays 46 = .ok (.iinc 2 1, 3) := by decide +kernel
theorem dX9_lays_49 : decode cX9_lays 49 = .ok (.goto (-15), 3) := by decide +kernel
theorem dX9_lays_52 : decode cX9_lays 52 = .ok (.aload_n 0, 1) := by decide +kernel
theorem dX9_lays_53 : decode cX9_lays 53 = .ok (.invokevirtual 382, 3) := by decide +kernel
theorem dX9_lays_56 : decode cX9_lays 56 = .ok (.aload_n 0, 1) := by decide +kernel
theorem dX9_lays_57 : decode cX9_lays 57 = .ok (.iconst 5, 1) := by decide +kernel
theorem dX9_lays_58 : decode cX9_lays 58 = .ok (.iload_n 1, 1) := by decide +kernel
theorem dX9_lays_59 : decode cX9_lays 59 = .ok (.invokevirtual 379, 3) := by decide +kernel
theorem dX9_lays_62 : decode cX9_lays 62 = .ok (.istore_n 1, 1) := by decide +kernel
theorem dX9_lays_63 : decode cX9_lays 63 = .ok (.aload_n 0, 1) := by decide +kernel
theorem dX9_lays_64 : decode cX9_lays 64 = .ok (.iload_n 1, 1) := by decide +kernel
theorem dX9_lays_65 : decode cX9_lays 65 = .ok (.putfield 385, 3) := by decide +kernel
theorem dX9_lays_68 : decode cX9_lays 68 = .ok (.aload_n 0, 1) := by decide +kernel
theorem dX9_lays_69 : decode cX9_lays 69 = .ok (.invokevirtual 388, 3) := by decide +kernel
theorem dX9_lays_72 : decode cX9_lays 72 = .ok (.return_, 1) := by decide +kernel
theorem dX9_laysRest_0 : decode cX9_laysRest 0 = .ok (.aload_n 0, 1) := by decide +kernel
theorem dX9_laysRest_1 : decode cX9_laysRest 1 = .ok (.iconst 0, 1) := by decide +kernel
theorem dX9_laysRest_2 : decode cX9_laysRest 2 = .ok (.putfield 391, 3) := by decide +kernel
theorem dX9_laysRest_5 : decode cX9_laysRest 5 = .ok (.aload_n 0, 1) := by decide +kernel
theorem dX9_laysRest_6 : decode cX9_laysRest 6 = .ok (.iconst 0, 1) := by decide +kernel
theorem dX9_laysRest_7 : decode cX9_laysRest 7 = .ok (.putfield 394, 3) := by decide +kernel
theorem dX9_laysRest_10 : decode cX9_laysRest 10 = .ok (.iconst 0, 1) := by decide +kernel
theorem dX9_laysRest_11 : decode cX9_laysRest 11 = .ok (.istore_n 1, 1) := by decide +kernel
theorem dX9_laysRest_12 : decode cX9_laysRest 12 = .ok (.iload_n 1, 1) := by decide +kernel
theorem dX9_laysRest_13 : decode cX9_laysRest 13 = .ok (.bipush 12, 2) := by decide +kernel
theorem dX9_laysRest_15 : decode cX9_laysRest 15 = .ok (.if_icmp .ge 16, 3) := by decide +kernel
theorem dX9_laysRest_18 : decode cX9_laysRest 18 = .ok (.aload_n 0, 1) := by decide +kernel
theorem dX9_laysRest_19 : decode cX9_laysRest 19 = .ok (.getfield 76, 3) := by decide +kernel
theorem dX9_laysRest_22 : decode cX9_laysRest 22 = .ok (.iload_n 1, 1) := by decide +kernel
theorem dX9_laysRest_23 : decode cX9_laysRest 23 = .ok (.iconst 0, 1) := by decide +kernel
theorem dX9_laysRest_24 : decode cX9_laysRest 24 = .ok (.iastore, 1) := by decide +kernel
theorem dX9_laysRest_25 : decode cX9_laysRest 25 = .ok (.iinc 1 1, 3) := by decide +kernel
theorem dX9_laysRest_28 : decode cX9_laysRest 28 = .ok (.goto (-16), 3) := by decide +kernel
theorem dX9_laysRest_31 : decode cX9_laysRest 31 = .ok (.iconst 0, 1) := by decide +kernel
theorem dX9_laysRest_32 : decode cX9_laysRest 32 = .ok (.istore_n 1, 1) := by decide +kernel
theorem dX9_laysRest_33 : decode cX9_laysRest 33 = .ok (.iconst 0, 1) := by decide +kernel
theorem dX9_laysRest_34 : decode cX9_laysRest 34 = .ok (.istore_n 2, 1) := by decide +kernel
theorem dX9_laysRest_35 : decode cX9_laysRest 35 = .ok (.iload_n 2, 1) := by decide +kernel
theorem dX9_laysRest_36 : decode cX9_laysRest 36 = .ok (.aload_n 0, 1) := by decide +kernel
theorem dX9_laysRest_37 : decode cX9_laysRest 37 = .ok (.getfield 275, 3) := by decide +kernel
theorem dX9_laysRest_40 : decode cX9_laysRest 40 = .ok (.if_icmp .ge 65, 3) := by decide +kernel
theorem dX9_laysRest_43 : decode cX9_laysRest 43 = .ok (.aload_n 0, 1) := by decide +kernel
theorem dX9_laysRest_44 : decode cX9_laysRest 44 = .ok (.getfield 83, 3) := by decide +kernel
theorem dX9_laysRest_47 : decode cX9_laysRest 47 = .ok (.iload_n 2, 1) := by decide +kernel
theorem dX9_laysRest_48 : decode cX9_laysRest 48 = .ok (.aload_n 0, 1) := by decide +kernel
theorem dX9_laysRest_49 : decode cX9_laysRest 49 = .ok (.iload_n 2, 1) := by decide +kernel
theorem dX9_laysRest_50 : decode cX9_laysRest 50 = .ok (.iconst 0, 1) := by decide +kernel
theorem dX9_laysRest_51 : decode cX9_laysRest 51 = .ok (.invokevirtual 317, 3) := by decide +kernel
theorem dX9_laysRest_54 : decode cX9_laysRest 54 = .ok (.iconst 3, 1) := by decide +kernel
theorem dX9_laysRest_55 : decode cX9_laysRest 55 = .ok (.if_icmp .ne 21, 3) := by decide +kernel
theorem dX9_laysRest_58 : decode cX9_laysRest 58 = .ok (.aload_n 0, 1) := by decide +kernel
theorem dX9_laysRest_59 : decode cX9_laysRest 59 = .ok (.iload_n 2, 1) := by decide +kernel
theorem dX9_laysRest_60 : decode cX9_laysRest 60 = .ok (.invokevirtual 322, 3) := by decide +kernel
theorem dX9_laysRest_63 : decode cX9_laysRest 63 = .ok (.ifCond .ne 13, 3) := by decide +kernel
theorem dX9_laysRest_66 : decode cX9_laysRest 66 = .ok (.aload_n 0, 1) := by decide +kernel
theorem dX9_laysRest_67 : decode cX9_laysRest 67 = .ok (.iload_n 2, 1) := by decide +kernel
theorem dX9_laysRest_68 : decode cX9_laysRest 68 = .ok (.iconst 3, 1) := by decide +kernel
theorem dX9_laysRest_69 : decode cX9_laysRest 69 = .ok (.invokevirtual 317, 3) := by decide +kernel
theorem dX9_laysRest_72 : decode cX9_laysRest 72 = .ok (.i2l, 1) := by decide +kernel
theorem dX9_laysRest_73 : decode cX9_laysRest 73 = .ok (.goto 4, 3) := by decide +kernel
theorem dX9_laysRest_76 : decode cX9_laysRest 76 = .ok (.lconst 0, 1) := by decide +kernel
theorem dX9_laysRest_77 : decode cX9_laysRest 77 = .ok (.lastore, 1) := by decide +kernel
theorem dX9_laysRest_78 : decode cX9_laysRest 78 = .ok (.iload_n 1, 1) := by decide +kernel
theorem dX9_laysRest_79 : decode cX9_laysRest 79 = .ok (.ifCond .ne 14, 3) := by decide +kernel
theorem dX9_laysRest_82 : decode cX9_laysRest 82 = .ok (.aload_n 0, 1) := by decide +kernel
theorem dX9_laysRest_83 : decode cX9_laysRest 83 = .ok (.getfield 83, 3) := by decide +kernel
theorem dX9_laysRest_86 : decode cX9_laysRest 86 = .ok (.iload_n 2, 1) := by decide +kernel
theorem dX9_laysRest_87 : decode cX9_laysRest 87 = .ok (.laload, 1) := by decide +kernel
theorem dX9_laysRest_88 : decode cX9_laysRest 88 = .ok (.lconst 0, 1) := by decide +kernel
theorem dX9_laysRest_89 : decode cX9_laysRest 89 = .ok (.lcmp, 1) := by decide +kernel
theorem dX9_laysRest_90 : decode cX9_laysRest 90 = .ok (.ifCond .le 7, 3) := by decide +kernel
theorem dX9_laysRest_93 : decode cX9_laysRest 93 = .ok (.iconst 1, 1) := by decide +kernel
theorem dX9_laysRest_94 : decode cX9_laysRest 94 = .ok (.goto 4, 3) := by decide +kernel
theorem dX9_laysRest_97 : decode cX9_laysRest 97 = .ok (.iconst 0, 1) := by decide +kernel
theorem dX9_laysRest_98 : decode cX9_laysRest 98 = .ok (.istore_n 1, 1) := by decide +kernel
theorem dX9_laysRest_99 : decode cX9_laysRest 99 = .ok (.iinc 2 1, 3) := by decide +kernel
theorem dX9_laysRest_102 : decode cX9_laysRest 102 = .ok (.goto (-67), 3) := by decide +kernel
theorem dX9_laysRest_105 : decode cX9_laysRest 105 = .ok (.iload_n 1, 1) := by decide +kernel
theorem dX9_laysRest_106 : decode cX9_laysRest 106 = .ok (.ifCond .eq 75, 3) := by decide +kernel
theorem dX9_laysRest_109 : decode cX9_laysRest 109 = .ok (.aload_n 0, 1) := by decide +kernel
theorem dX9_laysRest_110 : decode cX9_laysRest 110 = .ok (.aload_n 0, 1) := by decide +kernel
theorem dX9_laysRest_111 : decode cX9_laysRest 111 = .ok (.getfield 385, 3) := by decide +kernel
theorem dX9_laysRest_114 : decode cX9_laysRest 114 = .ok (.invokevirtual 368, 3) := by decide +kernel
theorem dX9_laysRest_117 : decode cX9_laysRest 117 = .ok (.iconst 0, 1) := by decide +kernel
theorem dX9_laysRest_118 : decode cX9_laysRest 118 = .ok (.istore_n 2, 1) := by decide +kernel
theorem dX9_laysRest_119 : decode cX9_laysRest 119 = .ok (.iload_n 2, 1) := by decide +kernel
theorem dX9_laysRest_120 : decode cX9_laysRest 120 = .ok (.aload_n 0, 1) := by decide +kernel
theorem dX9_laysRest_121 : decode cX9_laysRest 121 = .ok (.getfield 275, 3) := by decide +kernel
theorem dX9_laysRest_124 : decode cX9_laysRest 124 = .ok (.if_icmp .ge 45, 3) := by decide +kernel
theorem dX9_laysRest_127 : decode cX9_laysRest 127 = .ok (.aload_n 0, 1) := by decide +kernel
theorem dX9_laysRest_128 : decode cX9_laysRest 128 = .ok (.getfield 67, 3) := by decide +kernel
theorem dX9_laysRest_131 : decode cX9_laysRest 131 = .ok (.bipush 7, 2) := by decide +kernel
theorem dX9_laysRest_133 : decode cX9_laysRest 133 = .ok (.iload_n 2, 1) := by decide +kernel
theorem dX9_laysRest_134 : decode cX9_laysRest 134 = .ok (.imul, 1) := by decide +kernel
theorem dX9_laysRest_135 : decode cX9_laysRest 135 = .ok (.bipush 6, 2) := by decide +kernel
theorem dX9_laysRest_137 : decode cX9_laysRest 137 = .ok (.iadd, 1) := by decide +kernel
theorem dX9_laysRest_138 : decode cX9_laysRest 138 = .ok (.aload_n 0, 1) := by decide +kernel
theorem dX9_laysRest_139 : decode cX9_laysRest 139 = .ok (.getfield 86, 3) := by decide +kernel
theorem dX9_laysRest_142 : decode cX9_laysRest 142 = .ok (.iload_n 2, 1) := by decide +kernel
theorem dX9_laysRest_143 : decode cX9_laysRest 143 = .ok (.iaload, 1) := by decide +kernel
theorem dX9_laysRest_144 : decode cX9_laysRest 144 = .ok (.iastore, 1) := by decide +kernel
theorem dX9_laysRest_145 : decode cX9_laysRest 145 = .ok (.aload_n 0, 1) := by decide +kernel
theorem dX9_laysRest_146 : decode cX9_laysRest 146 = .ok (.getfield 70, 3) := by decide +kernel
theorem dX9_laysRest_149 : decode cX9_laysRest 149 = .ok (.bipush 7, 2) := by decide +kernel
theorem dX9_laysRest_151 : decode cX9_laysRest 151 = .ok (.iload_n 2, 1) := by decide +kernel
theorem dX9_laysRest_152 : decode cX9_laysRest 152 = .ok (.imul, 1) := by decide +kernel
theorem dX9_laysRest_153 : decode cX9_laysRest 153 = .ok (.bipush 6, 2) := by decide +kernel
theorem dX9_laysRest_155 : decode cX9_laysRest 155 = .ok (.iadd, 1) := by decide +kernel
theorem dX9_laysRest_156 : decode cX9_laysRest 156 = .ok (.aload_n 0, 1) := by decide +kernel
theorem dX9_laysRest_157 : decode cX9_laysRest 157 = .ok (.getfield 86, 3) := by decide +kernel
theorem dX9_laysRest_160 : decode cX9_laysRest 160 = .ok (.iload_n 2, 1) := by decide +kernel
theorem dX9_laysRest_161 : decode cX9_laysRest 161 = .ok (.iaload, 1) := by decide +kernel
theorem dX9_laysRest_162 : decode cX9_laysRest 162 = .ok (.iastore, 1) := by decide +kernel
theorem dX9_laysRest_163 : decode cX9_laysRest 163 = .ok (.iinc 2 1, 3) := by decide +kernel
theorem dX9_laysRest_166 : decode cX9_laysRest 166 = .ok (.goto (-47), 3) := by decide +kernel
theorem dX9_laysRest_169 : decode cX9_laysRest 169 = .ok (.aload_n 0, 1) := by decide +kernel
theorem dX9_laysRest_170 : decode cX9_laysRest 170 = .ok (.getfield 73, 3) := by decide +kernel
theorem dX9_laysRest_173 : decode cX9_laysRest 173 = .ok (.bipush 6, 2) := by decide +kernel
theorem dX9_laysRest_175 : decode cX9_laysRest 175 = .ok (.aload_n 0, 1) := by decide +kernel
theorem dX9_laysRest_176 : decode cX9_laysRest 176 = .ok (.getfield 385, 3) := by decide +kernel
theorem dX9_laysRest_179 : decode cX9_laysRest 179 = .ok (.iastore, 1) := by decide +kernel
theorem dX9_laysRest_180 : decode cX9_laysRest 180 = .ok (.return_, 1) := by decide +kernel
theorem dX9_laysRest_181 : decode cX9_laysRest 181 = .ok (.aload_n 0, 1) := by decide +kernel
theorem dX9_laysRest_182 : decode cX9_laysRest 182 = .ok (.invokevirtual 397, 3) := by decide +kernel
theorem dX9_laysRest_185 : decode cX9_laysRest 185 = .ok (.istore_n 2, 1) := by decide +kernel
theorem dX9_laysRest_186 : decode cX9_laysRest 186 = .ok (.iload_n 2, 1) := by decide +kernel
theorem dX9_laysRest_187 : decode cX9_laysRest 187 = .ok (.ifCond .ne 12, 3) := by decide +kernel
theorem dX9_laysRest_190 : decode cX9_laysRest 190 = .ok (.aload_n 0, 1) := by decide +kernel
theorem dX9_laysRest_191 : decode cX9_laysRest 191 = .ok (.aload_n 0, 1) := by decide +kernel
theorem dX9_laysRest_192 : decode cX9_laysRest 192 = .ok (.getfield 385, 3) := by decide +kernel
theorem dX9_laysRest_195 : decode cX9_laysRest 195 = .ok (.putfield 394, 3) := by decide +kernel
theorem dX9_laysRest_198 : decode cX9_laysRest 198 = .ok (.return_, 1) := by decide +kernel
theorem dX9_laysRest_199 : decode cX9_laysRest 199 = .ok (.aload_n 0, 1) := by decide +kernel
theorem dX9_laysRest_200 : decode cX9_laysRest 200 = .ok (.aload_n 0, 1) := by decide +kernel
theorem dX9_laysRest_201 : decode cX9_laysRest 201 = .ok (.getfield 385, 3) := by decide +kernel
theorem dX9_laysRest_204 : decode cX9_laysRest 204 = .ok (.putfield 391, 3) := by decide +kernel
theorem dX9_laysRest_207 : decode cX9_laysRest 207 = .ok (.iconst 0, 1) := by decide +kernel
theorem dX9_laysRest_208 : decode cX9_laysRest 208 = .ok (.istore_n 3, 1) := by decide +kernel
theorem dX9_laysRest_209 : decode cX9_laysRest 209 = .ok (.iconst 0, 1) := by decide +kernel
theorem dX9_laysRest_210 : decode cX9_laysRest 210 = .ok (.istore 4, 2) := by decide +kernel
theorem dX9_laysRest_212 : decode cX9_laysRest 212 = .ok (.iload 4, 2) := by decide +kernel
theorem dX9_laysRest_214 : decode cX9_laysRest 214 = .ok (.aload_n 0, 1) := by decide +kernel
theorem dX9_laysRest_215 : decode cX9_laysRest 215 = .ok (.getfield 281, 3) := by decide +kernel
theorem dX9_laysRest_218 : decode cX9_laysRest 218 = .ok (.if_icmp .ge 50, 3) := by decide +kernel
theorem dX9_laysRest_221 : decode cX9_laysRest 221 = .ok (.aload_n 0, 1) := by decide +kernel
theorem dX9_laysRest_222 : decode cX9_laysRest 222 = .ok (.iload 4, 2) := by decide +kernel
theorem dX9_laysRest_224 : decode cX9_laysRest 224 = .ok (.invokevirtual 400, 3) := by decide +kernel
theorem dX9_laysRest_227 : decode cX9_laysRest 227 = .ok (.ifCond .eq 35, 3) := by decide +kernel
theorem dX9_laysRest_230 : decode cX9_laysRest 230 = .ok (.aload_n 0, 1) := by decide +kernel
theorem dX9_laysRest_231 : decode cX9_laysRest 231 = .ok (.getfield 76, 3) := by decide +kernel
theorem dX9_laysRest_234 : decode cX9_laysRest 234 = .ok (.iload 4, 2) := by decide +kernel
theorem dX9_laysRest_236 : decode cX9_laysRest 236 = .ok (.aload_n 0, 1) := by decide +kernel
theorem dX9_laysRest_237 : decode cX9_laysRest 237 = .ok (.getfield 385, 3) := by decide +kernel
theorem dX9_laysRest_240 : decode cX9_laysRest 240 = .ok (.iload_n 2, 1) := by decide +kernel
theorem dX9_laysRest_241 : decode cX9_laysRest 241 = .ok (.idiv, 1) := by decide +kernel
theorem dX9_laysRest_242 : decode cX9_laysRest 242 = .ok (.iload_n 3, 1) := by decide +kernel
theorem dX9_laysRest_243 : decode cX9_laysRest 243 = .ok (.aload_n 0, 1) := by decide +kernel
theorem dX9_laysRest_244 : decode cX9_laysRest 244 = .ok (.getfield 385, 3) := by decide +kernel
theorem dX9_laysRest_247 : decode cX9_laysRest 247 = .ok (.iload_n 2, 1) := by decide +kernel
theorem dX9_laysRest_248 : decode cX9_laysRest 248 = .ok (.irem, 1) := by decide +kernel
theorem dX9_laysRest_249 : decode cX9_laysRest 249 = .ok (.if_icmp .ge 7, 3) := by decide +kernel
theorem dX9_laysRest_252 : decode cX9_laysRest 252 = .ok (.iconst 1, 1) := by decide +kernel
theorem dX9_laysRest_253 : decode cX9_laysRest 253 = .ok (.goto 4, 3) := by decide +kernel
theorem dX9_laysRest_256 : decode cX9_laysRest 256 = .ok (.iconst 0, 1) := by decide +kernel
theorem dX9_laysRest_257 : decode cX9_laysRest 257 = .ok (.iadd, 1) := by decide +kernel
theorem dX9_laysRest_258 : decode cX9_laysRest 258 = .ok (.iastore, 1) := by decide +kernel
theorem dX9_laysRest_259 : decode cX9_laysRest 259 = .ok (.iinc 3 1, 3) := by decide +kernel
theorem dX9_laysRest_262 : decode cX9_laysRest 262 = .ok (.iinc 4 1, 3) := by decide +kernel
theorem dX9_laysRest_265 : decode cX9_laysRest 265 = .ok (.goto (-53), 3) := by decide +kernel
theorem dX9_laysRest_268 : decode cX9_laysRest 268 = .ok (.return_, 1) := by decide +kernel
theorem dX9_isHeir_0 : decode cX9_isHeir 0 = .ok (.aload_n 0, 1) := by decide +kernel
theorem dX9_isHeir_1 : decode cX9_isHeir 1 = .ok (.invokevirtual 311, 3) := by decide +kernel
theorem dX9_isHeir_4 : decode cX9_isHeir 4 = .ok (.aload_n 0, 1) := by decide +kernel
theorem dX9_isHeir_5 : decode cX9_isHeir 5 = .ok (.getfield 28, 3) := by decide +kernel
theorem dX9_isHeir_8 : decode cX9_isHeir 8 = .ok (.iload_n 1, 1) := by decide +kernel
theorem dX9_isHeir_9 : decode cX9_isHeir 9 = .ok (.baload, 1) := by decide +kernel
theorem dX9_isHeir_10 : decode cX9_isHeir 10 = .ok (.ifCond .eq 16, 3) := by decide +kernel
theorem dX9_isHeir_13 : decode cX9_isHeir 13 = .ok (.aload_n 0, 1) := by decide +kernel
theorem dX9_isHeir_14 : decode cX9_isHeir 14 = .ok (.getfield 61, 3) := by decide +kernel
theorem dX9_isHeir_17 : decode cX9_isHeir 17 = .ok (.iload_n 1, 1) := by decide +kernel
theorem dX9_isHeir_18 : decode cX9_isHeir 18 = .ok (.iaload, 1) := by decide +kernel
theorem dX9_isHeir_19 : decode cX9_isHeir 19 = .ok (.ifCond .le 7, 3) := by decide +kernel
theorem dX9_isHeir_22 : decode cX9_isHeir 22 = .ok (.iconst 1, 1) := by decide +kernel
theorem dX9_isHeir_23 : decode cX9_isHeir 23 = .ok (.goto 4, 3) := by decide +kernel
theorem dX9_isHeir_26 : decode cX9_isHeir 26 = .ok (.iconst 0, 1) := by decide +kernel
theorem dX9_isHeir_27 : decode cX9_isHeir 27 = .ok (.ireturn, 1) := by decide +kernel
theorem dX9_heirMany_0 : decode cX9_heirMany 0 = .ok (.iconst 0, 1) := by decide +kernel
theorem dX9_heirMany_1 : decode cX9_heirMany 1 = .ok (.istore_n 1, 1) := by decide +kernel
theorem dX9_heirMany_2 : decode cX9_heirMany 2 = .ok (.iconst 0, 1) := by decide +kernel
theorem dX9_heirMany_3 : decode cX9_heirMany 3 = .ok (.istore_n 2, 1) := by decide +kernel
theorem dX9_heirMany_4 : decode cX9_heirMany 4 = .ok (.iload_n 2, 1) := by decide +kernel
theorem dX9_heirMany_5 : decode cX9_heirMany 5 = .ok (.aload_n 0, 1) := by decide +kernel
theorem dX9_heirMany_6 : decode cX9_heirMany 6 = .ok (.getfield 281, 3) := by decide +kernel
theorem dX9_heirMany_9 : decode cX9_heirMany 9 = .ok (.if_icmp .ge 25, 3) := by decide +kernel
theorem dX9_heirMany_12 : decode cX9_heirMany 12 = .ok (.iload_n 1, 1) := by decide +kernel
theorem dX9_heirMany_13 : decode cX9_heirMany 13 = .ok (.aload_n 0, 1) := by decide +kernel
theorem dX9_heirMany_14 : decode cX9_heirMany 14 = .ok (.iload_n 2, 1) := by decide +kernel
theorem dX9_heirMany_15 : decode cX9_heirMany 15 = .ok (.invokevirtual 400, 3) := by decide +kernel
theorem dX9_heirMany_18 : decode cX9_heirMany 18 = .ok (.ifCond .eq 7, 3) := by decide +kernel
theorem dX9_heirMany_21 : decode cX9_heirMany 21 = .ok (.iconst 1, 1) := by decide +kernel
theorem dX9_heirMany_22 : decode cX9_heirMany 22 = .ok (.goto 4, 3) := by decide +kernel
theorem dX9_heirMany_25 : decode cX9_heirMany 25 = .ok (.iconst 0, 1) := by decide +kernel
theorem dX9_heirMany_26 : decode cX9_heirMany 26 = .ok (.iadd, 1) := by decide +kernel
theorem dX9_heirMany_27 : decode cX9_heirMany 27 = .ok (.istore_n 1, 1) := by decide +kernel
theorem dX9_heirMany_28 : decode cX9_heirMany 28 = .ok (.iinc 2 1, 3) := by decide +kernel
theorem dX9_heirMany_31 : decode cX9_heirMany 31 = .ok (.goto (-27), 3) := by decide +kernel
theorem dX9_heirMany_34 : decode cX9_heirMany 34 = .ok (.iload_n 1, 1) := by decide +kernel
theorem dX9_heirMany_35 : decode cX9_heirMany 35 = .ok (.ireturn, 1) := by decide +kernel
theorem dX9_estate_0 : decode cX9_estate 0 = .ok (.aload_n 0, 1) := by decide +kernel
theorem dX9_estate_1 : decode cX9_estate 1 = .ok (.iload_n 1, 1) := by decide +kernel
theorem dX9_estate_2 : decode cX9_estate 2 = .ok (.i2l, 1) := by decide +kernel
theorem dX9_estate_3 : decode cX9_estate 3 = .ok (.lconst 0, 1) := by decide +kernel
theorem dX9_estate_4 : decode cX9_estate 4 = .ok (.ldc2_w 403, 3) := by decide +kernel
theorem dX9_estate_7 : decode cX9_estate 7 = .ok (.invokestatic 143, 3) := by decide +kernel
theorem dX9_estate_10 : decode cX9_estate 10 = .ok (.ifCond .eq 7, 3) := by decide +kernel
theorem dX9_estate_13 : decode cX9_estate 13 = .ok (.iconst 0, 1) := by decide +kernel
theorem dX9_estate_14 : decode cX9_estate 14 = .ok (.goto 4, 3) := by decide +kernel
theorem dX9_estate_17 : decode cX9_estate 17 = .ok (.iconst 1, 1) := by decide +kernel
theorem dX9_estate_18 : decode cX9_estate 18 = .ok (.putfield 98, 3) := by decide +kernel
theorem dX9_estate_21 : decode cX9_estate 21 = .ok (.aload_n 0, 1) := by decide +kernel
theorem dX9_estate_22 : decode cX9_estate 22 = .ok (.getfield 98, 3) := by decide +kernel
theorem dX9_estate_25 : decode cX9_estate 25 = .ok (.ifCond .le 5, 3) := by decide +kernel
theorem dX9_estate_28 : decode cX9_estate 28 = .ok (.iconst 0, 1) := by decide +kernel
theorem dX9_estate_29 : decode cX9_estate 29 = .ok (.ireturn, 1) := by decide +kernel
theorem dX9_estate_30 : decode cX9_estate 30 = .ok (.aload_n 0, 1) := by decide +kernel
theorem dX9_estate_31 : decode cX9_estate 31 = .ok (.invokevirtual 405, 3) := by decide +kernel
theorem dX9_estate_34 : decode cX9_estate 34 = .ok (.aload_n 0, 1) := by decide +kernel
theorem dX9_estate_35 : decode cX9_estate 35 = .ok (.invokevirtual 376, 3) := by decide +kernel
theorem dX9_estate_38 : decode cX9_estate 38 = .ok (.istore_n 2, 1) := by decide +kernel
theorem dX9_estate_39 : decode cX9_estate 39 = .ok (.iload_n 2, 1) := by decide +kernel
theorem dX9_estate_40 : decode cX9_estate 40 = .ok (.aload_n 0, 1) := by decide +kernel
theorem dX9_estate_41 : decode cX9_estate 41 = .ok (.getfield 7, 3) := by decide +kernel
theorem dX9_estate_44 : decode cX9_estate 44 = .ok (.bipush 57, 2) := by decide +kernel
theorem dX9_estate_46 : decode cX9_estate 46 = .ok (.iaload, 1) := by decide +kernel
theorem dX9_estate_47 : decode cX9_estate 47 = .ok (.isub, 1) := by decide +kernel
theorem dX9_estate_48 : decode cX9_estate 48 = .ok (.istore_n 3, 1) := by decide +kernel
theorem dX9_estate_49 : decode cX9_estate 49 = .ok (.iload_n 1, 1) := by decide +kernel
theorem dX9_estate_50 : decode cX9_estate 50 = .ok (.tableswitch 95 0 6 #[42, 44, 54, 65, 70, 75, 80], 42) := by decide +kernel
theorem dX9_estate_92 : decode cX9_estate 92 = .ok (.iload_n 2, 1) := by decide +kernel
theorem dX9_estate_93 : decode cX9_estate 93 = .ok (.ireturn, 1) := by decide +kernel
theorem dX9_estate_94 : decode cX9_estate 94 = .ok (.iload_n 3, 1) := by decide +kernel
theorem dX9_estate_95 : decode cX9_estate 95 = .ok (.ifCond .ge 7, 3) := by decide +kernel
theorem dX9_estate_98 : decode cX9_estate 98 = .ok (.iconst 0, 1) := by decide +kernel
theorem dX9_estate_99 : decode cX9_estate 99 = .ok (.goto 4, 3) := by decide +kernel
theorem dX9_estate_102 : decode cX9_estate 102 = .ok (.iload_n 3, 1) := by decide +kernel
theorem dX9_estate_103 : decode cX9_estate 103 = .ok (.ireturn, 1) := by decide +kernel
theorem dX9_estate_104 : decode cX9_estate 104 = .ok (.iload_n 3, 1) := by decide +kernel
theorem dX9_estate_105 : decode cX9_estate 105 = .ok (.ifCond .ge 8, 3) := by decide +kernel
theorem dX9_estate_108 : decode cX9_estate 108 = .ok (.iload_n 3, 1) := by decide +kernel
theorem dX9_estate_109 : decode cX9_estate 109 = .ok (.ineg, 1) := by decide +kernel
theorem dX9_estate_110 : decode cX9_estate 110 = .ok (.goto 4, 3) := by decide +kernel
theorem dX9_estate_113 : decode cX9_estate 113 = .ok (.iconst 0, 1) := by decide +kernel
theorem dX9_estate_114 : decode cX9_estate 114 = .ok (.ireturn, 1) := by decide +kernel
theorem dX9_estate_115 : decode cX9_estate 115 = .ok (.aload_n 0, 1) := by decide +kernel
theorem dX9_estate_116 : decode cX9_estate 116 = .ok (.getfield 385, 3) := by decide +kernel
theorem dX9_estate_119 : decode cX9_estate 119 = .ok (.ireturn, 1) := by decide +kernel
theorem dX9_estate_120 : decode cX9_estate 120 = .ok (.aload_n 0, 1) := by decide +kernel
theorem dX9_estate_121 : decode cX9_estate 121 = .ok (.getfield 391, 3) := by decide +kernel
theorem dX9_estate_124 : decode cX9_estate 124 = .ok (.ireturn, 1) := by decide +kernel
theorem dX9_estate_125 : decode cX9_estate 125 = .ok (.aload_n 0, 1) := by decide +kernel
theorem dX9_estate_126 : decode cX9_estate 126 = .ok (.getfield 394, 3) := by decide +kernel
theorem dX9_estate_129 : decode cX9_estate 129 = .ok (.ireturn, 1) := by decide +kernel
theorem dX9_estate_130 : decode cX9_estate 130 = .ok (.iload_n 3, 1) := by decide +kernel
theorem dX9_estate_131 : decode cX9_estate 131 = .ok (.ifCond .ge 7, 3) := by decide +kernel
theorem dX9_estate_134 : decode cX9_estate 134 = .ok (.iconst 0, 1) := by decide +kernel
theorem dX9_estate_135 : decode cX9_estate 135 = .ok (.goto 4, 3) := by decide +kernel
theorem dX9_estate_138 : decode cX9_estate 138 = .ok (.iload_n 3, 1) := by decide +kernel
theorem dX9_estate_139 : decode cX9_estate 139 = .ok (.aload_n 0, 1) := by decide +kernel
theorem dX9_estate_140 : decode cX9_estate 140 = .ok (.getfield 385, 3) := by decide +kernel
theorem dX9_estate_143 : decode cX9_estate 143 = .ok (.isub, 1) := by decide +kernel
theorem dX9_estate_144 : decode cX9_estate 144 = .ok (.ireturn, 1) := by decide +kernel
theorem dX9_estate_145 : decode cX9_estate 145 = .ok (.aload_n 0, 1) := by decide +kernel
theorem dX9_estate_146 : decode cX9_estate 146 = .ok (.getfield 365, 3) := by decide +kernel
theorem dX9_estate_149 : decode cX9_estate 149 = .ok (.ireturn, 1) := by decide +kernel
theorem dX9_isClass_0 : decode cX9_isClass 0 = .ok (.iload_n 0, 1) := by decide +kernel
theorem dX9_isClass_1 : decode cX9_isClass 1 = .ok (.i2l, 1) := by decide +kernel
theorem dX9_isClass_2 : decode cX9_isClass 2 = .ok (.lconst 0, 1) := by decide +kernel
theorem dX9_isClass_3 : decode cX9_isClass 3 = .ok (.ldc2_w 196, 3) := by decide +kernel
theorem dX9_isClass_6 : decode cX9_isClass 6 = .ok (.invokestatic 143, 3) := by decide +kernel
theorem dX9_isClass_9 : decode cX9_isClass 9 = .ok (.ireturn, 1) := by decide +kernel
theorem dX9_due_0 : decode cX9_due 0 = .ok (.aload_n 0, 1) := by decide +kernel
theorem dX9_due_1 : decode cX9_due 1 = .ok (.aload_n 0, 1) := by decide +kernel
theorem dX9_due_2 : decode cX9_due 2 = .ok (.iload_n 1, 1) := by decide +kernel
theorem dX9_due_3 : decode cX9_due 3 = .ok (.invokevirtual 319, 3) := by decide +kernel
theorem dX9_due_6 : decode cX9_due 6 = .ok (.ifCond .ne 7, 3) := by decide +kernel
theorem dX9_due_9 : decode cX9_due 9 = .ok (.iconst 1, 1) := by decide +kernel
theorem dX9_due_10 : decode cX9_due 10 = .ok (.goto 15, 3) := by decide +kernel
theorem dX9_due_13 : decode cX9_due 13 = .ok (.iload_n 2, 1) := by decide +kernel
theorem dX9_due_14 : decode cX9_due 14 = .ok (.invokestatic 408, 3) := by decide +kernel
theorem dX9_due_17 : decode cX9_due 17 = .ok (.ifCond .eq 7, 3) := by decide +kernel
theorem dX9_due_20 : decode cX9_due 20 = .ok (.iconst 0, 1) := by decide +kernel
theorem dX9_due_21 : decode cX9_due 21 = .ok (.goto 4, 3) := by decide +kernel
theorem dX9_due_24 : decode cX9_due 24 = .ok (.iconst 2, 1) := by decide +kernel
theorem dX9_due_25 : decode cX9_due 25 = .ok (.putfield 98, 3) := by decide +kernel
theorem dX9_due_28 : decode cX9_due 28 = .ok (.aload_n 0, 1) := by decide +kernel
theorem dX9_due_29 : decode cX9_due 29 = .ok (.getfield 98, 3) := by decide +kernel
theorem dX9_due_32 : decode cX9_due 32 = .ok (.ifCond .le 5, 3) := by decide +kernel
theorem dX9_due_35 : decode cX9_due 35 = .ok (.iconst 0, 1) := by decide +kernel
theorem dX9_due_36 : decode cX9_due 36 = .ok (.ireturn, 1) := by decide +kernel
theorem dX9_due_37 : decode cX9_due 37 = .ok (.aload_n 0, 1) := by decide +kernel
theorem dX9_due_38 : decode cX9_due 38 = .ok (.invokevirtual 405, 3) := by decide +kernel
theorem dX9_due_41 : decode cX9_due 41 = .ok (.aload_n 0, 1) := by decide +kernel
theorem dX9_due_42 : decode cX9_due 42 = .ok (.getfield 67, 3) := by decide +kernel
theorem dX9_due_45 : decode cX9_due 45 = .ok (.bipush 7, 2) := by decide +kernel
theorem dX9_due_47 : decode cX9_due 47 = .ok (.iload_n 1, 1) := by decide +kernel
theorem dX9_due_48 : decode cX9_due 48 = .ok (.imul, 1) := by decide +kernel
theorem dX9_due_49 : decode cX9_due 49 = .ok (.iload_n 2, 1) := by decide +kernel
theorem dX9_due_50 : decode cX9_due 50 = .ok (.iadd, 1) := by decide +kernel
theorem dX9_due_51 : decode cX9_due 51 = .ok (.iaload, 1) := by decide +kernel
theorem dX9_due_52 : decode cX9_due 52 = .ok (.ireturn, 1) := by decide +kernel
theorem dX9_inAll_0 : decode cX9_inAll 0 = .ok (.iconst 0, 1) := by decide +kernel
theorem dX9_inAll_1 : decode cX9_inAll 1 = .ok (.istore 4, 2) := by decide +kernel
theorem dX9_inAll_3 : decode cX9_inAll 3 = .ok (.iconst 0, 1) := by decide +kernel
theorem dX9_inAll_4 : decode cX9_inAll 4 = .ok (.istore 5, 2) := by decide +kernel
theorem dX9_inAll_6 : decode cX9_inAll 6 = .ok (.iload 5, 2) := by decide +kernel
theorem dX9_inAll_8 : decode cX9_inAll 8 = .ok (.iload_n 2, 1) := by decide +kernel
theorem dX9_inAll_9 : decode cX9_inAll 9 = .ok (.if_icmp .ge 23, 3) := by decide +kernel
theorem dX9_inAll_12 : decode cX9_inAll 12 = .ok (.iload 4, 2) := by decide +kernel
theorem dX9_inAll_14 : decode cX9_inAll 14 = .ok (.aload_n 3, 1) := by decide +kernel
theorem dX9_inAll_15 : decode cX9_inAll 15 = .ok (.bipush 7, 2) := by decide +kernel
theorem dX9_inAll_17 : decode cX9_inAll 17 = .ok (.iload_n 1, 1) := by decide +kernel
theorem dX9_inAll_18 : decode cX9_inAll 18 = .ok (.imul, 1) := by decide +kernel
theorem dX9_inAll_19 : decode cX9_inAll 19 = .ok (.iload 5, 2) := by decide +kernel
theorem dX9_inAll_21 : decode cX9_inAll 21 = .ok (.iadd, 1) := by decide +kernel
theorem dX9_inAll_22 : decode cX9_inAll 22 = .ok (.iaload, 1) := by decide +kernel
theorem dX9_inAll_23 : decode cX9_inAll 23 = .ok (.iadd, 1) := by decide +kernel
theorem dX9_inAll_24 : decode cX9_inAll 24 = .ok (.istore 4, 2) := by decide +kernel
theorem dX9_inAll_26 : decode cX9_inAll 26 = .ok (.iinc 5 1, 3) := by decide +kernel
theorem dX9_inAll_29 : decode cX9_inAll 29 = .ok (.goto (-23), 3) := by decide +kernel
theorem dX9_inAll_32 : decode cX9_inAll 32 = .ok (.iload 4, 2) := by decide +kernel
theorem dX9_inAll_34 : decode cX9_inAll 34 = .ok (.ireturn, 1) := by decide +kernel
theorem dX9_gets_0 : decode cX9_gets 0 = .ok (.aload_n 0, 1) := by decide +kernel
theorem dX9_gets_1 : decode cX9_gets 1 = .ok (.aload_n 0, 1) := by decide +kernel
theorem dX9_gets_2 : decode cX9_gets 2 = .ok (.iload_n 1, 1) := by decide +kernel
theorem dX9_gets_3 : decode cX9_gets 3 = .ok (.invokevirtual 319, 3) := by decide +kernel
theorem dX9_gets_6 : decode cX9_gets 6 = .ok (.ifCond .ne 7, 3) := by decide +kernel
theorem dX9_gets_9 : decode cX9_gets 9 = .ok (.iconst 1, 1) := by decide +kernel
theorem dX9_gets_10 : decode cX9_gets 10 = .ok (.goto 20, 3) := by decide +kernel
theorem dX9_gets_13 : decode cX9_gets 13 = .ok (.iload_n 2, 1) := by decide +kernel
theorem dX9_gets_14 : decode cX9_gets 14 = .ok (.iconst (-1), 1) := by decide +kernel
theorem dX9_gets_15 : decode cX9_gets 15 = .ok (.if_icmp .eq 10, 3) := by decide +kernel
theorem dX9_gets_18 : decode cX9_gets 18 = .ok (.iload_n 2, 1) := by decide +kernel
theorem dX9_gets_19 : decode cX9_gets 19 = .ok (.invokestatic 408, 3) := by decide +kernel
theorem dX9_gets_22 : decode cX9_gets 22 = .ok (.ifCond .eq 7, 3) := by decide +kernel
theorem dX9_gets_25 : decode cX9_gets 25 = .ok (.iconst 0, 1) := by decide +kernel
theorem dX9_gets_26 : decode cX9_gets 26 = .ok (.goto 4, 3) := by decide +kernel
theorem dX9_gets_29 : decode cX9_gets 29 = .ok (.iconst 2, 1) := by decide +kernel
theorem dX9_gets_30 : decode cX9_gets 30 = .ok (.putfield 98, 3) := by decide +kernel
theorem dX9_gets_33 : decode cX9_gets 33 = .ok (.aload_n 0, 1) := by decide +kernel
theorem dX9_gets_34 : decode cX9_gets 34 = .ok (.getfield 98, 3) := by decide +kernel
theorem dX9_gets_37 : decode cX9_gets 37 = .ok (.ifCond .le 5, 3) := by decide +kernel
theorem dX9_gets_40 : decode cX9_gets 40 = .ok (.iconst 0, 1) := by decide +kernel
theorem dX9_gets_41 : decode cX9_gets 41 = .ok (.ireturn, 1) := by decide +kernel
theorem dX9_gets_42 : decode cX9_gets 42 = .ok (.aload_n 0, 1) := by decide +kernel
theorem dX9_gets_43 : decode cX9_gets 43 = .ok (.invokevirtual 405, 3) := by decide +kernel
theorem dX9_gets_46 : decode cX9_gets 46 = .ok (.iload_n 2, 1) := by decide +kernel
theorem dX9_gets_47 : decode cX9_gets 47 = .ok (.iconst (-1), 1) := by decide +kernel
theorem dX9_gets_48 : decode cX9_gets 48 = .ok (.if_icmp .ne 17, 3) := by decide +kernel
theorem dX9_gets_51 : decode cX9_gets 51 = .ok (.aload_n 0, 1) := by decide +kernel
theorem dX9_gets_52 : decode cX9_gets 52 = .ok (.iload_n 1, 1) := by decide +kernel
theorem dX9_gets_53 : decode cX9_gets 53 = .ok (.bipush 7, 2) := by decide +kernel
theorem dX9_gets_55 : decode cX9_gets 55 = .ok (.aload_n 0, 1) := by decide +kernel
theorem dX9_gets_56 : decode cX9_gets 56 = .ok (.getfield 70, 3) := by decide +kernel
theorem dX9_gets_59 : decode cX9_gets 59 = .ok (.invokevirtual 411, 3) := by decide +kernel
theorem dX9_gets_62 : decode cX9_gets 62 = .ok (.goto 14, 3) := by decide +kernel
theorem dX9_gets_65 : decode cX9_gets 65 = .ok (.aload_n 0, 1) := by decide +kernel
theorem dX9_gets_66 : decode cX9_gets 66 = .ok (.getfield 70, 3) := by decide +kernel
theorem dX9_gets_69 : decode cX9_gets 69 = .ok (.bipush 7, 2) := by decide +kernel
theorem dX9_gets_71 : decode cX9_gets 71 = .ok (.iload_n 1, 1) := by decide +kernel
theorem dX9_gets_72 : decode cX9_gets 72 = .ok (.imul, 1) := by decide +kernel
theorem dX9_gets_73 : decode cX9_gets 73 = .ok (.iload_n 2, 1) := by decide +kernel
theorem dX9_gets_74 : decode cX9_gets 74 = .ok (.iadd, 1) := by decide +kernel
theorem dX9_gets_75 : decode cX9_gets 75 = .ok (.iaload, 1) := by decide +kernel
theorem dX9_gets_76 : decode cX9_gets 76 = .ok (.ireturn, 1) := by decide +kernel
theorem dX9_classed_0 : decode cX9_classed 0 = .ok (.aload_n 0, 1) := by decide +kernel
theorem dX9_classed_1 : decode cX9_classed 1 = .ok (.iload_n 1, 1) := by decide +kernel
theorem dX9_classed_2 : decode cX9_classed 2 = .ok (.invokestatic 408, 3) := by decide +kernel
theorem dX9_classed_5 : decode cX9_classed 5 = .ok (.ifCond .ne 7, 3) := by decide +kernel
theorem dX9_classed_8 : decode cX9_classed 8 = .ok (.iconst 1, 1) := by decide +kernel
theorem dX9_classed_9 : decode cX9_classed 9 = .ok (.goto 20, 3) := by decide +kernel
theorem dX9_classed_12 : decode cX9_classed 12 = .ok (.iload_n 2, 1) := by decide +kernel
theorem dX9_classed_13 : decode cX9_classed 13 = .ok (.i2l, 1) := by decide +kernel
theorem dX9_classed_14 : decode cX9_classed 14 = .ok (.lconst 0, 1) := by decide +kernel
theorem dX9_classed_15 : decode cX9_classed 15 = .ok (.ldc2_w 415, 3) := by decide +kernel
theorem dX9_classed_18 : decode cX9_classed 18 = .ok (.invokestatic 143, 3) := by decide +kernel
theorem dX9_classed_21 : decode cX9_classed 21 = .ok (.ifCond .eq 7, 3) := by decide +kernel
theorem dX9_classed_24 : decode cX9_classed 24 = .ok (.iconst 0, 1) := by decide +kernel
theorem dX9_classed_25 : decode cX9_classed 25 = .ok (.goto 4, 3) := by decide +kernel
theorem dX9_classed_28 : decode cX9_classed 28 = .ok (.iconst 2, 1) := by decide +kernel
theorem dX9_classed_29 : decode cX9_classed 29 = .ok (.putfield 98, 3) := by decide +kernel
theorem dX9_classed_32 : decode cX9_classed 32 = .ok (.aload_n 0, 1) := by decide +kernel
theorem dX9_classed_33 : decode cX9_classed 33 = .ok (.getfield 98, 3) := by decide +kernel
theorem dX9_classed_36 : decode cX9_classed 36 = .ok (.ifCond .le 5, 3) := by decide +kernel
theorem dX9_classed_39 : decode cX9_classed 39 = .ok (.iconst 0, 1) := by decide +kernel
theorem dX9_classed_40 : decode cX9_classed 40 = .ok (.ireturn, 1) := by decide +kernel
theorem dX9_classed_41 : decode cX9_classed 41 = .ok (.aload_n 0, 1) := by decide +kernel
theorem dX9_classed_42 : decode cX9_classed 42 = .ok (.invokevirtual 405, 3) := by decide +kernel
theorem dX9_classed_45 : decode cX9_classed 45 = .ok (.iconst 0, 1) := by decide +kernel
theorem dX9_classed_46 : decode cX9_classed 46 = .ok (.istore_n 3, 1) := by decide +kernel
theorem dX9_classed_47 : decode cX9_classed 47 = .ok (.iconst 0, 1) := by decide +kernel
theorem dX9_classed_48 : decode cX9_classed 48 = .ok (.istore 4, 2) := by decide +kernel
theorem dX9_classed_50 : decode cX9_classed 50 = .ok (.iload 4, 2) := by decide +kernel
theorem dX9_classed_52 : decode cX9_classed 52 = .ok (.aload_n 0, 1) := by decide +kernel
theorem dX9_classed_53 : decode cX9_classed 53 = .ok (.getfield 275, 3) := by decide +kernel
theorem dX9_classed_56 : decode cX9_classed 56 = .ok (.if_icmp .ge 32, 3) := by decide +kernel
theorem dX9_classed_59 : decode cX9_classed 59 = .ok (.iload_n 3, 1) := by decide +kernel
theorem dX9_classed_60 : decode cX9_classed 60 = .ok (.aload_n 0, 1) := by decide +kernel
theorem dX9_classed_61 : decode cX9_classed 61 = .ok (.getfield 67, 3) := by decide +kernel
theorem dX9_classed_64 : decode cX9_classed 64 = .ok (.bipush 7, 2) := by decide +kernel
theorem dX9_classed_66 : decode cX9_classed 66 = .ok (.iload 4, 2) := by decide +kernel
theorem dX9_classed_68 : decode cX9_classed 68 = .ok (.imul, 1) := by decide +kernel
theorem dX9_classed_69 : decode cX9_classed 69 = .ok (.iload_n 1, 1) := by decide +kernel
theorem dX9_classed_70 : decode cX9_classed 70 = .ok (.iadd, 1) := by decide +kernel
theorem dX9_classed_71 : decode cX9_classed 71 = .ok (.iaload, 1) := by decide +kernel
theorem dX9_classed_72 : decode cX9_classed 72 = .ok (.ifCond .le 7, 3) := by decide +kernel
theorem dX9_classed_75 : decode cX9_classed 75 = .ok (.iconst 1, 1) := by decide +kernel
theorem dX9_classed_76 : decode cX9_classed 76 = .ok (.goto 4, 3) := by decide +kernel
theorem dX9_classed_79 : decode cX9_classed 79 = .ok (.iconst 0, 1) := by decide +kernel
theorem dX9_classed_80 : decode cX9_classed 80 = .ok (.iadd, 1) := by decide +kernel
theorem dX9_classed_81 : decode cX9_classed 81 = .ok (.istore_n 3, 1) := by decide +kernel
theorem dX9_classed_82 : decode cX9_classed 82 = .ok (.iinc 4 1, 3) := by decide +kernel
theorem dX9_classed_85 : decode cX9_classed 85 = .ok (.goto (-35), 3) := by decide +kernel
theorem dX9_classed_88 : decode cX9_classed 88 = .ok (.iload_n 2, 1) := by decide +kernel
theorem dX9_classed_89 : decode cX9_classed 89 = .ok (.ifCond .ne 15, 3) := by decide +kernel
theorem dX9_classed_92 : decode cX9_classed 92 = .ok (.aload_n 0, 1) := by decide +kernel
theorem dX9_classed_93 : decode cX9_classed 93 = .ok (.aload_n 0, 1) := by decide +kernel
theorem dX9_classed_94 : decode cX9_classed 94 = .ok (.getfield 67, 3) := by decide +kernel
theorem dX9_classed_97 : decode cX9_classed 97 = .ok (.iload_n 1, 1) := by decide +kernel
theorem dX9_classed_98 : decode cX9_classed 98 = .ok (.invokevirtual 356, 3) := by decide +kernel
theorem dX9_classed_101 : decode cX9_classed 101 = .ok (.goto 21, 3) := by decide +kernel
theorem dX9_classed_104 : decode cX9_classed 104 = .ok (.iload_n 2, 1) := by decide +kernel
theorem dX9_classed_105 : decode cX9_classed 105 = .ok (.iconst 1, 1) := by decide +kernel
theorem dX9_classed_106 : decode cX9_classed 106 = .ok (.if_icmp .ne 15, 3) := by decide +kernel
theorem dX9_classed_109 : decode cX9_classed 109 = .ok (.aload_n 0, 1) := by decide +kernel
theorem dX9_classed_110 : decode cX9_classed 110 = .ok (.aload_n 0, 1) := by decide +kernel
theorem dX9_classed_111 : decode cX9_classed 111 = .ok (.getfield 70, 3) := by decide +kernel
theorem dX9_classed_114 : decode cX9_classed 114 = .ok (.iload_n 1, 1) := by decide +kernel
theorem dX9_classed_115 : decode cX9_classed 115 = .ok (.invokevirtual 356, 3) := by decide +kernel
theorem dX9_classed_118 : decode cX9_classed 118 = .ok (.goto 4, 3) := by decide +kernel
theorem dX9_classed_121 : decode cX9_classed 121 = .ok (.iload_n 3, 1) := by decide +kernel
theorem dX9_classed_122 : decode cX9_classed 122 = .ok (.ireturn, 1) := by decide +kernel
theorem dX9_itself_0 : decode cX9_itself 0 = .ok (.aload_n 0, 1) := by decide +kernel
theorem dX9_itself_1 : decode cX9_itself 1 = .ok (.aload_n 0, 1) := by decide +kernel
theorem dX9_itself_2 : decode cX9_itself 2 = .ok (.iload_n 1, 1) := by decide +kernel
theorem dX9_itself_3 : decode cX9_itself 3 = .ok (.invokevirtual 319, 3) := by decide +kernel
theorem dX9_itself_6 : decode cX9_itself 6 = .ok (.ifCond .ne 7, 3) := by decide +kernel
theorem dX9_itself_9 : decode cX9_itself 9 = .ok (.iconst 1, 1) := by decide +kernel
theorem dX9_itself_10 : decode cX9_itself 10 = .ok (.goto 17, 3) := by decide +kernel
theorem dX9_itself_13 : decode cX9_itself 13 = .ok (.aload_n 0, 1) := by decide +kernel
theorem dX9_itself_14 : decode cX9_itself 14 = .ok (.iload_n 1, 1) := by decide +kernel
theorem dX9_itself_15 : decode cX9_itself 15 = .ok (.iconst 0, 1) := by decide +kernel
theorem dX9_itself_16 : decode cX9_itself 16 = .ok (.invokevirtual 317, 3) := by decide +kernel

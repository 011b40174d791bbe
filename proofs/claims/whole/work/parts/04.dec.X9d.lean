theorem dX9_itself_19 : decode cX9_itself 19 = .ok (.ifCond .ne 7, 3) := by decide +kernel
theorem dX9_itself_22 : decode cX9_itself 22 = .ok (.iconst 0, 1) := by decide +kernel
theorem dX9_itself_23 : decode cX9_itself 23 = .ok (.goto 4, 3) := by decide +kernel
theorem dX9_itself_26 : decode cX9_itself 26 = .ok (.iconst 2, 1) := by decide +kernel
theorem dX9_itself_27 : decode cX9_itself 27 = .ok (.putfield 98, 3) := by decide +kernel
theorem dX9_itself_30 : decode cX9_itself 30 = .ok (.aload_n 0, 1) := by decide +kernel
theorem dX9_itself_31 : decode cX9_itself 31 = .ok (.getfield 98, 3) := by decide +kernel
theorem dX9_itself_34 : decode cX9_itself 34 = .ok (.ifCond .le 5, 3) := by decide +kernel
theorem dX9_itself_37 : decode cX9_itself 37 = .ok (.iconst 0, 1) := by decide +kernel
theorem dX9_itself_38 : decode cX9_itself 38 = .ok (.ireturn, 1) := by decide +kernel
theorem dX9_itself_39 : decode cX9_itself 39 = .ok (.aload_n 0, 1) := by decide +kernel
theorem dX9_itself_40 : decode cX9_itself 40 = .ok (.invokevirtual 405, 3) := by decide +kernel
theorem dX9_itself_43 : decode cX9_itself 43 = .ok (.aload_n 0, 1) := by decide +kernel
theorem dX9_itself_44 : decode cX9_itself 44 = .ok (.iload_n 1, 1) := by decide +kernel
theorem dX9_itself_45 : decode cX9_itself 45 = .ok (.invokevirtual 322, 3) := by decide +kernel
theorem dX9_itself_48 : decode cX9_itself 48 = .ok (.ifCond .ne 28, 3) := by decide +kernel
theorem dX9_itself_51 : decode cX9_itself 51 = .ok (.aload_n 0, 1) := by decide +kernel
theorem dX9_itself_52 : decode cX9_itself 52 = .ok (.aload_n 0, 1) := by decide +kernel
theorem dX9_itself_53 : decode cX9_itself 53 = .ok (.iload_n 1, 1) := by decide +kernel
theorem dX9_itself_54 : decode cX9_itself 54 = .ok (.iconst 2, 1) := by decide +kernel
theorem dX9_itself_55 : decode cX9_itself 55 = .ok (.invokevirtual 317, 3) := by decide +kernel
theorem dX9_itself_58 : decode cX9_itself 58 = .ok (.iconst 1, 1) := by decide +kernel
theorem dX9_itself_59 : decode cX9_itself 59 = .ok (.invokevirtual 300, 3) := by decide +kernel
theorem dX9_itself_62 : decode cX9_itself 62 = .ok (.ifCond .ne 14, 3) := by decide +kernel
theorem dX9_itself_65 : decode cX9_itself 65 = .ok (.aload_n 0, 1) := by decide +kernel
theorem dX9_itself_66 : decode cX9_itself 66 = .ok (.getfield 365, 3) := by decide +kernel
theorem dX9_itself_69 : decode cX9_itself 69 = .ok (.ifCond .eq 7, 3) := by decide +kernel
theorem dX9_itself_72 : decode cX9_itself 72 = .ok (.iconst 1, 1) := by decide +kernel
theorem dX9_itself_73 : decode cX9_itself 73 = .ok (.goto 4, 3) := by decide +kernel
theorem dX9_itself_76 : decode cX9_itself 76 = .ok (.iconst 0, 1) := by decide +kernel
theorem dX9_itself_77 : decode cX9_itself 77 = .ok (.ireturn, 1) := by decide +kernel
theorem dX9_dueUntil_0 : decode cX9_dueUntil 0 = .ok (.aload_n 0, 1) := by decide +kernel
theorem dX9_dueUntil_1 : decode cX9_dueUntil 1 = .ok (.invokevirtual 373, 3) := by decide +kernel
theorem dX9_dueUntil_4 : decode cX9_dueUntil 4 = .ok (.iconst 0, 1) := by decide +kernel
theorem dX9_dueUntil_5 : decode cX9_dueUntil 5 = .ok (.istore_n 2, 1) := by decide +kernel
theorem dX9_dueUntil_6 : decode cX9_dueUntil 6 = .ok (.iconst 0, 1) := by decide +kernel
theorem dX9_dueUntil_7 : decode cX9_dueUntil 7 = .ok (.istore_n 3, 1) := by decide +kernel
theorem dX9_dueUntil_8 : decode cX9_dueUntil 8 = .ok (.iload_n 3, 1) := by decide +kernel
theorem dX9_dueUntil_9 : decode cX9_dueUntil 9 = .ok (.iload_n 1, 1) := by decide +kernel
theorem dX9_dueUntil_10 : decode cX9_dueUntil 10 = .ok (.if_icmp .gt 18, 3) := by decide +kernel
theorem dX9_dueUntil_13 : decode cX9_dueUntil 13 = .ok (.iload_n 2, 1) := by decide +kernel
theorem dX9_dueUntil_14 : decode cX9_dueUntil 14 = .ok (.aload_n 0, 1) := by decide +kernel
theorem dX9_dueUntil_15 : decode cX9_dueUntil 15 = .ok (.getfield 73, 3) := by decide +kernel
theorem dX9_dueUntil_18 : decode cX9_dueUntil 18 = .ok (.iload_n 3, 1) := by decide +kernel
theorem dX9_dueUntil_19 : decode cX9_dueUntil 19 = .ok (.iaload, 1) := by decide +kernel
theorem dX9_dueUntil_20 : decode cX9_dueUntil 20 = .ok (.iadd, 1) := by decide +kernel
theorem dX9_dueUntil_21 : decode cX9_dueUntil 21 = .ok (.istore_n 2, 1) := by decide +kernel
theorem dX9_dueUntil_22 : decode cX9_dueUntil 22 = .ok (.iinc 3 1, 3) := by decide +kernel
theorem dX9_dueUntil_25 : decode cX9_dueUntil 25 = .ok (.goto (-17), 3) := by decide +kernel
theorem dX9_dueUntil_28 : decode cX9_dueUntil 28 = .ok (.iload_n 2, 1) := by decide +kernel
theorem dX9_dueUntil_29 : decode cX9_dueUntil 29 = .ok (.ireturn, 1) := by decide +kernel
theorem dX9_isEarly_0 : decode cX9_isEarly 0 = .ok (.iload_n 0, 1) := by decide +kernel
theorem dX9_isEarly_1 : decode cX9_isEarly 1 = .ok (.i2l, 1) := by decide +kernel
theorem dX9_isEarly_2 : decode cX9_isEarly 2 = .ok (.lconst 0, 1) := by decide +kernel
theorem dX9_isEarly_3 : decode cX9_isEarly 3 = .ok (.ldc2_w 303, 3) := by decide +kernel
theorem dX9_isEarly_6 : decode cX9_isEarly 6 = .ok (.invokestatic 143, 3) := by decide +kernel
theorem dX9_isEarly_9 : decode cX9_isEarly 9 = .ok (.ireturn, 1) := by decide +kernel
theorem dX9_leastDebt_0 : decode cX9_leastDebt 0 = .ok (.aload_n 0, 1) := by decide +kernel
theorem dX9_leastDebt_1 : decode cX9_leastDebt 1 = .ok (.iload_n 1, 1) := by decide +kernel
theorem dX9_leastDebt_2 : decode cX9_leastDebt 2 = .ok (.invokestatic 417, 3) := by decide +kernel
theorem dX9_leastDebt_5 : decode cX9_leastDebt 5 = .ok (.ifCond .eq 7, 3) := by decide +kernel
theorem dX9_leastDebt_8 : decode cX9_leastDebt 8 = .ok (.iconst 0, 1) := by decide +kernel
theorem dX9_leastDebt_9 : decode cX9_leastDebt 9 = .ok (.goto 4, 3) := by decide +kernel
theorem dX9_leastDebt_12 : decode cX9_leastDebt 12 = .ok (.iconst 1, 1) := by decide +kernel
theorem dX9_leastDebt_13 : decode cX9_leastDebt 13 = .ok (.putfield 98, 3) := by decide +kernel
theorem dX9_leastDebt_16 : decode cX9_leastDebt 16 = .ok (.aload_n 0, 1) := by decide +kernel
theorem dX9_leastDebt_17 : decode cX9_leastDebt 17 = .ok (.getfield 98, 3) := by decide +kernel
theorem dX9_leastDebt_20 : decode cX9_leastDebt 20 = .ok (.ifCond .le 5, 3) := by decide +kernel
theorem dX9_leastDebt_23 : decode cX9_leastDebt 23 = .ok (.iconst 0, 1) := by decide +kernel
theorem dX9_leastDebt_24 : decode cX9_leastDebt 24 = .ok (.ireturn, 1) := by decide +kernel
theorem dX9_leastDebt_25 : decode cX9_leastDebt 25 = .ok (.aload_n 0, 1) := by decide +kernel
theorem dX9_leastDebt_26 : decode cX9_leastDebt 26 = .ok (.iload_n 1, 1) := by decide +kernel
theorem dX9_leastDebt_27 : decode cX9_leastDebt 27 = .ok (.invokevirtual 420, 3) := by decide +kernel
theorem dX9_leastDebt_30 : decode cX9_leastDebt 30 = .ok (.istore_n 2, 1) := by decide +kernel
theorem dX9_leastDebt_31 : decode cX9_leastDebt 31 = .ok (.aload_n 0, 1) := by decide +kernel
theorem dX9_leastDebt_32 : decode cX9_leastDebt 32 = .ok (.getfield 73, 3) := by decide +kernel
theorem dX9_leastDebt_35 : decode cX9_leastDebt 35 = .ok (.iload_n 1, 1) := by decide +kernel
theorem dX9_leastDebt_36 : decode cX9_leastDebt 36 = .ok (.iaload, 1) := by decide +kernel
theorem dX9_leastDebt_37 : decode cX9_leastDebt 37 = .ok (.ifCond .ne 5, 3) := by decide +kernel
theorem dX9_leastDebt_40 : decode cX9_leastDebt 40 = .ok (.iconst (-1), 1) := by decide +kernel
theorem dX9_leastDebt_41 : decode cX9_leastDebt 41 = .ok (.ireturn, 1) := by decide +kernel
theorem dX9_leastDebt_42 : decode cX9_leastDebt 42 = .ok (.aload_n 0, 1) := by decide +kernel
theorem dX9_leastDebt_43 : decode cX9_leastDebt 43 = .ok (.invokevirtual 376, 3) := by decide +kernel
theorem dX9_leastDebt_46 : decode cX9_leastDebt 46 = .ok (.iload_n 2, 1) := by decide +kernel
theorem dX9_leastDebt_47 : decode cX9_leastDebt 47 = .ok (.isub, 1) := by decide +kernel
theorem dX9_leastDebt_48 : decode cX9_leastDebt 48 = .ok (.iconst 1, 1) := by decide +kernel
theorem dX9_leastDebt_49 : decode cX9_leastDebt 49 = .ok (.iadd, 1) := by decide +kernel
theorem dX9_leastDebt_50 : decode cX9_leastDebt 50 = .ok (.istore_n 3, 1) := by decide +kernel
theorem dX9_leastDebt_51 : decode cX9_leastDebt 51 = .ok (.iload_n 3, 1) := by decide +kernel
theorem dX9_leastDebt_52 : decode cX9_leastDebt 52 = .ok (.ifCond .ge 7, 3) := by decide +kernel
theorem dX9_leastDebt_55 : decode cX9_leastDebt 55 = .ok (.iconst 0, 1) := by decide +kernel
theorem dX9_leastDebt_56 : decode cX9_leastDebt 56 = .ok (.goto 4, 3) := by decide +kernel
theorem dX9_leastDebt_59 : decode cX9_leastDebt 59 = .ok (.iload_n 3, 1) := by decide +kernel
theorem dX9_leastDebt_60 : decode cX9_leastDebt 60 = .ok (.ireturn, 1) := by decide +kernel
theorem dX9_needed_0 : decode cX9_needed 0 = .ok (.aload_n 0, 1) := by decide +kernel
theorem dX9_needed_1 : decode cX9_needed 1 = .ok (.iload_n 1, 1) := by decide +kernel
theorem dX9_needed_2 : decode cX9_needed 2 = .ok (.invokestatic 417, 3) := by decide +kernel
theorem dX9_needed_5 : decode cX9_needed 5 = .ok (.ifCond .eq 7, 3) := by decide +kernel
theorem dX9_needed_8 : decode cX9_needed 8 = .ok (.iconst 0, 1) := by decide +kernel
theorem dX9_needed_9 : decode cX9_needed 9 = .ok (.goto 4, 3) := by decide +kernel
theorem dX9_needed_12 : decode cX9_needed 12 = .ok (.iconst 1, 1) := by decide +kernel
theorem dX9_needed_13 : decode cX9_needed 13 = .ok (.putfield 98, 3) := by decide +kernel
theorem dX9_needed_16 : decode cX9_needed 16 = .ok (.aload_n 0, 1) := by decide +kernel
theorem dX9_needed_17 : decode cX9_needed 17 = .ok (.getfield 98, 3) := by decide +kernel
theorem dX9_needed_20 : decode cX9_needed 20 = .ok (.ifCond .le 5, 3) := by decide +kernel
theorem dX9_needed_23 : decode cX9_needed 23 = .ok (.iconst 0, 1) := by decide +kernel
theorem dX9_needed_24 : decode cX9_needed 24 = .ok (.ireturn, 1) := by decide +kernel
theorem dX9_needed_25 : decode cX9_needed 25 = .ok (.aload_n 0, 1) := by decide +kernel
theorem dX9_needed_26 : decode cX9_needed 26 = .ok (.iload_n 1, 1) := by decide +kernel
theorem dX9_needed_27 : decode cX9_needed 27 = .ok (.invokevirtual 420, 3) := by decide +kernel
theorem dX9_needed_30 : decode cX9_needed 30 = .ok (.istore_n 2, 1) := by decide +kernel
theorem dX9_needed_31 : decode cX9_needed 31 = .ok (.iload_n 2, 1) := by decide +kernel
theorem dX9_needed_32 : decode cX9_needed 32 = .ok (.ifCond .ne 7, 3) := by decide +kernel
theorem dX9_needed_35 : decode cX9_needed 35 = .ok (.iconst 0, 1) := by decide +kernel
theorem dX9_needed_36 : decode cX9_needed 36 = .ok (.goto 17, 3) := by decide +kernel
theorem dX9_needed_39 : decode cX9_needed 39 = .ok (.iload_n 2, 1) := by decide +kernel
theorem dX9_needed_40 : decode cX9_needed 40 = .ok (.aload_n 0, 1) := by decide +kernel
theorem dX9_needed_41 : decode cX9_needed 41 = .ok (.getfield 7, 3) := by decide +kernel
theorem dX9_needed_44 : decode cX9_needed 44 = .ok (.bipush 57, 2) := by decide +kernel
theorem dX9_needed_46 : decode cX9_needed 46 = .ok (.iaload, 1) := by decide +kernel
theorem dX9_needed_47 : decode cX9_needed 47 = .ok (.iadd, 1) := by decide +kernel
theorem dX9_needed_48 : decode cX9_needed 48 = .ok (.aload_n 0, 1) := by decide +kernel
theorem dX9_needed_49 : decode cX9_needed 49 = .ok (.invokevirtual 350, 3) := by decide +kernel
theorem dX9_needed_52 : decode cX9_needed 52 = .ok (.isub, 1) := by decide +kernel
theorem dX9_needed_53 : decode cX9_needed 53 = .ok (.istore_n 3, 1) := by decide +kernel
theorem dX9_needed_54 : decode cX9_needed 54 = .ok (.iload_n 3, 1) := by decide +kernel
theorem dX9_needed_55 : decode cX9_needed 55 = .ok (.ldc 240, 2) := by decide +kernel
theorem dX9_needed_57 : decode cX9_needed 57 = .ok (.if_icmp .le 7, 3) := by decide +kernel
theorem dX9_needed_60 : decode cX9_needed 60 = .ok (.iconst (-1), 1) := by decide +kernel
theorem dX9_needed_61 : decode cX9_needed 61 = .ok (.goto 12, 3) := by decide +kernel
theorem dX9_needed_64 : decode cX9_needed 64 = .ok (.iload_n 3, 1) := by decide +kernel
theorem dX9_needed_65 : decode cX9_needed 65 = .ok (.ifCond .ge 7, 3) := by decide +kernel
theorem dX9_needed_68 : decode cX9_needed 68 = .ok (.iconst 0, 1) := by decide +kernel
theorem dX9_needed_69 : decode cX9_needed 69 = .ok (.goto 4, 3) := by decide +kernel
theorem dX9_needed_72 : decode cX9_needed 72 = .ok (.iload_n 3, 1) := by decide +kernel
theorem dX9_needed_73 : decode cX9_needed 73 = .ok (.ireturn, 1) := by decide +kernel
theorem dX9_part_0 : decode cX9_part 0 = .ok (.aload_n 0, 1) := by decide +kernel
theorem dX9_part_1 : decode cX9_part 1 = .ok (.aload_n 0, 1) := by decide +kernel
theorem dX9_part_2 : decode cX9_part 2 = .ok (.iload_n 1, 1) := by decide +kernel
theorem dX9_part_3 : decode cX9_part 3 = .ok (.invokevirtual 319, 3) := by decide +kernel
theorem dX9_part_6 : decode cX9_part 6 = .ok (.ifCond .eq 7, 3) := by decide +kernel
theorem dX9_part_9 : decode cX9_part 9 = .ok (.iconst 0, 1) := by decide +kernel
theorem dX9_part_10 : decode cX9_part 10 = .ok (.goto 4, 3) := by decide +kernel
theorem dX9_part_13 : decode cX9_part 13 = .ok (.iconst 1, 1) := by decide +kernel
theorem dX9_part_14 : decode cX9_part 14 = .ok (.putfield 98, 3) := by decide +kernel
theorem dX9_part_17 : decode cX9_part 17 = .ok (.aload_n 0, 1) := by decide +kernel
theorem dX9_part_18 : decode cX9_part 18 = .ok (.getfield 98, 3) := by decide +kernel
theorem dX9_part_21 : decode cX9_part 21 = .ok (.ifCond .le 5, 3) := by decide +kernel
theorem dX9_part_24 : decode cX9_part 24 = .ok (.iconst 0, 1) := by decide +kernel
theorem dX9_part_25 : decode cX9_part 25 = .ok (.ireturn, 1) := by decide +kernel
theorem dX9_part_26 : decode cX9_part 26 = .ok (.aload_n 0, 1) := by decide +kernel
theorem dX9_part_27 : decode cX9_part 27 = .ok (.invokevirtual 405, 3) := by decide +kernel
theorem dX9_part_30 : decode cX9_part 30 = .ok (.aload_n 0, 1) := by decide +kernel
theorem dX9_part_31 : decode cX9_part 31 = .ok (.iload_n 1, 1) := by decide +kernel
theorem dX9_part_32 : decode cX9_part 32 = .ok (.iconst 5, 1) := by decide +kernel
theorem dX9_part_33 : decode cX9_part 33 = .ok (.aload_n 0, 1) := by decide +kernel
theorem dX9_part_34 : decode cX9_part 34 = .ok (.getfield 67, 3) := by decide +kernel
theorem dX9_part_37 : decode cX9_part 37 = .ok (.invokevirtual 411, 3) := by decide +kernel
theorem dX9_part_40 : decode cX9_part 40 = .ok (.istore_n 2, 1) := by decide +kernel
theorem dX9_part_41 : decode cX9_part 41 = .ok (.iload_n 2, 1) := by decide +kernel
theorem dX9_part_42 : decode cX9_part 42 = .ok (.ifCond .ne 7, 3) := by decide +kernel
theorem dX9_part_45 : decode cX9_part 45 = .ok (.iconst (-1), 1) := by decide +kernel
theorem dX9_part_46 : decode cX9_part 46 = .ok (.goto 19, 3) := by decide +kernel
theorem dX9_part_49 : decode cX9_part 49 = .ok (.sipush 1000, 3) := by decide +kernel
theorem dX9_part_52 : decode cX9_part 52 = .ok (.aload_n 0, 1) := by decide +kernel
theorem dX9_part_53 : decode cX9_part 53 = .ok (.iload_n 1, 1) := by decide +kernel
theorem dX9_part_54 : decode cX9_part 54 = .ok (.iconst 5, 1) := by decide +kernel
theorem dX9_part_55 : decode cX9_part 55 = .ok (.aload_n 0, 1) := by decide +kernel
theorem dX9_part_56 : decode cX9_part 56 = .ok (.getfield 70, 3) := by decide +kernel
theorem dX9_part_59 : decode cX9_part 59 = .ok (.invokevirtual 411, 3) := by decide +kernel
theorem dX9_part_62 : decode cX9_part 62 = .ok (.imul, 1) := by decide +kernel
theorem dX9_part_63 : decode cX9_part 63 = .ok (.iload_n 2, 1) := by decide +kernel
theorem dX9_part_64 : decode cX9_part 64 = .ok (.idiv, 1) := by decide +kernel
theorem dX9_part_65 : decode cX9_part 65 = .ok (.ireturn, 1) := by decide +kernel
theorem dX9_left_0 : decode cX9_left 0 = .ok (.aload_n 0, 1) := by decide +kernel
theorem dX9_left_1 : decode cX9_left 1 = .ok (.aload_n 0, 1) := by decide +kernel
theorem dX9_left_2 : decode cX9_left 2 = .ok (.iload_n 1, 1) := by decide +kernel
theorem dX9_left_3 : decode cX9_left 3 = .ok (.invokevirtual 294, 3) := by decide +kernel
theorem dX9_left_6 : decode cX9_left 6 = .ok (.ifCond .eq 7, 3) := by decide +kernel
theorem dX9_left_9 : decode cX9_left 9 = .ok (.iconst 0, 1) := by decide +kernel
theorem dX9_left_10 : decode cX9_left 10 = .ok (.goto 4, 3) := by decide +kernel
theorem dX9_left_13 : decode cX9_left 13 = .ok (.iconst 1, 1) := by decide +kernel
theorem dX9_left_14 : decode cX9_left 14 = .ok (.putfield 98, 3) := by decide +kernel
theorem dX9_left_17 : decode cX9_left 17 = .ok (.aload_n 0, 1) := by decide +kernel
theorem dX9_left_18 : decode cX9_left 18 = .ok (.getfield 98, 3) := by decide +kernel
theorem dX9_left_21 : decode cX9_left 21 = .ok (.ifCond .le 7, 3) := by decide +kernel
theorem dX9_left_24 : decode cX9_left 24 = .ok (.iconst 0, 1) := by decide +kernel
theorem dX9_left_25 : decode cX9_left 25 = .ok (.goto 12, 3) := by decide +kernel
theorem dX9_left_28 : decode cX9_left 28 = .ok (.aload_n 0, 1) := by decide +kernel
theorem dX9_left_29 : decode cX9_left 29 = .ok (.iload_n 1, 1) := by decide +kernel
theorem dX9_left_30 : decode cX9_left 30 = .ok (.aload_n 0, 1) := by decide +kernel
theorem dX9_left_31 : decode cX9_left 31 = .ok (.getfield 275, 3) := by decide +kernel
theorem dX9_left_34 : decode cX9_left 34 = .ok (.invokevirtual 360, 3) := by decide +kernel
theorem dX9_left_37 : decode cX9_left 37 = .ok (.ireturn, 1) := by decide +kernel
theorem dX9_passes_0 : decode cX9_passes 0 = .ok (.iconst 0, 1) := by decide +kernel
theorem dX9_passes_1 : decode cX9_passes 1 = .ok (.istore_n 3, 1) := by decide +kernel
theorem dX9_passes_2 : decode cX9_passes 2 = .ok (.iload_n 3, 1) := by decide +kernel
theorem dX9_passes_3 : decode cX9_passes 3 = .ok (.aload_n 0, 1) := by decide +kernel
theorem dX9_passes_4 : decode cX9_passes 4 = .ok (.getfield 281, 3) := by decide +kernel
theorem dX9_passes_7 : decode cX9_passes 7 = .ok (.if_icmp .ge 25, 3) := by decide +kernel
theorem dX9_passes_10 : decode cX9_passes 10 = .ok (.aload_n 0, 1) := by decide +kernel
theorem dX9_passes_11 : decode cX9_passes 11 = .ok (.getfield 89, 3) := by decide +kernel
theorem dX9_passes_14 : decode cX9_passes 14 = .ok (.iload_n 3, 1) := by decide +kernel
theorem dX9_passes_15 : decode cX9_passes 15 = .ok (.iload_n 3, 1) := by decide +kernel
theorem dX9_passes_16 : decode cX9_passes 16 = .ok (.iload_n 1, 1) := by decide +kernel
theorem dX9_passes_17 : decode cX9_passes 17 = .ok (.if_icmp .ne 7, 3) := by decide +kernel
theorem dX9_passes_20 : decode cX9_passes 20 = .ok (.iload_n 2, 1) := by decide +kernel
theorem dX9_passes_21 : decode cX9_passes 21 = .ok (.goto 4, 3) := by decide +kernel
theorem dX9_passes_24 : decode cX9_passes 24 = .ok (.iconst 0, 1) := by decide +kernel
theorem dX9_passes_25 : decode cX9_passes 25 = .ok (.iastore, 1) := by decide +kernel
theorem dX9_passes_26 : decode cX9_passes 26 = .ok (.iinc 3 1, 3) := by decide +kernel
theorem dX9_passes_29 : decode cX9_passes 29 = .ok (.goto (-27), 3) := by decide +kernel
theorem dX9_passes_32 : decode cX9_passes 32 = .ok (.aload_n 0, 1) := by decide +kernel
theorem dX9_passes_33 : decode cX9_passes 33 = .ok (.invokevirtual 311, 3) := by decide +kernel
theorem dX9_passes_36 : decode cX9_passes 36 = .ok (.iload_n 1, 1) := by decide +kernel
theorem dX9_passes_37 : decode cX9_passes 37 = .ok (.istore_n 3, 1) := by decide +kernel
theorem dX9_passes_38 : decode cX9_passes 38 = .ok (.iload_n 3, 1) := by decide +kernel
theorem dX9_passes_39 : decode cX9_passes 39 = .ok (.aload_n 0, 1) := by decide +kernel
theorem dX9_passes_40 : decode cX9_passes 40 = .ok (.getfield 281, 3) := by decide +kernel
theorem dX9_passes_43 : decode cX9_passes 43 = .ok (.if_icmp .ge 176, 3) := by decide +kernel
theorem dX9_passes_46 : decode cX9_passes 46 = .ok (.aload_n 0, 1) := by decide +kernel
theorem dX9_passes_47 : decode cX9_passes 47 = .ok (.iload_n 3, 1) := by decide +kernel
theorem dX9_passes_48 : decode cX9_passes 48 = .ok (.invokevirtual 308, 3) := by decide +kernel
theorem dX9_passes_51 : decode cX9_passes 51 = .ok (.ifCond .eq 162, 3) := by decide +kernel
theorem dX9_passes_54 : decode cX9_passes 54 = .ok (.aload_n 0, 1) := by decide +kernel
theorem dX9_passes_55 : decode cX9_passes 55 = .ok (.getfield 89, 3) := by decide +kernel
theorem dX9_passes_58 : decode cX9_passes 58 = .ok (.iload_n 3, 1) := by decide +kernel
theorem dX9_passes_59 : decode cX9_passes 59 = .ok (.iaload, 1) := by decide +kernel
theorem dX9_passes_60 : decode cX9_passes 60 = .ok (.ifCond .ne 6, 3) := by decide +kernel
theorem dX9_passes_63 : decode cX9_passes 63 = .ok (.goto 150, 3) := by decide +kernel
theorem dX9_passes_66 : decode cX9_passes 66 = .ok (.iconst 0, 1) := by decide +kernel
theorem dX9_passes_67 : decode cX9_passes 67 = .ok (.istore 4, 2) := by decide +kernel
theorem dX9_passes_69 : decode cX9_passes 69 = .ok (.iload_n 3, 1) := by decide +kernel
theorem dX9_passes_70 : decode cX9_passes 70 = .ok (.iconst 1, 1) := by decide +kernel
theorem dX9_passes_71 : decode cX9_passes 71 = .ok (.iadd, 1) := by decide +kernel
theorem dX9_passes_72 : decode cX9_passes 72 = .ok (.istore 5, 2) := by decide +kernel
theorem dX9_passes_74 : decode cX9_passes 74 = .ok (.iload 5, 2) := by decide +kernel
theorem dX9_passes_76 : decode cX9_passes 76 = .ok (.aload_n 0, 1) := by decide +kernel
theorem dX9_passes_77 : decode cX9_passes 77 = .ok (.getfield 281, 3) := by decide +kernel
theorem dX9_passes_80 : decode cX9_passes 80 = .ok (.if_icmp .ge 40, 3) := by decide +kernel
theorem dX9_passes_83 : decode cX9_passes 83 = .ok (.iload 4, 2) := by decide +kernel
theorem dX9_passes_85 : decode cX9_passes 85 = .ok (.aload_n 0, 1) := by decide +kernel
theorem dX9_passes_86 : decode cX9_passes 86 = .ok (.getfield 25, 3) := by decide +kernel
theorem dX9_passes_89 : decode cX9_passes 89 = .ok (.iload 5, 2) := by decide +kernel
theorem dX9_passes_91 : decode cX9_passes 91 = .ok (.iaload, 1) := by decide +kernel
theorem dX9_passes_92 : decode cX9_passes 92 = .ok (.iload_n 3, 1) := by decide +kernel
theorem dX9_passes_93 : decode cX9_passes 93 = .ok (.if_icmp .ne 17, 3) := by decide +kernel
theorem dX9_passes_96 : decode cX9_passes 96 = .ok (.aload_n 0, 1) := by decide +kernel
theorem dX9_passes_97 : decode cX9_passes 97 = .ok (.getfield 61, 3) := by decide +kernel
theorem dX9_passes_100 : decode cX9_passes 100 = .ok (.iload 5, 2) := by decide +kernel
theorem dX9_passes_102 : decode cX9_passes 102 = .ok (.iaload, 1) := by decide +kernel
theorem dX9_passes_103 : decode cX9_passes 103 = .ok (.ifCond .le 7, 3) := by decide +kernel
theorem dX9_passes_106 : decode cX9_passes 106 = .ok (.iconst 1, 1) := by decide +kernel
theorem dX9_passes_107 : decode cX9_passes 107 = .ok (.goto 4, 3) := by decide +kernel
theorem dX9_passes_110 : decode cX9_passes 110 = .ok (.iconst 0, 1) := by decide +kernel
theorem dX9_passes_111 : decode cX9_passes 111 = .ok (.iadd, 1) := by decide +kernel
theorem dX9_passes_112 : decode cX9_passes 112 = .ok (.istore 4, 2) := by decide +kernel
theorem dX9_passes_114 : decode cX9_passes 114 = .ok (.iinc 5 1, 3) := by decide +kernel
theorem dX9_passes_117 : decode cX9_passes 117 = .ok (.goto (-43), 3) := by decide +kernel
theorem dX9_passes_120 : decode cX9_passes 120 = .ok (.iconst 0, 1) := by decide +kernel
theorem dX9_passes_121 : decode cX9_passes 121 = .ok (.istore 5, 2) := by decide +kernel
theorem dX9_passes_123 : decode cX9_passes 123 = .ok (.iload_n 3, 1) := by decide +kernel
theorem dX9_passes_124 : decode cX9_passes 124 = .ok (.iconst 1, 1) := by decide +kernel
theorem dX9_passes_125 : decode cX9_passes 125 = .ok (.iadd, 1) := by decide +kernel
theorem dX9_passes_126 : decode cX9_passes 126 = .ok (.istore 6, 2) := by decide +kernel
theorem dX9_passes_128 : decode cX9_passes 128 = .ok (.iload 6, 2) := by decide +kernel
theorem dX9_passes_130 : decode cX9_passes 130 = .ok (.aload_n 0, 1) := by decide +kernel
theorem dX9_passes_131 : decode cX9_passes 131 = .ok (.getfield 281, 3) := by decide +kernel
theorem dX9_passes_134 : decode cX9_passes 134 = .ok (.if_icmp .ge 72, 3) := by decide +kernel
theorem dX9_passes_137 : decode cX9_passes 137 = .ok (.aload_n 0, 1) := by decide +kernel
theorem dX9_passes_138 : decode cX9_passes 138 = .ok (.getfield 25, 3) := by decide +kernel
theorem dX9_passes_141 : decode cX9_passes 141 = .ok (.iload 6, 2) := by decide +kernel
theorem dX9_passes_143 : decode cX9_passes 143 = .ok (.iaload, 1) := by decide +kernel
theorem dX9_passes_144 : decode cX9_passes 144 = .ok (.iload_n 3, 1) := by decide +kernel
theorem dX9_passes_145 : decode cX9_passes 145 = .ok (.if_icmp .ne 55, 3) := by decide +kernel
theorem dX9_passes_148 : decode cX9_passes 148 = .ok (.aload_n 0, 1) := by decide +kernel
theorem dX9_passes_149 : decode cX9_passes 149 = .ok (.getfield 61, 3) := by decide +kernel
theorem dX9_passes_152 : decode cX9_passes 152 = .ok (.iload 6, 2) := by decide +kernel
theorem dX9_passes_154 : decode cX9_passes 154 = .ok (.iaload, 1) := by decide +kernel
theorem dX9_passes_155 : decode cX9_passes 155 = .ok (.ifCond .ne 6, 3) := by decide +kernel
theorem dX9_passes_158 : decode cX9_passes 158 = .ok (.goto 42, 3) := by decide +kernel
theorem dX9_passes_161 : decode cX9_passes 161 = .ok (.aload_n 0, 1) := by decide +kernel
theorem dX9_passes_162 : decode cX9_passes 162 = .ok (.getfield 89, 3) := by decide +kernel
theorem dX9_passes_165 : decode cX9_passes 165 = .ok (.iload 6, 2) := by decide +kernel
theorem dX9_passes_167 : decode cX9_passes 167 = .ok (.aload_n 0, 1) := by decide +kernel
theorem dX9_passes_168 : decode cX9_passes 168 = .ok (.getfield 89, 3) := by decide +kernel
theorem dX9_passes_171 : decode cX9_passes 171 = .ok (.iload_n 3, 1) := by decide +kernel
theorem dX9_passes_172 : decode cX9_passes 172 = .ok (.iaload, 1) := by decide +kernel
theorem dX9_passes_173 : decode cX9_passes 173 = .ok (.iload 4, 2) := by decide +kernel
theorem dX9_passes_175 : decode cX9_passes 175 = .ok (.idiv, 1) := by decide +kernel
theorem dX9_passes_176 : decode cX9_passes 176 = .ok (.iload 5, 2) := by decide +kernel
theorem dX9_passes_178 : decode cX9_passes 178 = .ok (.aload_n 0, 1) := by decide +kernel
theorem dX9_passes_179 : decode cX9_passes 179 = .ok (.getfield 89, 3) := by decide +kernel
theorem dX9_passes_182 : decode cX9_passes 182 = .ok (.iload_n 3, 1) := by decide +kernel
theorem dX9_passes_183 : decode cX9_passes 183 = .ok (.iaload, 1) := by decide +kernel
theorem dX9_passes_184 : decode cX9_passes 184 = .ok (.iload 4, 2) := by decide +kernel
theorem dX9_passes_186 : decode cX9_passes 186 = .ok (.irem, 1) := by decide +kernel
theorem dX9_passes_187 : decode cX9_passes 187 = .ok (.if_icmp .ge 7, 3) := by decide +kernel
theorem dX9_passes_190 : decode cX9_passes 190 = .ok (.iconst 1, 1) := by decide +kernel
theorem dX9_passes_191 : decode cX9_passes 191 = .ok (.goto 4, 3) := by decide +kernel
theorem dX9_passes_194 : decode cX9_passes 194 = .ok (.iconst 0, 1) := by decide +kernel
theorem dX9_passes_195 : decode cX9_passes 195 = .ok (.iadd, 1) := by decide +kernel
theorem dX9_passes_196 : decode cX9_passes 196 = .ok (.iastore, 1) := by decide +kernel
theorem dX9_passes_197 : decode cX9_passes 197 = .ok (.iinc 5 1, 3) := by decide +kernel
theorem dX9_passes_200 : decode cX9_passes 200 = .ok (.iinc 6 1, 3) := by decide +kernel
theorem dX9_passes_203 : decode cX9_passes 203 = .ok (.goto (-75), 3) := by decide +kernel
theorem dX9_passes_206 : decode cX9_passes 206 = .ok (.aload_n 0, 1) := by decide +kernel
theorem dX9_passes_207 : decode cX9_passes 207 = .ok (.getfield 89, 3) := by decide +kernel
theorem dX9_passes_210 : decode cX9_passes 210 = .ok (.iload_n 3, 1) := by decide +kernel
theorem dX9_passes_211 : decode cX9_passes 211 = .ok (.iconst 0, 1) := by decide +kernel
theorem dX9_passes_212 : decode cX9_passes 212 = .ok (.iastore, 1) := by decide +kernel
theorem dX9_passes_213 : decode cX9_passes 213 = .ok (.iinc 3 1, 3) := by decide +kernel
theorem dX9_passes_216 : decode cX9_passes 216 = .ok (.goto (-178), 3) := by decide +kernel
theorem dX9_passes_219 : decode cX9_passes 219 = .ok (.return_, 1) := by decide +kernel
theorem dX9_takesOf_0 : decode cX9_takesOf 0 = .ok (.iconst 0, 1) := by decide +kernel
theorem dX9_takesOf_1 : decode cX9_takesOf 1 = .ok (.istore_n 3, 1) := by decide +kernel
theorem dX9_takesOf_2 : decode cX9_takesOf 2 = .ok (.iconst 0, 1) := by decide +kernel
theorem dX9_takesOf_3 : decode cX9_takesOf 3 = .ok (.istore 4, 2) := by decide +kernel
theorem dX9_takesOf_5 : decode cX9_takesOf 5 = .ok (.iload 4, 2) := by decide +kernel
theorem dX9_takesOf_7 : decode cX9_takesOf 7 = .ok (.bipush 7, 2) := by decide +kernel
theorem dX9_takesOf_9 : decode cX9_takesOf 9 = .ok (.if_icmp .ge 55, 3) := by decide +kernel
theorem dX9_takesOf_12 : decode cX9_takesOf 12 = .ok (.aload_n 0, 1) := by decide +kernel
theorem dX9_takesOf_13 : decode cX9_takesOf 13 = .ok (.getfield 70, 3) := by decide +kernel
theorem dX9_takesOf_16 : decode cX9_takesOf 16 = .ok (.bipush 7, 2) := by decide +kernel
theorem dX9_takesOf_18 : decode cX9_takesOf 18 = .ok (.iload_n 1, 1) := by decide +kernel
theorem dX9_takesOf_19 : decode cX9_takesOf 19 = .ok (.imul, 1) := by decide +kernel
theorem dX9_takesOf_20 : decode cX9_takesOf 20 = .ok (.iload 4, 2) := by decide +kernel
theorem dX9_takesOf_22 : decode cX9_takesOf 22 = .ok (.iadd, 1) := by decide +kernel
theorem dX9_takesOf_23 : decode cX9_takesOf 23 = .ok (.iaload, 1) := by decide +kernel
theorem dX9_takesOf_24 : decode cX9_takesOf 24 = .ok (.ifCond .le 34, 3) := by decide +kernel
theorem dX9_takesOf_27 : decode cX9_takesOf 27 = .ok (.aload_n 0, 1) := by decide +kernel
theorem dX9_takesOf_28 : decode cX9_takesOf 28 = .ok (.aload_n 0, 1) := by decide +kernel
theorem dX9_takesOf_29 : decode cX9_takesOf 29 = .ok (.iload_n 1, 1) := by decide +kernel
theorem dX9_takesOf_30 : decode cX9_takesOf 30 = .ok (.iconst 1, 1) := by decide +kernel
theorem dX9_takesOf_31 : decode cX9_takesOf 31 = .ok (.invokevirtual 317, 3) := by decide +kernel
theorem dX9_takesOf_34 : decode cX9_takesOf 34 = .ok (.aload_n 0, 1) := by decide +kernel
theorem dX9_takesOf_35 : decode cX9_takesOf 35 = .ok (.getfield 70, 3) := by decide +kernel
theorem dX9_takesOf_38 : decode cX9_takesOf 38 = .ok (.bipush 7, 2) := by decide +kernel
theorem dX9_takesOf_40 : decode cX9_takesOf 40 = .ok (.iload_n 1, 1) := by decide +kernel
theorem dX9_takesOf_41 : decode cX9_takesOf 41 = .ok (.imul, 1) := by decide +kernel
theorem dX9_takesOf_42 : decode cX9_takesOf 42 = .ok (.iload 4, 2) := by decide +kernel
theorem dX9_takesOf_44 : decode cX9_takesOf 44 = .ok (.iadd, 1) := by decide +kernel
theorem dX9_takesOf_45 : decode cX9_takesOf 45 = .ok (.iaload, 1) := by decide +kernel
theorem dX9_takesOf_46 : decode cX9_takesOf 46 = .ok (.invokevirtual 423, 3) := by decide +kernel
theorem dX9_takesOf_49 : decode cX9_takesOf 49 = .ok (.iload_n 3, 1) := by decide +kernel
theorem dX9_takesOf_50 : decode cX9_takesOf 50 = .ok (.aload_n 0, 1) := by decide +kernel
theorem dX9_takesOf_51 : decode cX9_takesOf 51 = .ok (.getfield 89, 3) := by decide +kernel
theorem dX9_takesOf_54 : decode cX9_takesOf 54 = .ok (.iload_n 2, 1) := by decide +kernel
theorem dX9_takesOf_55 : decode cX9_takesOf 55 = .ok (.iaload, 1) := by decide +kernel
theorem dX9_takesOf_56 : decode cX9_takesOf 56 = .ok (.iadd, 1) := by decide +kernel
theorem dX9_takesOf_57 : decode cX9_takesOf 57 = .ok (.istore_n 3, 1) := by decide +kernel
theorem dX9_takesOf_58 : decode cX9_takesOf 58 = .ok (.iinc 4 1, 3) := by decide +kernel
theorem dX9_takesOf_61 : decode cX9_takesOf 61 = .ok (.goto (-56), 3) := by decide +kernel
theorem dX9_takesOf_64 : decode cX9_takesOf 64 = .ok (.iload_n 3, 1) := by decide +kernel
theorem dX9_takesOf_65 : decode cX9_takesOf 65 = .ok (.ireturn, 1) := by decide +kernel
theorem dX9_takes_0 : decode cX9_takes 0 = .ok (.aload_n 0, 1) := by decide +kernel
theorem dX9_takes_1 : decode cX9_takes 1 = .ok (.aload_n 0, 1) := by decide +kernel
theorem dX9_takes_2 : decode cX9_takes 2 = .ok (.iload_n 1, 1) := by decide +kernel
theorem dX9_takes_3 : decode cX9_takes 3 = .ok (.invokevirtual 319, 3) := by decide +kernel
theorem dX9_takes_6 : decode cX9_takes 6 = .ok (.ifCond .eq 15, 3) := by decide +kernel
theorem dX9_takes_9 : decode cX9_takes 9 = .ok (.aload_n 0, 1) := by decide +kernel
theorem dX9_takes_10 : decode cX9_takes 10 = .ok (.iload_n 2, 1) := by decide +kernel
theorem dX9_takes_11 : decode cX9_takes 11 = .ok (.invokevirtual 290, 3) := by decide +kernel
theorem dX9_takes_14 : decode cX9_takes 14 = .ok (.ifCond .eq 7, 3) := by decide +kernel
theorem dX9_takes_17 : decode cX9_takes 17 = .ok (.iconst 0, 1) := by decide +kernel
theorem dX9_takes_18 : decode cX9_takes 18 = .ok (.goto 4, 3) := by decide +kernel
theorem dX9_takes_21 : decode cX9_takes 21 = .ok (.iconst 1, 1) := by decide +kernel
theorem dX9_takes_22 : decode cX9_takes 22 = .ok (.putfield 98, 3) := by decide +kernel
theorem dX9_takes_25 : decode cX9_takes 25 = .ok (.aload_n 0, 1) := by decide +kernel
theorem dX9_takes_26 : decode cX9_takes 26 = .ok (.getfield 98, 3) := by decide +kernel
theorem dX9_takes_29 : decode cX9_takes 29 = .ok (.ifCond .le 5, 3) := by decide +kernel
theorem dX9_takes_32 : decode cX9_takes 32 = .ok (.iconst 0, 1) := by decide +kernel
theorem dX9_takes_33 : decode cX9_takes 33 = .ok (.ireturn, 1) := by decide +kernel
theorem dX9_takes_34 : decode cX9_takes 34 = .ok (.aload_n 0, 1) := by decide +kernel
theorem dX9_takes_35 : decode cX9_takes 35 = .ok (.invokevirtual 405, 3) := by decide +kernel
theorem dX9_takes_38 : decode cX9_takes 38 = .ok (.aload_n 0, 1) := by decide +kernel
theorem dX9_takes_39 : decode cX9_takes 39 = .ok (.iload_n 1, 1) := by decide +kernel
theorem dX9_takes_40 : decode cX9_takes 40 = .ok (.iload_n 2, 1) := by decide +kernel
theorem dX9_takes_41 : decode cX9_takes 41 = .ok (.invokevirtual 427, 3) := by decide +kernel
theorem dX9_takes_44 : decode cX9_takes 44 = .ok (.ireturn, 1) := by decide +kernel
theorem dX9_intestateOf_0 : decode cX9_intestateOf 0 = .ok (.iconst 0, 1) := by decide +kernel
theorem dX9_intestateOf_1 : decode cX9_intestateOf 1 = .ok (.istore_n 2, 1) := by decide +kernel
theorem dX9_intestateOf_2 : decode cX9_intestateOf 2 = .ok (.iconst 0, 1) := by decide +kernel
theorem dX9_intestateOf_3 : decode cX9_intestateOf 3 = .ok (.istore_n 3, 1) := by decide +kernel
theorem dX9_intestateOf_4 : decode cX9_intestateOf 4 = .ok (.iload_n 3, 1) := by decide +kernel
theorem dX9_intestateOf_5 : decode cX9_intestateOf 5 = .ok (.aload_n 0, 1) := by decide +kernel
theorem dX9_intestateOf_6 : decode cX9_intestateOf 6 = .ok (.getfield 281, 3) := by decide +kernel
theorem dX9_intestateOf_9 : decode cX9_intestateOf 9 = .ok (.if_icmp .ge 38, 3) := by decide +kernel
theorem dX9_intestateOf_12 : decode cX9_intestateOf 12 = .ok (.aload_n 0, 1) := by decide +kernel
theorem dX9_intestateOf_13 : decode cX9_intestateOf 13 = .ok (.getfield 76, 3) := by decide +kernel
theorem dX9_intestateOf_16 : decode cX9_intestateOf 16 = .ok (.iload_n 3, 1) := by decide +kernel
theorem dX9_intestateOf_17 : decode cX9_intestateOf 17 = .ok (.iaload, 1) := by decide +kernel
theorem dX9_intestateOf_18 : decode cX9_intestateOf 18 = .ok (.ifCond .le 23, 3) := by decide +kernel
theorem dX9_intestateOf_21 : decode cX9_intestateOf 21 = .ok (.aload_n 0, 1) := by decide +kernel
theorem dX9_intestateOf_22 : decode cX9_intestateOf 22 = .ok (.iload_n 3, 1) := by decide +kernel
theorem dX9_intestateOf_23 : decode cX9_intestateOf 23 = .ok (.aload_n 0, 1) := by decide +kernel
theorem dX9_intestateOf_24 : decode cX9_intestateOf 24 = .ok (.getfield 76, 3) := by decide +kernel
theorem dX9_intestateOf_27 : decode cX9_intestateOf 27 = .ok (.iload_n 3, 1) := by decide +kernel
theorem dX9_intestateOf_28 : decode cX9_intestateOf 28 = .ok (.iaload, 1) := by decide +kernel
theorem dX9_intestateOf_29 : decode cX9_intestateOf 29 = .ok (.invokevirtual 423, 3) := by decide +kernel
theorem dX9_intestateOf_32 : decode cX9_intestateOf 32 = .ok (.iload_n 2, 1) := by decide +kernel
theorem dX9_intestateOf_33 : decode cX9_intestateOf 33 = .ok (.aload_n 0, 1) := by decide +kernel
theorem dX9_intestateOf_34 : decode cX9_intestateOf 34 = .ok (.getfield 89, 3) := by decide +kernel
theorem dX9_intestateOf_37 : decode cX9_intestateOf 37 = .ok (.iload_n 1, 1) := by decide +kernel
theorem dX9_intestateOf_38 : decode cX9_intestateOf 38 = .ok (.iaload, 1) := by decide +kernel
theorem dX9_intestateOf_39 : decode cX9_intestateOf 39 = .ok (.iadd, 1) := by decide +kernel
theorem dX9_intestateOf_40 : decode cX9_intestateOf 40 = .ok (.istore_n 2, 1) := by decide +kernel
theorem dX9_intestateOf_41 : decode cX9_intestateOf 41 = .ok (.iinc 3 1, 3) := by decide +kernel
theorem dX9_intestateOf_44 : decode cX9_intestateOf 44 = .ok (.goto (-40), 3) := by decide +kernel
theorem dX9_intestateOf_47 : decode cX9_intestateOf 47 = .ok (.iload_n 2, 1) := by decide +kernel
theorem dX9_intestateOf_48 : decode cX9_intestateOf 48 = .ok (.ireturn, 1) := by decide +kernel
theorem dX9_takesAllOf_0 : decode cX9_takesAllOf 0 = .ok (.aload_n 0, 1) := by decide +kernel
theorem dX9_takesAllOf_1 : decode cX9_takesAllOf 1 = .ok (.invokevirtual 405, 3) := by decide +kernel
theorem dX9_takesAllOf_4 : decode cX9_takesAllOf 4 = .ok (.aload_n 0, 1) := by decide +kernel
theorem dX9_takesAllOf_5 : decode cX9_takesAllOf 5 = .ok (.iload_n 1, 1) := by decide +kernel
theorem dX9_takesAllOf_6 : decode cX9_takesAllOf 6 = .ok (.invokevirtual 430, 3) := by decide +kernel
theorem dX9_takesAllOf_9 : decode cX9_takesAllOf 9 = .ok (.istore_n 2, 1) := by decide +kernel
theorem dX9_takesAllOf_10 : decode cX9_takesAllOf 10 = .ok (.iconst 0, 1) := by decide +kernel
theorem dX9_takesAllOf_11 : decode cX9_takesAllOf 11 = .ok (.istore_n 3, 1) := by decide +kernel
theorem dX9_takesAllOf_12 : decode cX9_takesAllOf 12 = .ok (.iload_n 3, 1) := by decide +kernel
theorem dX9_takesAllOf_13 : decode cX9_takesAllOf 13 = .ok (.aload_n 0, 1) := by decide +kernel
theorem dX9_takesAllOf_14 : decode cX9_takesAllOf 14 = .ok (.getfield 275, 3) := by decide +kernel
theorem dX9_takesAllOf_17 : decode cX9_takesAllOf 17 = .ok (.if_icmp .ge 18, 3) := by decide +kernel
theorem dX9_takesAllOf_20 : decode cX9_takesAllOf 20 = .ok (.iload_n 2, 1) := by decide +kernel
theorem dX9_takesAllOf_21 : decode cX9_takesAllOf 21 = .ok (.aload_n 0, 1) := by decide +kernel
theorem dX9_takesAllOf_22 : decode cX9_takesAllOf 22 = .ok (.iload_n 3, 1) := by decide +kernel
theorem dX9_takesAllOf_23 : decode cX9_takesAllOf 23 = .ok (.iload_n 1, 1) := by decide +kernel
theorem dX9_takesAllOf_24 : decode cX9_takesAllOf 24 = .ok (.invokevirtual 427, 3) := by decide +kernel
theorem dX9_takesAllOf_27 : decode cX9_takesAllOf 27 = .ok (.iadd, 1) := by decide +kernel
theorem dX9_takesAllOf_28 : decode cX9_takesAllOf 28 = .ok (.istore_n 2, 1) := by decide +kernel
theorem dX9_takesAllOf_29 : decode cX9_takesAllOf 29 = .ok (.iinc 3 1, 3) := by decide +kernel
theorem dX9_takesAllOf_32 : decode cX9_takesAllOf 32 = .ok (.goto (-20), 3) := by decide +kernel
theorem dX9_takesAllOf_35 : decode cX9_takesAllOf 35 = .ok (.iload_n 2, 1) := by decide +kernel
theorem dX9_takesAllOf_36 : decode cX9_takesAllOf 36 = .ok (.ireturn, 1) := by decide +kernel
theorem dX9_taken_0 : decode cX9_taken 0 = .ok (.aload_n 0, 1) := by decide +kernel
theorem dX9_taken_1 : decode cX9_taken 1 = .ok (.aload_n 0, 1) := by decide +kernel
theorem dX9_taken_2 : decode cX9_taken 2 = .ok (.iload_n 1, 1) := by decide +kernel
theorem dX9_taken_3 : decode cX9_taken 3 = .ok (.invokevirtual 290, 3) := by decide +kernel
theorem dX9_taken_6 : decode cX9_taken 6 = .ok (.ifCond .ne 7, 3) := by decide +kernel
theorem dX9_taken_9 : decode cX9_taken 9 = .ok (.iconst 1, 1) := by decide +kernel
theorem dX9_taken_10 : decode cX9_taken 10 = .ok (.goto 20, 3) := by decide +kernel
theorem dX9_taken_13 : decode cX9_taken 13 = .ok (.iload_n 2, 1) := by decide +kernel
theorem dX9_taken_14 : decode cX9_taken 14 = .ok (.i2l, 1) := by decide +kernel
theorem dX9_taken_15 : decode cX9_taken 15 = .ok (.lconst 0, 1) := by decide +kernel
theorem dX9_taken_16 : decode cX9_taken 16 = .ok (.ldc2_w 415, 3) := by decide +kernel
theorem dX9_taken_19 : decode cX9_taken 19 = .ok (.invokestatic 143, 3) := by decide +kernel
theorem dX9_taken_22 : decode cX9_taken 22 = .ok (.ifCond .eq 7, 3) := by decide +kernel
theorem dX9_taken_25 : decode cX9_taken 25 = .ok (.iconst 0, 1) := by decide +kernel
theorem dX9_taken_26 : decode cX9_taken 26 = .ok (.goto 4, 3) := by decide +kernel
theorem dX9_taken_29 : decode cX9_taken 29 = .ok (.iconst 2, 1) := by decide +kernel
theorem dX9_taken_30 : decode cX9_taken 30 = .ok (.putfield 98, 3) := by decide +kernel
theorem dX9_taken_33 : decode cX9_taken 33 = .ok (.aload_n 0, 1) := by decide +kernel
theorem dX9_taken_34 : decode cX9_taken 34 = .ok (.getfield 98, 3) := by decide +kernel
theorem dX9_taken_37 : decode cX9_taken 37 = .ok (.ifCond .le 5, 3) := by decide +kernel
theorem dX9_taken_40 : decode cX9_taken 40 = .ok (.iconst 0, 1) := by decide +kernel
theorem dX9_taken_41 : decode cX9_taken 41 = .ok (.ireturn, 1) := by decide +kernel
theorem dX9_taken_42 : decode cX9_taken 42 = .ok (.aload_n 0, 1) := by decide +kernel
theorem dX9_taken_43 : decode cX9_taken 43 = .ok (.iload_n 1, 1) := by decide +kernel
theorem dX9_taken_44 : decode cX9_taken 44 = .ok (.invokevirtual 433, 3) := by decide +kernel
theorem dX9_taken_47 : decode cX9_taken 47 = .ok (.istore_n 3, 1) := by decide +kernel
theorem dX9_taken_48 : decode cX9_taken 48 = .ok (.iload_n 2, 1) := by decide +kernel
theorem dX9_taken_49 : decode cX9_taken 49 = .ok (.iconst 2, 1) := by decide +kernel
theorem dX9_taken_50 : decode cX9_taken 50 = .ok (.if_icmp .ge 17, 3) := by decide +kernel
theorem dX9_taken_53 : decode cX9_taken 53 = .ok (.iload_n 2, 1) := by decide +kernel
theorem dX9_taken_54 : decode cX9_taken 54 = .ok (.ifCond .ne 7, 3) := by decide +kernel
theorem dX9_taken_57 : decode cX9_taken 57 = .ok (.iload_n 3, 1) := by decide +kernel
theorem dX9_taken_58 : decode cX9_taken 58 = .ok (.goto 8, 3) := by decide +kernel
theorem dX9_taken_61 : decode cX9_taken 61 = .ok (.aload_n 0, 1) := by decide +kernel
theorem dX9_taken_62 : decode cX9_taken 62 = .ok (.iload_n 1, 1) := by decide +kernel
theorem dX9_taken_63 : decode cX9_taken 63 = .ok (.invokevirtual 430, 3) := by decide +kernel
theorem dX9_taken_66 : decode cX9_taken 66 = .ok (.ireturn, 1) := by decide +kernel
theorem dX9_taken_67 : decode cX9_taken 67 = .ok (.iconst 0, 1) := by decide +kernel
theorem dX9_taken_68 : decode cX9_taken 68 = .ok (.istore 4, 2) := by decide +kernel
theorem dX9_taken_70 : decode cX9_taken 70 = .ok (.iconst 0, 1) := by decide +kernel
theorem dX9_taken_71 : decode cX9_taken 71 = .ok (.istore 5, 2) := by decide +kernel
theorem dX9_taken_73 : decode cX9_taken 73 = .ok (.iload 5, 2) := by decide +kernel
theorem dX9_taken_75 : decode cX9_taken 75 = .ok (.aload_n 0, 1) := by decide +kernel
theorem dX9_taken_76 : decode cX9_taken 76 = .ok (.getfield 275, 3) := by decide +kernel
theorem dX9_taken_79 : decode cX9_taken 79 = .ok (.if_icmp .ge 36, 3) := by decide +kernel
theorem dX9_taken_82 : decode cX9_taken 82 = .ok (.iload 4, 2) := by decide +kernel
theorem dX9_taken_84 : decode cX9_taken 84 = .ok (.aload_n 0, 1) := by decide +kernel
theorem dX9_taken_85 : decode cX9_taken 85 = .ok (.iload 5, 2) := by decide +kernel
theorem dX9_taken_87 : decode cX9_taken 87 = .ok (.iconst 1, 1) := by decide +kernel
theorem dX9_taken_88 : decode cX9_taken 88 = .ok (.invokevirtual 317, 3) := by decide +kernel
theorem dX9_taken_91 : decode cX9_taken 91 = .ok (.iload_n 1, 1) := by decide +kernel
theorem dX9_taken_92 : decode cX9_taken 92 = .ok (.if_icmp .ne 7, 3) := by decide +kernel
theorem dX9_taken_95 : decode cX9_taken 95 = .ok (.iconst 0, 1) := by decide +kernel
theorem dX9_taken_96 : decode cX9_taken 96 = .ok (.goto 10, 3) := by decide +kernel
theorem dX9_taken_99 : decode cX9_taken 99 = .ok (.aload_n 0, 1) := by decide +kernel
theorem dX9_taken_100 : decode cX9_taken 100 = .ok (.iload 5, 2) := by decide +kernel
theorem dX9_taken_102 : decode cX9_taken 102 = .ok (.iload_n 1, 1) := by decide +kernel
theorem dX9_taken_103 : decode cX9_taken 103 = .ok (.invokevirtual 427, 3) := by decide +kernel
theorem dX9_taken_106 : decode cX9_taken 106 = .ok (.iadd, 1) := by decide +kernel
theorem dX9_taken_107 : decode cX9_taken 107 = .ok (.istore 4, 2) := by decide +kernel
theorem dX9_taken_109 : decode cX9_taken 109 = .ok (.iinc 5 1, 3) := by decide +kernel
theorem dX9_taken_112 : decode cX9_taken 112 = .ok (.goto (-39), 3) := by decide +kernel
theorem dX9_taken_115 : decode cX9_taken 115 = .ok (.iload 4, 2) := by decide +kernel
theorem dX9_taken_117 : decode cX9_taken 117 = .ok (.ireturn, 1) := by decide +kernel
theorem dX9_stock_0 : decode cX9_stock 0 = .ok (.aload_n 0, 1) := by decide +kernel
theorem dX9_stock_1 : decode cX9_stock 1 = .ok (.aload_n 0, 1) := by decide +kernel
theorem dX9_stock_2 : decode cX9_stock 2 = .ok (.iload_n 1, 1) := by decide +kernel
theorem dX9_stock_3 : decode cX9_stock 3 = .ok (.invokevirtual 290, 3) := by decide +kernel
theorem dX9_stock_6 : decode cX9_stock 6 = .ok (.ifCond .eq 7, 3) := by decide +kernel
theorem dX9_stock_9 : decode cX9_stock 9 = .ok (.iconst 0, 1) := by decide +kernel
theorem dX9_stock_10 : decode cX9_stock 10 = .ok (.goto 4, 3) := by decide +kernel
theorem dX9_stock_13 : decode cX9_stock 13 = .ok (.iconst 1, 1) := by decide +kernel
theorem dX9_stock_14 : decode cX9_stock 14 = .ok (.putfield 98, 3) := by decide +kernel
theorem dX9_stock_17 : decode cX9_stock 17 = .ok (.aload_n 0, 1) := by decide +kernel
theorem dX9_stock_18 : decode cX9_stock 18 = .ok (.getfield 98, 3) := by decide +kernel
theorem dX9_stock_21 : decode cX9_stock 21 = .ok (.ifCond .le 5, 3) := by decide +kernel
theorem dX9_stock_24 : decode cX9_stock 24 = .ok (.iconst 0, 1) := by decide +kernel
theorem dX9_stock_25 : decode cX9_stock 25 = .ok (.ireturn, 1) := by decide +kernel
theorem dX9_stock_26 : decode cX9_stock 26 = .ok (.aload_n 0, 1) := by decide +kernel
theorem dX9_stock_27 : decode cX9_stock 27 = .ok (.iload_n 1, 1) := by decide +kernel
theorem dX9_stock_28 : decode cX9_stock 28 = .ok (.invokevirtual 436, 3) := by decide +kernel
theorem dX9_stock_31 : decode cX9_stock 31 = .ok (.iconst 0, 1) := by decide +kernel
theorem dX9_stock_32 : decode cX9_stock 32 = .ok (.istore_n 3, 1) := by decide +kernel
theorem dX9_stock_33 : decode cX9_stock 33 = .ok (.iload_n 1, 1) := by decide +kernel
theorem dX9_stock_34 : decode cX9_stock 34 = .ok (.istore 4, 2) := by decide +kernel
theorem dX9_stock_36 : decode cX9_stock 36 = .ok (.iload 4, 2) := by decide +kernel
theorem dX9_stock_38 : decode cX9_stock 38 = .ok (.aload_n 0, 1) := by decide +kernel
theorem dX9_stock_39 : decode cX9_stock 39 = .ok (.getfield 281, 3) := by decide +kernel
theorem dX9_stock_42 : decode cX9_stock 42 = .ok (.if_icmp .ge 42, 3) := by decide +kernel
theorem dX9_stock_45 : decode cX9_stock 45 = .ok (.aload_n 0, 1) := by decide +kernel
theorem dX9_stock_46 : decode cX9_stock 46 = .ok (.getfield 64, 3) := by decide +kernel
theorem dX9_stock_49 : decode cX9_stock 49 = .ok (.iload 4, 2) := by decide +kernel
theorem dX9_stock_51 : decode cX9_stock 51 = .ok (.baload, 1) := by decide +kernel
theorem dX9_stock_52 : decode cX9_stock 52 = .ok (.ifCond .eq 26, 3) := by decide +kernel
theorem dX9_stock_55 : decode cX9_stock 55 = .ok (.aload_n 0, 1) := by decide +kernel
theorem dX9_stock_56 : decode cX9_stock 56 = .ok (.iload 4, 2) := by decide +kernel
theorem dX9_stock_58 : decode cX9_stock 58 = .ok (.invokevirtual 308, 3) := by decide +kernel
theorem dX9_stock_61 : decode cX9_stock 61 = .ok (.ifCond .eq 6, 3) := by decide +kernel
theorem dX9_stock_64 : decode cX9_stock 64 = .ok (.goto 14, 3) := by decide +kernel
theorem dX9_stock_67 : decode cX9_stock 67 = .ok (.iload_n 3, 1) := by decide +kernel
theorem dX9_stock_68 : decode cX9_stock 68 = .ok (.iload_n 2, 1) := by decide +kernel
theorem dX9_stock_69 : decode cX9_stock 69 = .ok (.if_icmp .ne 6, 3) := by decide +kernel
theorem dX9_stock_72 : decode cX9_stock 72 = .ok (.iload 4, 2) := by decide +kernel
theorem dX9_stock_74 : decode cX9_stock 74 = .ok (.ireturn, 1) := by decide +kernel
theorem dX9_stock_75 : decode cX9_stock 75 = .ok (.iinc 3 1, 3) := by decide +kernel
theorem dX9_stock_78 : decode cX9_stock 78 = .ok (.iinc 4 1, 3) := by decide +kernel
theorem dX9_stock_81 : decode cX9_stock 81 = .ok (.goto (-45), 3) := by decide +kernel
theorem dX9_stock_84 : decode cX9_stock 84 = .ok (.iconst (-1), 1) := by decide +kernel
theorem dX9_stock_85 : decode cX9_stock 85 = .ok (.ireturn, 1) := by decide +kernel
theorem dX9_heir_0 : decode cX9_heir 0 = .ok (.aload_n 0, 1) := by decide +kernel
theorem dX9_heir_1 : decode cX9_heir 1 = .ok (.iconst 0, 1) := by decide +kernel
theorem dX9_heir_2 : decode cX9_heir 2 = .ok (.putfield 98, 3) := by decide +kernel
theorem dX9_heir_5 : decode cX9_heir 5 = .ok (.iconst 0, 1) := by decide +kernel
theorem dX9_heir_6 : decode cX9_heir 6 = .ok (.istore_n 2, 1) := by decide +kernel
theorem dX9_heir_7 : decode cX9_heir 7 = .ok (.iconst 0, 1) := by decide +kernel
theorem dX9_heir_8 : decode cX9_heir 8 = .ok (.istore_n 3, 1) := by decide +kernel
theorem dX9_heir_9 : decode cX9_heir 9 = .ok (.iload_n 3, 1) := by decide +kernel
theorem dX9_heir_10 : decode cX9_heir 10 = .ok (.aload_n 0, 1) := by decide +kernel
theorem dX9_heir_11 : decode cX9_heir 11 = .ok (.getfield 281, 3) := by decide +kernel
theorem dX9_heir_14 : decode cX9_heir 14 = .ok (.if_icmp .ge 30, 3) := by decide +kernel
theorem dX9_heir_17 : decode cX9_heir 17 = .ok (.aload_n 0, 1) := by decide +kernel
theorem dX9_heir_18 : decode cX9_heir 18 = .ok (.iload_n 3, 1) := by decide +kernel
theorem dX9_heir_19 : decode cX9_heir 19 = .ok (.invokevirtual 400, 3) := by decide +kernel
theorem dX9_heir_22 : decode cX9_heir 22 = .ok (.ifCond .ne 6, 3) := by decide +kernel
theorem dX9_heir_25 : decode cX9_heir 25 = .ok (.goto 13, 3) := by decide +kernel
theorem dX9_heir_28 : decode cX9_heir 28 = .ok (.iload_n 2, 1) := by decide +kernel
theorem dX9_heir_29 : decode cX9_heir 29 = .ok (.iload_n 1, 1) := by decide +kernel
theorem dX9_heir_30 : decode cX9_heir 30 = .ok (.if_icmp .ne 5, 3) := by decide +kernel
theorem dX9_heir_33 : decode cX9_heir 33 = .ok (.iload_n 3, 1) := by decide +kernel
theorem dX9_heir_34 : decode cX9_heir 34 = .ok (.ireturn, 1) := by decide +kernel
theorem dX9_heir_35 : decode cX9_heir 35 = .ok (.iinc 2 1, 3) := by decide +kernel
theorem dX9_heir_38 : decode cX9_heir 38 = .ok (.iinc 3 1, 3) := by decide +kernel
theorem dX9_heir_41 : decode cX9_heir 41 = .ok (.goto (-32), 3) := by decide +kernel
theorem dX9_heir_44 : decode cX9_heir 44 = .ok (.iconst (-1), 1) := by decide +kernel
theorem dX9_heir_45 : decode cX9_heir 45 = .ok (.ireturn, 1) := by decide +kernel
theorem dX9_ranked_0 : decode cX9_ranked 0 = .ok (.aload_n 0, 1) := by decide +kernel
theorem dX9_ranked_1 : decode cX9_ranked 1 = .ok (.iconst 0, 1) := by decide +kernel
theorem dX9_ranked_2 : decode cX9_ranked 2 = .ok (.putfield 98, 3) := by decide +kernel
theorem dX9_ranked_5 : decode cX9_ranked 5 = .ok (.iconst 0, 1) := by decide +kernel
theorem dX9_ranked_6 : decode cX9_ranked 6 = .ok (.istore_n 2, 1) := by decide +kernel
theorem dX9_ranked_7 : decode cX9_ranked 7 = .ok (.iload_n 2, 1) := by decide +kernel
theorem dX9_ranked_8 : decode cX9_ranked 8 = .ok (.aload_n 0, 1) := by decide +kernel
theorem dX9_ranked_9 : decode cX9_ranked 9 = .ok (.getfield 281, 3) := by decide +kernel
theorem dX9_ranked_12 : decode cX9_ranked 12 = .ok (.if_icmp .ge 20, 3) := by decide +kernel
theorem dX9_ranked_15 : decode cX9_ranked 15 = .ok (.aload_n 0, 1) := by decide +kernel
theorem dX9_ranked_16 : decode cX9_ranked 16 = .ok (.getfield 92, 3) := by decide +kernel
theorem dX9_ranked_19 : decode cX9_ranked 19 = .ok (.iload_n 2, 1) := by decide +kernel
theorem dX9_ranked_20 : decode cX9_ranked 20 = .ok (.aload_n 0, 1) := by decide +kernel
theorem dX9_ranked_21 : decode cX9_ranked 21 = .ok (.iload_n 2, 1) := by decide +kernel
theorem dX9_ranked_22 : decode cX9_ranked 22 = .ok (.invokevirtual 433, 3) := by decide +kernel
theorem dX9_ranked_25 : decode cX9_ranked 25 = .ok (.iastore, 1) := by decide +kernel
theorem dX9_ranked_26 : decode cX9_ranked 26 = .ok (.iinc 2 1, 3) := by decide +kernel
theorem dX9_ranked_29 : decode cX9_ranked 29 = .ok (.goto (-22), 3) := by decide +kernel
theorem dX9_ranked_32 : decode cX9_ranked 32 = .ok (.iconst 0, 1) := by decide +kernel
theorem dX9_ranked_33 : decode cX9_ranked 33 = .ok (.istore_n 2, 1) := by decide +kernel
theorem dX9_ranked_34 : decode cX9_ranked 34 = .ok (.iload_n 2, 1) := by decide +kernel
theorem dX9_ranked_35 : decode cX9_ranked 35 = .ok (.aload_n 0, 1) := by decide +kernel
theorem dX9_ranked_36 : decode cX9_ranked 36 = .ok (.getfield 281, 3) := by decide +kernel
theorem dX9_ranked_39 : decode cX9_ranked 39 = .ok (.if_icmp .ge 82, 3) := by decide +kernel
theorem dX9_ranked_42 : decode cX9_ranked 42 = .ok (.iconst 0, 1) := by decide +kernel
theorem dX9_ranked_43 : decode cX9_ranked 43 = .ok (.istore_n 3, 1) := by decide +kernel
theorem dX9_ranked_44 : decode cX9_ranked 44 = .ok (.iconst 0, 1) := by decide +kernel
theorem dX9_ranked_45 : decode cX9_ranked 45 = .ok (.istore 4, 2) := by decide +kernel
theorem dX9_ranked_47 : decode cX9_ranked 47 = .ok (.iload 4, 2) := by decide +kernel
theorem dX9_ranked_49 : decode cX9_ranked 49 = .ok (.aload_n 0, 1) := by decide +kernel
theorem dX9_ranked_50 : decode cX9_ranked 50 = .ok (.getfield 281, 3) := by decide +kernel
theorem dX9_ranked_53 : decode cX9_ranked 53 = .ok (.if_icmp .ge 55, 3) := by decide +kernel
theorem dX9_ranked_56 : decode cX9_ranked 56 = .ok (.iload_n 3, 1) := by decide +kernel
theorem dX9_ranked_57 : decode cX9_ranked 57 = .ok (.aload_n 0, 1) := by decide +kernel
theorem dX9_ranked_58 : decode cX9_ranked 58 = .ok (.getfield 92, 3) := by decide +kernel
theorem dX9_ranked_61 : decode cX9_ranked 61 = .ok (.iload 4, 2) := by decide +kernel
theorem dX9_ranked_63 : decode cX9_ranked 63 = .ok (.iaload, 1) := by decide +kernel
theorem dX9_ranked_64 : decode cX9_ranked 64 = .ok (.aload_n 0, 1) := by decide +kernel
theorem dX9_ranked_65 : decode cX9_ranked 65 = .ok (.getfield 92, 3) := by decide +kernel
theorem dX9_ranked_68 : decode cX9_ranked 68 = .ok (.iload_n 2, 1) := by decide +kernel
theorem dX9_ranked_69 : decode cX9_ranked 69 = .ok (.iaload, 1) := by decide +kernel
theorem dX9_ranked_70 : decode cX9_ranked 70 = .ok (.if_icmp .gt 25, 3) := by decide +kernel
theorem dX9_ranked_73 : decode cX9_ranked 73 = .ok (.aload_n 0, 1) := by decide +kernel
theorem dX9_ranked_74 : decode cX9_ranked 74 = .ok (.getfield 92, 3) := by decide +kernel
theorem dX9_ranked_77 : decode cX9_ranked 77 = .ok (.iload 4, 2) := by decide +kernel
theorem dX9_ranked_79 : decode cX9_ranked 79 = .ok (.iaload, 1) := by decide +kernel
theorem dX9_ranked_80 : decode cX9_ranked 80 = .ok (.aload_n 0, 1) := by decide +kernel
theorem dX9_ranked_81 : decode cX9_ranked 81 = .ok (.getfield 92, 3) := by decide +kernel
theorem dX9_ranked_84 : decode cX9_ranked 84 = .ok (.iload_n 2, 1) := by decide +kernel
theorem dX9_ranked_85 : decode cX9_ranked 85 = .ok (.iaload, 1) := by decide +kernel
theorem dX9_ranked_86 : decode cX9_ranked 86 = .ok (.if_icmp .ne 13, 3) := by decide +kernel
theorem dX9_ranked_89 : decode cX9_ranked 89 = .ok (.iload 4, 2) := by decide +kernel
theorem dX9_ranked_91 : decode cX9_ranked 91 = .ok (.iload_n 2, 1) := by decide +kernel
theorem dX9_ranked_92 : decode cX9_ranked 92 = .ok (.if_icmp .ge 7, 3) := by decide +kernel
theorem dX9_ranked_95 : decode cX9_ranked 95 = .ok (.iconst 1, 1) := by decide +kernel
theorem dX9_ranked_96 : decode cX9_ranked 96 = .ok (.goto 4, 3) := by decide +kernel
theorem dX9_ranked_99 : decode cX9_ranked 99 = .ok (.iconst 0, 1) := by decide +kernel
theorem dX9_ranked_100 : decode cX9_ranked 100 = .ok (.iadd, 1) := by decide +kernel
theorem dX9_ranked_101 : decode cX9_ranked 101 = .ok (.istore_n 3, 1) := by decide +kernel
theorem dX9_ranked_102 : decode cX9_ranked 102 = .ok (.iinc 4 1, 3) := by decide +kernel
theorem dX9_ranked_105 : decode cX9_ranked 105 = .ok (.goto (-58), 3) := by decide +kernel
theorem dX9_ranked_108 : decode cX9_ranked 108 = .ok (.iload_n 3, 1) := by decide +kernel
theorem dX9_ranked_109 : decode cX9_ranked 109 = .ok (.iload_n 1, 1) := by decide +kernel
theorem dX9_ranked_110 : decode cX9_ranked 110 = .ok (.if_icmp .ne 5, 3) := by decide +kernel
theorem dX9_ranked_113 : decode cX9_ranked 113 = .ok (.iload_n 2, 1) := by decide +kernel
theorem dX9_ranked_114 : decode cX9_ranked 114 = .ok (.ireturn, 1) := by decide +kernel
theorem dX9_ranked_115 : decode cX9_ranked 115 = .ok (.iinc 2 1, 3) := by decide +kernel
theorem dX9_ranked_118 : decode cX9_ranked 118 = .ok (.goto (-84), 3) := by decide +kernel
theorem dX9_ranked_121 : decode cX9_ranked 121 = .ok (.iconst (-1), 1) := by decide +kernel
theorem dX9_ranked_122 : decode cX9_ranked 122 = .ok (.ireturn, 1) := by decide +kernel
theorem dX9_begins_0 : decode cX9_begins 0 = .ok (.iconst 0, 1) := by decide +kernel
theorem dX9_begins_1 : decode cX9_begins 1 = .ok (.istore_n 1, 1) := by decide +kernel
theorem dX9_begins_2 : decode cX9_begins 2 = .ok (.iload_n 1, 1) := by decide +kernel
theorem dX9_begins_3 : decode cX9_begins 3 = .ok (.bipush 61, 2) := by decide +kernel
theorem dX9_begins_5 : decode cX9_begins 5 = .ok (.if_icmp .ge 21, 3) := by decide +kernel
theorem dX9_begins_8 : decode cX9_begins 8 = .ok (.aload_n 0, 1) := by decide +kernel
theorem dX9_begins_9 : decode cX9_begins 9 = .ok (.getfield 13, 3) := by decide +kernel
theorem dX9_begins_12 : decode cX9_begins 12 = .ok (.iload_n 1, 1) := by decide +kernel
theorem dX9_begins_13 : decode cX9_begins 13 = .ok (.aload_n 0, 1) := by decide +kernel
theorem dX9_begins_14 : decode cX9_begins 14 = .ok (.getfield 7, 3) := by decide +kernel
theorem dX9_begins_17 : decode cX9_begins 17 = .ok (.iload_n 1, 1) := by decide +kernel
theorem dX9_begins_18 : decode cX9_begins 18 = .ok (.iaload, 1) := by decide +kernel
theorem dX9_begins_19 : decode cX9_begins 19 = .ok (.iastore, 1) := by decide +kernel
theorem dX9_begins_20 : decode cX9_begins 20 = .ok (.iinc 1 1, 3) := by decide +kernel
theorem dX9_begins_23 : decode cX9_begins 23 = .ok (.goto (-21), 3) := by decide +kernel
theorem dX9_begins_26 : decode cX9_begins 26 = .ok (.return_, 1) := by decide +kernel
theorem dX9_putsBack_0 : decode cX9_putsBack 0 = .ok (.iconst 0, 1) := by decide +kernel
theorem dX9_putsBack_1 : decode cX9_putsBack 1 = .ok (.istore_n 1, 1) := by decide +kernel
theorem dX9_putsBack_2 : decode cX9_putsBack 2 = .ok (.iload_n 1, 1) := by decide +kernel
theorem dX9_putsBack_3 : decode cX9_putsBack 3 = .ok (.bipush 61, 2) := by decide +kernel
theorem dX9_putsBack_5 : decode cX9_putsBack 5 = .ok (.if_icmp .ge 21, 3) := by decide +kernel
theorem dX9_putsBack_8 : decode cX9_putsBack 8 = .ok (.aload_n 0, 1) := by decide +kernel
theorem dX9_putsBack_9 : decode cX9_putsBack 9 = .ok (.getfield 7, 3) := by decide +kernel
theorem dX9_putsBack_12 : decode cX9_putsBack 12 = .ok (.iload_n 1, 1) := by decide +kernel
theorem dX9_putsBack_13 : decode cX9_putsBack 13 = .ok (.aload_n 0, 1) := by decide +kernel
theorem dX9_putsBack_14 : decode cX9_putsBack 14 = .ok (.getfield 13, 3) := by decide +kernel
theorem dX9_putsBack_17 : decode cX9_putsBack 17 = .ok (.iload_n 1, 1) := by decide +kernel
theorem dX9_putsBack_18 : decode cX9_putsBack 18 = .ok (.iaload, 1) := by decide +kernel
theorem dX9_putsBack_19 : decode cX9_putsBack 19 = .ok (.iastore, 1) := by decide +kernel
theorem dX9_putsBack_20 : decode cX9_putsBack 20 = .ok (.iinc 1 1, 3) := by decide +kernel
theorem dX9_putsBack_23 : decode cX9_putsBack 23 = .ok (.goto (-21), 3) := by decide +kernel
theorem dX9_putsBack_26 : decode cX9_putsBack 26 = .ok (.return_, 1) := by decide +kernel
theorem dX9_hadDied_0 : decode cX9_hadDied 0 = .ok (.aload_n 0, 1) := by decide +kernel
theorem dX9_hadDied_1 : decode cX9_hadDied 1 = .ok (.invokevirtual 439, 3) := by decide +kernel
theorem dX9_hadDied_4 : decode cX9_hadDied 4 = .ok (.aload_n 0, 1) := by decide +kernel
theorem dX9_hadDied_5 : decode cX9_hadDied 5 = .ok (.getfield 7, 3) := by decide +kernel
theorem dX9_hadDied_8 : decode cX9_hadDied 8 = .ok (.bipush 32, 2) := by decide +kernel
theorem dX9_hadDied_10 : decode cX9_hadDied 10 = .ok (.iload_n 2, 1) := by decide +kernel
theorem dX9_hadDied_11 : decode cX9_hadDied 11 = .ok (.iadd, 1) := by decide +kernel
theorem dX9_hadDied_12 : decode cX9_hadDied 12 = .ok (.iconst 1, 1) := by decide +kernel
theorem dX9_hadDied_13 : decode cX9_hadDied 13 = .ok (.iastore, 1) := by decide +kernel
theorem dX9_hadDied_14 : decode cX9_hadDied 14 = .ok (.aload_n 0, 1) := by decide +kernel
theorem dX9_hadDied_15 : decode cX9_hadDied 15 = .ok (.iload_n 1, 1) := by decide +kernel
theorem dX9_hadDied_16 : decode cX9_hadDied 16 = .ok (.invokevirtual 433, 3) := by decide +kernel
theorem dX9_hadDied_19 : decode cX9_hadDied 19 = .ok (.istore_n 3, 1) := by decide +kernel
theorem dX9_hadDied_20 : decode cX9_hadDied 20 = .ok (.aload_n 0, 1) := by decide +kernel
theorem dX9_hadDied_21 : decode cX9_hadDied 21 = .ok (.invokevirtual 442, 3) := by decide +kernel
theorem dX9_hadDied_24 : decode cX9_hadDied 24 = .ok (.iload_n 3, 1) := by decide +kernel
theorem dX9_hadDied_25 : decode cX9_hadDied 25 = .ok (.ireturn, 1) := by decide +kernel
theorem dX9_ifDead_0 : decode cX9_ifDead 0 = .ok (.aload_n 0, 1) := by decide +kernel
theorem dX9_ifDead_1 : decode cX9_ifDead 1 = .ok (.aload_n 0, 1) := by decide +kernel
theorem dX9_ifDead_2 : decode cX9_ifDead 2 = .ok (.iload_n 1, 1) := by decide +kernel
theorem dX9_ifDead_3 : decode cX9_ifDead 3 = .ok (.invokevirtual 290, 3) := by decide +kernel
theorem dX9_ifDead_6 : decode cX9_ifDead 6 = .ok (.ifCond .eq 11, 3) := by decide +kernel
theorem dX9_ifDead_9 : decode cX9_ifDead 9 = .ok (.aload_n 0, 1) := by decide +kernel
theorem dX9_ifDead_10 : decode cX9_ifDead 10 = .ok (.iload_n 2, 1) := by decide +kernel
theorem dX9_ifDead_11 : decode cX9_ifDead 11 = .ok (.invokevirtual 290, 3) := by decide +kernel
theorem dX9_ifDead_14 : decode cX9_ifDead 14 = .ok (.ifCond .ne 7, 3) := by decide +kernel
theorem dX9_ifDead_17 : decode cX9_ifDead 17 = .ok (.iconst 1, 1) := by decide +kernel
theorem dX9_ifDead_18 : decode cX9_ifDead 18 = .ok (.goto 16, 3) := by decide +kernel
theorem dX9_ifDead_21 : decode cX9_ifDead 21 = .ok (.aload_n 0, 1) := by decide +kernel
theorem dX9_ifDead_22 : decode cX9_ifDead 22 = .ok (.iload_n 2, 1) := by decide +kernel
theorem dX9_ifDead_23 : decode cX9_ifDead 23 = .ok (.invokevirtual 308, 3) := by decide +kernel
theorem dX9_ifDead_26 : decode cX9_ifDead 26 = .ok (.ifCond .eq 7, 3) := by decide +kernel
theorem dX9_ifDead_29 : decode cX9_ifDead 29 = .ok (.iconst 2, 1) := by decide +kernel
theorem dX9_ifDead_30 : decode cX9_ifDead 30 = .ok (.goto 4, 3) := by decide +kernel
theorem dX9_ifDead_33 : decode cX9_ifDead 33 = .ok (.iconst 0, 1) := by decide +kernel
theorem dX9_ifDead_34 : decode cX9_ifDead 34 = .ok (.putfield 98, 3) := by decide +kernel
theorem dX9_ifDead_37 : decode cX9_ifDead 37 = .ok (.aload_n 0, 1) := by decide +kernel
theorem dX9_ifDead_38 : decode cX9_ifDead 38 = .ok (.getfield 98, 3) := by decide +kernel
theorem dX9_ifDead_41 : decode cX9_ifDead 41 = .ok (.ifCond .le 7, 3) := by decide +kernel
theorem dX9_ifDead_44 : decode cX9_ifDead 44 = .ok (.iconst 0, 1) := by decide +kernel
theorem dX9_ifDead_45 : decode cX9_ifDead 45 = .ok (.goto 9, 3) := by decide +kernel
theorem dX9_ifDead_48 : decode cX9_ifDead 48 = .ok (.aload_n 0, 1) := by decide +kernel
theorem dX9_ifDead_49 : decode cX9_ifDead 49 = .ok (.iload_n 1, 1) := by decide +kernel
theorem dX9_ifDead_50 : decode cX9_ifDead 50 = .ok (.iload_n 2, 1) := by decide +kernel
theorem dX9_ifDead_51 : decode cX9_ifDead 51 = .ok (.invokevirtual 445, 3) := by decide +kernel
theorem dX9_ifDead_54 : decode cX9_ifDead 54 = .ok (.ireturn, 1) := by decide +kernel
theorem dX9_ifSold_0 : decode cX9_ifSold 0 = .ok (.aload_n 0, 1) := by decide +kernel
theorem dX9_ifSold_1 : decode cX9_ifSold 1 = .ok (.aload_n 0, 1) := by decide +kernel
theorem dX9_ifSold_2 : decode cX9_ifSold 2 = .ok (.iload_n 1, 1) := by decide +kernel
theorem dX9_ifSold_3 : decode cX9_ifSold 3 = .ok (.invokevirtual 290, 3) := by decide +kernel
theorem dX9_ifSold_6 : decode cX9_ifSold 6 = .ok (.ifCond .eq 22, 3) := by decide +kernel
theorem dX9_ifSold_9 : decode cX9_ifSold 9 = .ok (.aload_n 0, 1) := by decide +kernel
theorem dX9_ifSold_10 : decode cX9_ifSold 10 = .ok (.iload_n 2, 1) := by decide +kernel
theorem dX9_ifSold_11 : decode cX9_ifSold 11 = .ok (.invokevirtual 294, 3) := by decide +kernel
theorem dX9_ifSold_14 : decode cX9_ifSold 14 = .ok (.ifCond .eq 14, 3) := by decide +kernel
theorem dX9_ifSold_17 : decode cX9_ifSold 17 = .ok (.aload_n 0, 1) := by decide +kernel
theorem dX9_ifSold_18 : decode cX9_ifSold 18 = .ok (.iload_n 2, 1) := by decide +kernel
theorem dX9_ifSold_19 : decode cX9_ifSold 19 = .ok (.iload_n 3, 1) := by decide +kernel
theorem dX9_ifSold_20 : decode cX9_ifSold 20 = .ok (.iload 4, 2) := by decide +kernel
theorem dX9_ifSold_22 : decode cX9_ifSold 22 = .ok (.invokevirtual 330, 3) := by decide +kernel
theorem dX9_ifSold_25 : decode cX9_ifSold 25 = .ok (.goto 4, 3) := by decide +kernel
theorem dX9_ifSold_28 : decode cX9_ifSold 28 = .ok (.iconst 1, 1) := by decide +kernel
theorem dX9_ifSold_29 : decode cX9_ifSold 29 = .ok (.putfield 98, 3) := by decide +kernel
theorem dX9_ifSold_32 : decode cX9_ifSold 32 = .ok (.aload_n 0, 1) := by decide +kernel
theorem dX9_ifSold_33 : decode cX9_ifSold 33 = .ok (.getfield 98, 3) := by decide +kernel
theorem dX9_ifSold_36 : decode cX9_ifSold 36 = .ok (.ifCond .le 5, 3) := by decide +kernel
theorem dX9_ifSold_39 : decode cX9_ifSold 39 = .ok (.iconst 0, 1) := by decide +kernel
theorem dX9_ifSold_40 : decode cX9_ifSold 40 = .ok (.ireturn, 1) := by decide +kernel
theorem dX9_ifSold_41 : decode cX9_ifSold 41 = .ok (.aload_n 0, 1) := by decide +kernel
theorem dX9_ifSold_42 : decode cX9_ifSold 42 = .ok (.invokevirtual 439, 3) := by decide +kernel
theorem dX9_ifSold_45 : decode cX9_ifSold 45 = .ok (.aload_n 0, 1) := by decide +kernel
theorem dX9_ifSold_46 : decode cX9_ifSold 46 = .ok (.iload_n 2, 1) := by decide +kernel
theorem dX9_ifSold_47 : decode cX9_ifSold 47 = .ok (.iload_n 3, 1) := by decide +kernel
theorem dX9_ifSold_48 : decode cX9_ifSold 48 = .ok (.iload 4, 2) := by decide +kernel
theorem dX9_ifSold_50 : decode cX9_ifSold 50 = .ok (.invokevirtual 337, 3) := by decide +kernel
theorem dX9_ifSold_53 : decode cX9_ifSold 53 = .ok (.aload_n 0, 1) := by decide +kernel
theorem dX9_ifSold_54 : decode cX9_ifSold 54 = .ok (.iload_n 1, 1) := by decide +kernel
theorem dX9_ifSold_55 : decode cX9_ifSold 55 = .ok (.invokevirtual 433, 3) := by decide +kernel
theorem dX9_ifSold_58 : decode cX9_ifSold 58 = .ok (.istore 5, 2) := by decide +kernel
theorem dX9_ifSold_60 : decode cX9_ifSold 60 = .ok (.aload_n 0, 1) := by decide +kernel
theorem dX9_ifSold_61 : decode cX9_ifSold 61 = .ok (.invokevirtual 442, 3) := by decide +kernel
theorem dX9_ifSold_64 : decode cX9_ifSold 64 = .ok (.iload 5, 2) := by decide +kernel
theorem dX9_ifSold_66 : decode cX9_ifSold 66 = .ok (.ireturn, 1) := by decide +kernel
theorem dX9_ifDebt_0 : decode cX9_ifDebt 0 = .ok (.aload_n 0, 1) := by decide +kernel
theorem dX9_ifDebt_1 : decode cX9_ifDebt 1 = .ok (.aload_n 0, 1) := by decide +kernel
theorem dX9_ifDebt_2 : decode cX9_ifDebt 2 = .ok (.iload_n 1, 1) := by decide +kernel
theorem dX9_ifDebt_3 : decode cX9_ifDebt 3 = .ok (.invokevirtual 290, 3) := by decide +kernel
theorem dX9_ifDebt_6 : decode cX9_ifDebt 6 = .ok (.ifCond .ne 7, 3) := by decide +kernel
theorem dX9_ifDebt_9 : decode cX9_ifDebt 9 = .ok (.iconst 1, 1) := by decide +kernel
theorem dX9_ifDebt_10 : decode cX9_ifDebt 10 = .ok (.goto 20, 3) := by decide +kernel
theorem dX9_ifDebt_13 : decode cX9_ifDebt 13 = .ok (.iload_n 2, 1) := by decide +kernel
theorem dX9_ifDebt_14 : decode cX9_ifDebt 14 = .ok (.i2l, 1) := by decide +kernel
theorem dX9_ifDebt_15 : decode cX9_ifDebt 15 = .ok (.lconst 0, 1) := by decide +kernel
theorem dX9_ifDebt_16 : decode cX9_ifDebt 16 = .ok (.ldc2_w 344, 3) := by decide +kernel
theorem dX9_ifDebt_19 : decode cX9_ifDebt 19 = .ok (.invokestatic 143, 3) := by decide +kernel
theorem dX9_ifDebt_22 : decode cX9_ifDebt 22 = .ok (.ifCond .eq 7, 3) := by decide +kernel
theorem dX9_ifDebt_25 : decode cX9_ifDebt 25 = .ok (.iconst 0, 1) := by decide +kernel
theorem dX9_ifDebt_26 : decode cX9_ifDebt 26 = .ok (.goto 4, 3) := by decide +kernel
theorem dX9_ifDebt_29 : decode cX9_ifDebt 29 = .ok (.iconst 2, 1) := by decide +kernel
theorem dX9_ifDebt_30 : decode cX9_ifDebt 30 = .ok (.putfield 98, 3) := by decide +kernel
theorem dX9_ifDebt_33 : decode cX9_ifDebt 33 = .ok (.aload_n 0, 1) := by decide +kernel
theorem dX9_ifDebt_34 : decode cX9_ifDebt 34 = .ok (.getfield 98, 3) := by decide +kernel
theorem dX9_ifDebt_37 : decode cX9_ifDebt 37 = .ok (.ifCond .le 5, 3) := by decide +kernel
theorem dX9_ifDebt_40 : decode cX9_ifDebt 40 = .ok (.iconst 0, 1) := by decide +kernel
theorem dX9_ifDebt_41 : decode cX9_ifDebt 41 = .ok (.ireturn, 1) := by decide +kernel
theorem dX9_ifDebt_42 : decode cX9_ifDebt 42 = .ok (.aload_n 0, 1) := by decide +kernel
theorem dX9_ifDebt_43 : decode cX9_ifDebt 43 = .ok (.invokevirtual 439, 3) := by decide +kernel
theorem dX9_ifDebt_46 : decode cX9_ifDebt 46 = .ok (.aload_n 0, 1) := by decide +kernel
theorem dX9_ifDebt_47 : decode cX9_ifDebt 47 = .ok (.getfield 7, 3) := by decide +kernel
theorem dX9_ifDebt_50 : decode cX9_ifDebt 50 = .ok (.bipush 57, 2) := by decide +kernel
theorem dX9_ifDebt_52 : decode cX9_ifDebt 52 = .ok (.iload_n 2, 1) := by decide +kernel
theorem dX9_ifDebt_53 : decode cX9_ifDebt 53 = .ok (.iastore, 1) := by decide +kernel
theorem dX9_ifDebt_54 : decode cX9_ifDebt 54 = .ok (.aload_n 0, 1) := by decide +kernel
theorem dX9_ifDebt_55 : decode cX9_ifDebt 55 = .ok (.iload_n 1, 1) := by decide +kernel
theorem dX9_ifDebt_56 : decode cX9_ifDebt 56 = .ok (.invokevirtual 433, 3) := by decide +kernel
theorem dX9_ifDebt_59 : decode cX9_ifDebt 59 = .ok (.istore_n 3, 1) := by decide +kernel
theorem dX9_ifDebt_60 : decode cX9_ifDebt 60 = .ok (.aload_n 0, 1) := by decide +kernel
theorem dX9_ifDebt_61 : decode cX9_ifDebt 61 = .ok (.invokevirtual 442, 3) := by decide +kernel
theorem dX9_ifDebt_64 : decode cX9_ifDebt 64 = .ok (.iload_n 3, 1) := by decide +kernel
theorem dX9_ifDebt_65 : decode cX9_ifDebt 65 = .ok (.ireturn, 1) := by decide +kernel
theorem dX9_ifRenounced_0 : decode cX9_ifRenounced 0 = .ok (.aload_n 0, 1) := by decide +kernel
theorem dX9_ifRenounced_1 : decode cX9_ifRenounced 1 = .ok (.aload_n 0, 1) := by decide +kernel
theorem dX9_ifRenounced_2 : decode cX9_ifRenounced 2 = .ok (.iload_n 1, 1) := by decide +kernel
theorem dX9_ifRenounced_3 : decode cX9_ifRenounced 3 = .ok (.invokevirtual 290, 3) := by decide +kernel
theorem dX9_ifRenounced_6 : decode cX9_ifRenounced 6 = .ok (.ifCond .eq 15, 3) := by decide +kernel
theorem dX9_ifRenounced_9 : decode cX9_ifRenounced 9 = .ok (.aload_n 0, 1) := by decide +kernel
theorem dX9_ifRenounced_10 : decode cX9_ifRenounced 10 = .ok (.iload_n 2, 1) := by decide +kernel
theorem dX9_ifRenounced_11 : decode cX9_ifRenounced 11 = .ok (.invokevirtual 319, 3) := by decide +kernel
theorem dX9_ifRenounced_14 : decode cX9_ifRenounced 14 = .ok (.ifCond .eq 7, 3) := by decide +kernel
theorem dX9_ifRenounced_17 : decode cX9_ifRenounced 17 = .ok (.iconst 0, 1) := by decide +kernel
theorem dX9_ifRenounced_18 : decode cX9_ifRenounced 18 = .ok (.goto 4, 3) := by decide +kernel
theorem dX9_ifRenounced_21 : decode cX9_ifRenounced 21 = .ok (.iconst 1, 1) := by decide +kernel
theorem dX9_ifRenounced_22 : decode cX9_ifRenounced 22 = .ok (.putfield 98, 3) := by decide +kernel
theorem dX9_ifRenounced_25 : decode cX9_ifRenounced 25 = .ok (.aload_n 0, 1) := by decide +kernel
theorem dX9_ifRenounced_26 : decode cX9_ifRenounced 26 = .ok (.getfield 98, 3) := by decide +kernel
theorem dX9_ifRenounced_29 : decode cX9_ifRenounced 29 = .ok (.ifCond .le 5, 3) := by decide +kernel
theorem dX9_ifRenounced_32 : decode cX9_ifRenounced 32 = .ok (.iconst 0, 1) := by decide +kernel
theorem dX9_ifRenounced_33 : decode cX9_ifRenounced 33 = .ok (.ireturn, 1) := by decide +kernel
theorem dX9_ifRenounced_34 : decode cX9_ifRenounced 34 = .ok (.aload_n 0, 1) := by decide +kernel
theorem dX9_ifRenounced_35 : decode cX9_ifRenounced 35 = .ok (.invokevirtual 439, 3) := by decide +kernel
theorem dX9_ifRenounced_38 : decode cX9_ifRenounced 38 = .ok (.aload_n 0, 1) := by decide +kernel
theorem dX9_ifRenounced_39 : decode cX9_ifRenounced 39 = .ok (.getfield 7, 3) := by decide +kernel
theorem dX9_ifRenounced_42 : decode cX9_ifRenounced 42 = .ok (.bipush 44, 2) := by decide +kernel
theorem dX9_ifRenounced_44 : decode cX9_ifRenounced 44 = .ok (.iload_n 2, 1) := by decide +kernel
theorem dX9_ifRenounced_45 : decode cX9_ifRenounced 45 = .ok (.iadd, 1) := by decide +kernel
theorem dX9_ifRenounced_46 : decode cX9_ifRenounced 46 = .ok (.iconst 1, 1) := by decide +kernel
theorem dX9_ifRenounced_47 : decode cX9_ifRenounced 47 = .ok (.iastore, 1) := by decide +kernel
theorem dX9_ifRenounced_48 : decode cX9_ifRenounced 48 = .ok (.aload_n 0, 1) := by decide +kernel
theorem dX9_ifRenounced_49 : decode cX9_ifRenounced 49 = .ok (.iload_n 1, 1) := by decide +kernel
theorem dX9_ifRenounced_50 : decode cX9_ifRenounced 50 = .ok (.invokevirtual 433, 3) := by decide +kernel
theorem dX9_ifRenounced_53 : decode cX9_ifRenounced 53 = .ok (.istore_n 3, 1) := by decide +kernel
theorem dX9_ifRenounced_54 : decode cX9_ifRenounced 54 = .ok (.aload_n 0, 1) := by decide +kernel
theorem dX9_ifRenounced_55 : decode cX9_ifRenounced 55 = .ok (.invokevirtual 442, 3) := by decide +kernel
theorem dX9_ifRenounced_58 : decode cX9_ifRenounced 58 = .ok (.iload_n 3, 1) := by decide +kernel
theorem dX9_ifRenounced_59 : decode cX9_ifRenounced 59 = .ok (.ireturn, 1) := by decide +kernel
theorem dX9_ifHeld_0 : decode cX9_ifHeld 0 = .ok (.aload_n 0, 1) := by decide +kernel
theorem dX9_ifHeld_1 : decode cX9_ifHeld 1 = .ok (.aload_n 0, 1) := by decide +kernel
theorem dX9_ifHeld_2 : decode cX9_ifHeld 2 = .ok (.iload_n 1, 1) := by decide +kernel
theorem dX9_ifHeld_3 : decode cX9_ifHeld 3 = .ok (.invokevirtual 319, 3) := by decide +kernel
theorem dX9_ifHeld_6 : decode cX9_ifHeld 6 = .ok (.ifCond .ne 7, 3) := by decide +kernel
theorem dX9_ifHeld_9 : decode cX9_ifHeld 9 = .ok (.iconst 1, 1) := by decide +kernel
theorem dX9_ifHeld_10 : decode cX9_ifHeld 10 = .ok (.goto 18, 3) := by decide +kernel
theorem dX9_ifHeld_13 : decode cX9_ifHeld 13 = .ok (.aload_n 0, 1) := by decide +kernel
theorem dX9_ifHeld_14 : decode cX9_ifHeld 14 = .ok (.iload_n 1, 1) := by decide +kernel
theorem dX9_ifHeld_15 : decode cX9_ifHeld 15 = .ok (.iconst 2, 1) := by decide +kernel
theorem dX9_ifHeld_16 : decode cX9_ifHeld 16 = .ok (.invokevirtual 317, 3) := by decide +kernel
theorem dX9_ifHeld_19 : decode cX9_ifHeld 19 = .ok (.iconst (-1), 1) := by decide +kernel
theorem dX9_ifHeld_20 : decode cX9_ifHeld 20 = .ok (.if_icmp .eq 7, 3) := by decide +kernel
theorem dX9_ifHeld_23 : decode cX9_ifHeld 23 = .ok (.iconst 0, 1) := by decide +kernel
theorem dX9_ifHeld_24 : decode cX9_ifHeld 24 = .ok (.goto 4, 3) := by decide +kernel
theorem dX9_ifHeld_27 : decode cX9_ifHeld 27 = .ok (.iconst 2, 1) := by decide +kernel
theorem dX9_ifHeld_28 : decode cX9_ifHeld 28 = .ok (.putfield 98, 3) := by decide +kernel
theorem dX9_ifHeld_31 : decode cX9_ifHeld 31 = .ok (.aload_n 0, 1) := by decide +kernel
theorem dX9_ifHeld_32 : decode cX9_ifHeld 32 = .ok (.getfield 98, 3) := by decide +kernel
theorem dX9_ifHeld_35 : decode cX9_ifHeld 35 = .ok (.ifCond .le 5, 3) := by decide +kernel
theorem dX9_ifHeld_38 : decode cX9_ifHeld 38 = .ok (.iconst 0, 1) := by decide +kernel
theorem dX9_ifHeld_39 : decode cX9_ifHeld 39 = .ok (.ireturn, 1) := by decide +kernel
theorem dX9_ifHeld_40 : decode cX9_ifHeld 40 = .ok (.aload_n 0, 1) := by decide +kernel
theorem dX9_ifHeld_41 : decode cX9_ifHeld 41 = .ok (.invokevirtual 439, 3) := by decide +kernel
theorem dX9_ifHeld_44 : decode cX9_ifHeld 44 = .ok (.aload_n 0, 1) := by decide +kernel
theorem dX9_ifHeld_45 : decode cX9_ifHeld 45 = .ok (.getfield 7, 3) := by decide +kernel
theorem dX9_ifHeld_48 : decode cX9_ifHeld 48 = .ok (.iconst 0, 1) := by decide +kernel
theorem dX9_ifHeld_49 : decode cX9_ifHeld 49 = .ok (.iconst 4, 1) := by decide +kernel
theorem dX9_ifHeld_50 : decode cX9_ifHeld 50 = .ok (.aload_n 0, 1) := by decide +kernel
theorem dX9_ifHeld_51 : decode cX9_ifHeld 51 = .ok (.iload_n 1, 1) := by decide +kernel
theorem dX9_ifHeld_52 : decode cX9_ifHeld 52 = .ok (.iconst 2, 1) := by decide +kernel
theorem dX9_ifHeld_53 : decode cX9_ifHeld 53 = .ok (.invokevirtual 317, 3) := by decide +kernel
theorem dX9_ifHeld_56 : decode cX9_ifHeld 56 = .ok (.imul, 1) := by decide +kernel
theorem dX9_ifHeld_57 : decode cX9_ifHeld 57 = .ok (.iadd, 1) := by decide +kernel
theorem dX9_ifHeld_58 : decode cX9_ifHeld 58 = .ok (.iconst 1, 1) := by decide +kernel
theorem dX9_ifHeld_59 : decode cX9_ifHeld 59 = .ok (.iadd, 1) := by decide +kernel
theorem dX9_ifHeld_60 : decode cX9_ifHeld 60 = .ok (.iconst 0, 1) := by decide +kernel
theorem dX9_ifHeld_61 : decode cX9_ifHeld 61 = .ok (.iastore, 1) := by decide +kernel
theorem dX9_ifHeld_62 : decode cX9_ifHeld 62 = .ok (.aload_n 0, 1) := by decide +kernel
theorem dX9_ifHeld_63 : decode cX9_ifHeld 63 = .ok (.invokevirtual 405, 3) := by decide +kernel
theorem dX9_ifHeld_66 : decode cX9_ifHeld 66 = .ok (.aload_n 0, 1) := by decide +kernel
theorem dX9_ifHeld_67 : decode cX9_ifHeld 67 = .ok (.iload_n 1, 1) := by decide +kernel
theorem dX9_ifHeld_68 : decode cX9_ifHeld 68 = .ok (.bipush 7, 2) := by decide +kernel
theorem dX9_ifHeld_70 : decode cX9_ifHeld 70 = .ok (.aload_n 0, 1) := by decide +kernel
theorem dX9_ifHeld_71 : decode cX9_ifHeld 71 = .ok (.getfield 70, 3) := by decide +kernel
theorem dX9_ifHeld_74 : decode cX9_ifHeld 74 = .ok (.invokevirtual 411, 3) := by decide +kernel
theorem dX9_ifHeld_77 : decode cX9_ifHeld 77 = .ok (.istore_n 2, 1) := by decide +kernel
theorem dX9_ifHeld_78 : decode cX9_ifHeld 78 = .ok (.aload_n 0, 1) := by decide +kernel
theorem dX9_ifHeld_79 : decode cX9_ifHeld 79 = .ok (.invokevirtual 442, 3) := by decide +kernel
theorem dX9_ifHeld_82 : decode cX9_ifHeld 82 = .ok (.iload_n 2, 1) := by decide +kernel
theorem dX9_ifHeld_83 : decode cX9_ifHeld 83 = .ok (.ireturn, 1) := by decide +kernel
theorem dX9_envied_0 : decode cX9_envied 0 = .ok (.aload_n 0, 1) := by decide +kernel
theorem dX9_envied_1 : decode cX9_envied 1 = .ok (.aload_n 0, 1) := by decide +kernel
theorem dX9_envied_2 : decode cX9_envied 2 = .ok (.iload_n 1, 1) := by decide +kernel
theorem dX9_envied_3 : decode cX9_envied 3 = .ok (.invokevirtual 290, 3) := by decide +kernel
theorem dX9_envied_6 : decode cX9_envied 6 = .ok (.ifCond .eq 7, 3) := by decide +kernel
theorem dX9_envied_9 : decode cX9_envied 9 = .ok (.iconst 0, 1) := by decide +kernel
theorem dX9_envied_10 : decode cX9_envied 10 = .ok (.goto 4, 3) := by decide +kernel
theorem dX9_envied_13 : decode cX9_envied 13 = .ok (.iconst 1, 1) := by decide +kernel
theorem dX9_envied_14 : decode cX9_envied 14 = .ok (.putfield 98, 3) := by decide +kernel
theorem dX9_envied_17 : decode cX9_envied 17 = .ok (.aload_n 0, 1) := by decide +kernel
theorem dX9_envied_18 : decode cX9_envied 18 = .ok (.getfield 98, 3) := by decide +kernel
theorem dX9_envied_21 : decode cX9_envied 21 = .ok (.ifCond .le 5, 3) := by decide +kernel
theorem dX9_envied_24 : decode cX9_envied 24 = .ok (.iconst 0, 1) := by decide +kernel
theorem dX9_envied_25 : decode cX9_envied 25 = .ok (.ireturn, 1) := by decide +kernel
theorem dX9_envied_26 : decode cX9_envied 26 = .ok (.iconst (-1), 1) := by decide +kernel
theorem dX9_envied_27 : decode cX9_envied 27 = .ok (.istore_n 2, 1) := by decide +kernel
theorem dX9_envied_28 : decode cX9_envied 28 = .ok (.iconst (-1), 1) := by decide +kernel
theorem dX9_envied_29 : decode cX9_envied 29 = .ok (.istore_n 3, 1) := by decide +kernel
theorem dX9_envied_30 : decode cX9_envied 30 = .ok (.iconst 0, 1) := by decide +kernel
theorem dX9_envied_31 : decode cX9_envied 31 = .ok (.istore 4, 2) := by decide +kernel
theorem dX9_envied_33 : decode cX9_envied 33 = .ok (.iload 4, 2) := by decide +kernel
theorem dX9_envied_35 : decode cX9_envied 35 = .ok (.aload_n 0, 1) := by decide +kernel
theorem dX9_envied_36 : decode cX9_envied 36 = .ok (.getfield 281, 3) := by decide +kernel
theorem dX9_envied_39 : decode cX9_envied 39 = .ok (.if_icmp .ge 48, 3) := by decide +kernel
theorem dX9_envied_42 : decode cX9_envied 42 = .ok (.iload 4, 2) := by decide +kernel
theorem dX9_envied_44 : decode cX9_envied 44 = .ok (.iload_n 1, 1) := by decide +kernel
theorem dX9_envied_45 : decode cX9_envied 45 = .ok (.if_icmp .eq 36, 3) := by decide +kernel
theorem dX9_envied_48 : decode cX9_envied 48 = .ok (.aload_n 0, 1) := by decide +kernel
theorem dX9_envied_49 : decode cX9_envied 49 = .ok (.iload 4, 2) := by decide +kernel
theorem dX9_envied_51 : decode cX9_envied 51 = .ok (.invokevirtual 308, 3) := by decide +kernel
theorem dX9_envied_54 : decode cX9_envied 54 = .ok (.ifCond .eq 6, 3) := by decide +kernel
theorem dX9_envied_57 : decode cX9_envied 57 = .ok (.goto 24, 3) := by decide +kernel
theorem dX9_envied_60 : decode cX9_envied 60 = .ok (.aload_n 0, 1) := by decide +kernel
theorem dX9_envied_61 : decode cX9_envied 61 = .ok (.iload_n 1, 1) := by decide +kernel
theorem dX9_envied_62 : decode cX9_envied 62 = .ok (.iload 4, 2) := by decide +kernel
theorem dX9_envied_64 : decode cX9_envied 64 = .ok (.invokevirtual 445, 3) := by decide +kernel
theorem dX9_envied_67 : decode cX9_envied 67 = .ok (.istore 5, 2) := by decide +kernel
theorem dX9_envied_69 : decode cX9_envied 69 = .ok (.iload 5, 2) := by decide +kernel
theorem dX9_envied_71 : decode cX9_envied 71 = .ok (.iload_n 3, 1) := by decide +kernel
theorem dX9_envied_72 : decode cX9_envied 72 = .ok (.if_icmp .le 9, 3) := by decide +kernel
theorem dX9_envied_75 : decode cX9_envied 75 = .ok (.iload 4, 2) := by decide +kernel
theorem dX9_envied_77 : decode cX9_envied 77 = .ok (.istore_n 2, 1) := by decide +kernel
theorem dX9_envied_78 : decode cX9_envied 78 = .ok (.iload 5, 2) := by decide +kernel
theorem dX9_envied_80 : decode cX9_envied 80 = .ok (.istore_n 3, 1) := by decide +kernel
theorem dX9_envied_81 : decode cX9_envied 81 = .ok (.iinc 4 1, 3) := by decide +kernel
theorem dX9_envied_84 : decode cX9_envied 84 = .ok (.goto (-51), 3) := by decide +kernel
theorem dX9_envied_87 : decode cX9_envied 87 = .ok (.iload_n 2, 1) := by decide +kernel
theorem dX9_envied_88 : decode cX9_envied 88 = .ok (.ireturn, 1) := by decide +kernel
theorem dX9_writes_0 : decode cX9_writes 0 = .ok (.aload_n 0, 1) := by decide +kernel
theorem dX9_writes_1 : decode cX9_writes 1 = .ok (.getfield 95, 3) := by decide +kernel
theorem dX9_writes_4 : decode cX9_writes 4 = .ok (.aload_n 0, 1) := by decide +kernel
theorem dX9_writes_5 : decode cX9_writes 5 = .ok (.getfield 448, 3) := by decide +kernel
theorem dX9_writes_8 : decode cX9_writes 8 = .ok (.iload_n 1, 1) := by decide +kernel
theorem dX9_writes_9 : decode cX9_writes 9 = .ok (.iastore, 1) := by decide +kernel
theorem dX9_writes_10 : decode cX9_writes 10 = .ok (.aload_n 0, 1) := by decide +kernel
theorem dX9_writes_11 : decode cX9_writes 11 = .ok (.dup, 1) := by decide +kernel
theorem dX9_writes_12 : decode cX9_writes 12 = .ok (.getfield 448, 3) := by decide +kernel
theorem dX9_writes_15 : decode cX9_writes 15 = .ok (.iconst 1, 1) := by decide +kernel
theorem dX9_writes_16 : decode cX9_writes 16 = .ok (.iadd, 1) := by decide +kernel
theorem dX9_writes_17 : decode cX9_writes 17 = .ok (.putfield 448, 3) := by decide +kernel
theorem dX9_writes_20 : decode cX9_writes 20 = .ok (.return_, 1) := by decide +kernel
theorem dX9_writesNumber_0 : decode cX9_writesNumber 0 = .ok (.iconst 1, 1) := by decide +kernel
theorem dX9_writesNumber_1 : decode cX9_writesNumber 1 = .ok (.istore_n 2, 1) := by decide +kernel
theorem dX9_writesNumber_2 : decode cX9_writesNumber 2 = .ok (.iload_n 1, 1) := by decide +kernel
theorem dX9_writesNumber_3 : decode cX9_writesNumber 3 = .ok (.iload_n 2, 1) := by decide +kernel
theorem dX9_writesNumber_4 : decode cX9_writesNumber 4 = .ok (.idiv, 1) := by decide +kernel
theorem dX9_writesNumber_5 : decode cX9_writesNumber 5 = .ok (.bipush 9, 2) := by decide +kernel
theorem dX9_writesNumber_7 : decode cX9_writesNumber 7 = .ok (.if_icmp .le 11, 3) := by decide +kernel
theorem dX9_writesNumber_10 : decode cX9_writesNumber 10 = .ok (.iload_n 2, 1) := by decide +kernel
theorem dX9_writesNumber_11 : decode cX9_writesNumber 11 = .ok (.bipush 10, 2) := by decide +kernel
theorem dX9_writesNumber_13 : decode cX9_writesNumber 13 = .ok (.imul, 1) := by decide +kernel
theorem dX9_writesNumber_14 : decode cX9_writesNumber 14 = .ok (.istore_n 2, 1) := by decide +kernel
theorem dX9_writesNumber_15 : decode cX9_writesNumber 15 = .ok (.goto (-13), 3) := by decide +kernel
theorem dX9_writesNumber_18 : decode cX9_writesNumber 18 = .ok (.iload_n 2, 1) := by decide +kernel
theorem dX9_writesNumber_19 : decode cX9_writesNumber 19 = .ok (.istore_n 3, 1) := by decide +kernel
theorem dX9_writesNumber_20 : decode cX9_writesNumber 20 = .ok (.iload_n 3, 1) := by decide +kernel
theorem dX9_writesNumber_21 : decode cX9_writesNumber 21 = .ok (.ifCond .le 24, 3) := by decide +kernel
theorem dX9_writesNumber_24 : decode cX9_writesNumber 24 = .ok (.aload_n 0, 1) := by decide +kernel
theorem dX9_writesNumber_25 : decode cX9_writesNumber 25 = .ok (.bipush 48, 2) := by decide +kernel
theorem dX9_writesNumber_27 : decode cX9_writesNumber 27 = .ok (.iload_n 1, 1) := by decide +kernel
theorem dX9_writesNumber_28 : decode cX9_writesNumber 28 = .ok (.iload_n 3, 1) := by decide +kernel
theorem dX9_writesNumber_29 : decode cX9_writesNumber 29 = .ok (.idiv, 1) := by decide +kernel
theorem dX9_writesNumber_30 : decode cX9_writesNumber 30 = .ok (.bipush 10, 2) := by decide +kernel
theorem dX9_writesNumber_32 : decode cX9_writesNumber 32 = .ok (.irem, 1) := by decide +kernel
theorem dX9_writesNumber_33 : decode cX9_writesNumber 33 = .ok (.iadd, 1) := by decide +kernel
theorem dX9_writesNumber_34 : decode cX9_writesNumber 34 = .ok (.invokevirtual 451, 3) := by decide +kernel
theorem dX9_writesNumber_37 : decode cX9_writesNumber 37 = .ok (.iload_n 3, 1) := by decide +kernel
theorem dX9_writesNumber_38 : decode cX9_writesNumber 38 = .ok (.bipush 10, 2) := by decide +kernel
theorem dX9_writesNumber_40 : decode cX9_writesNumber 40 = .ok (.idiv, 1) := by decide +kernel
theorem dX9_writesNumber_41 : decode cX9_writesNumber 41 = .ok (.istore_n 3, 1) := by decide +kernel
theorem dX9_writesNumber_42 : decode cX9_writesNumber 42 = .ok (.goto (-22), 3) := by decide +kernel
theorem dX9_writesNumber_45 : decode cX9_writesNumber 45 = .ok (.return_, 1) := by decide +kernel
theorem dX9_write_0 : decode cX9_write 0 = .ok (.aload_n 0, 1) := by decide +kernel
theorem dX9_write_1 : decode cX9_write 1 = .ok (.aload_n 0, 1) := by decide +kernel
theorem dX9_write_2 : decode cX9_write 2 = .ok (.iload_n 1, 1) := by decide +kernel
theorem dX9_write_3 : decode cX9_write 3 = .ok (.invokevirtual 290, 3) := by decide +kernel
theorem dX9_write_6 : decode cX9_write 6 = .ok (.ifCond .eq 7, 3) := by decide +kernel
theorem dX9_write_9 : decode cX9_write 9 = .ok (.iconst 0, 1) := by decide +kernel
theorem dX9_write_10 : decode cX9_write 10 = .ok (.goto 4, 3) := by decide +kernel
theorem dX9_write_13 : decode cX9_write 13 = .ok (.iconst 1, 1) := by decide +kernel
theorem dX9_write_14 : decode cX9_write 14 = .ok (.putfield 98, 3) := by decide +kernel
theorem dX9_write_17 : decode cX9_write 17 = .ok (.aload_n 0, 1) := by decide +kernel
theorem dX9_write_18 : decode cX9_write 18 = .ok (.getfield 98, 3) := by decide +kernel
theorem dX9_write_21 : decode cX9_write 21 = .ok (.ifCond .le 5, 3) := by decide +kernel
theorem dX9_write_24 : decode cX9_write 24 = .ok (.iconst 0, 1) := by decide +kernel
theorem dX9_write_25 : decode cX9_write 25 = .ok (.ireturn, 1) := by decide +kernel
theorem dX9_write_26 : decode cX9_write 26 = .ok (.aload_n 0, 1) := by decide +kernel
theorem dX9_write_27 : decode cX9_write 27 = .ok (.iload_n 1, 1) := by decide +kernel
theorem dX9_write_28 : decode cX9_write 28 = .ok (.invokevirtual 433, 3) := by decide +kernel
theorem dX9_write_31 : decode cX9_write 31 = .ok (.istore_n 2, 1) := by decide +kernel
theorem dX9_write_32 : decode cX9_write 32 = .ok (.aload_n 0, 1) := by decide +kernel
theorem dX9_write_33 : decode cX9_write 33 = .ok (.iconst 0, 1) := by decide +kernel
theorem dX9_write_34 : decode cX9_write 34 = .ok (.putfield 448, 3) := by decide +kernel
theorem dX9_write_37 : decode cX9_write 37 = .ok (.iconst 0, 1) := by decide +kernel
theorem dX9_write_38 : decode cX9_write 38 = .ok (.istore_n 3, 1) := by decide +kernel
theorem dX9_write_39 : decode cX9_write 39 = .ok (.iload_n 3, 1) := by decide +kernel
theorem dX9_write_40 : decode cX9_write 40 = .ok (.aload_n 0, 1) := by decide +kernel
theorem dX9_write_41 : decode cX9_write 41 = .ok (.getfield 22, 3) := by decide +kernel
theorem dX9_write_44 : decode cX9_write 44 = .ok (.iload_n 1, 1) := by decide +kernel
theorem dX9_write_45 : decode cX9_write 45 = .ok (.iaload, 1) := by decide +kernel
theorem dX9_write_46 : decode cX9_write 46 = .ok (.invokestatic 287, 3) := by decide +kernel
theorem dX9_write_49 : decode cX9_write 49 = .ok (.if_icmp .ge 23, 3) := by decide +kernel
theorem dX9_write_52 : decode cX9_write 52 = .ok (.aload_n 0, 1) := by decide +kernel
theorem dX9_write_53 : decode cX9_write 53 = .ok (.aload_n 0, 1) := by decide +kernel
theorem dX9_write_54 : decode cX9_write 54 = .ok (.getfield 22, 3) := by decide +kernel
theorem dX9_write_57 : decode cX9_write 57 = .ok (.iload_n 1, 1) := by decide +kernel
theorem dX9_write_58 : decode cX9_write 58 = .ok (.iaload, 1) := by decide +kernel
theorem dX9_write_59 : decode cX9_write 59 = .ok (.iload_n 3, 1) := by decide +kernel
theorem dX9_write_60 : decode cX9_write 60 = .ok (.invokestatic 297, 3) := by decide +kernel
theorem dX9_write_63 : decode cX9_write 63 = .ok (.invokevirtual 451, 3) := by decide +kernel
theorem dX9_write_66 : decode cX9_write 66 = .ok (.iinc 3 1, 3) := by decide +kernel
theorem dX9_write_69 : decode cX9_write 69 = .ok (.goto (-30), 3) := by decide +kernel
theorem dX9_write_72 : decode cX9_write 72 = .ok (.aload_n 0, 1) := by decide +kernel
theorem dX9_write_73 : decode cX9_write 73 = .ok (.bipush 32, 2) := by decide +kernel
theorem dX9_write_75 : decode cX9_write 75 = .ok (.invokevirtual 451, 3) := by decide +kernel
theorem dX9_write_78 : decode cX9_write 78 = .ok (.aload_n 0, 1) := by decide +kernel
theorem dX9_write_79 : decode cX9_write 79 = .ok (.iload_n 2, 1) := by decide +kernel
theorem dX9_write_80 : decode cX9_write 80 = .ok (.invokevirtual 454, 3) := by decide +kernel
theorem dX9_write_83 : decode cX9_write 83 = .ok (.aload_n 0, 1) := by decide +kernel
theorem dX9_write_84 : decode cX9_write 84 = .ok (.iload_n 1, 1) := by decide +kernel
theorem dX9_write_85 : decode cX9_write 85 = .ok (.invokevirtual 308, 3) := by decide +kernel
theorem dX9_write_88 : decode cX9_write 88 = .ok (.ifCond .eq 33, 3) := by decide +kernel
theorem dX9_write_91 : decode cX9_write 91 = .ok (.aload_n 0, 1) := by decide +kernel
theorem dX9_write_92 : decode cX9_write 92 = .ok (.bipush 32, 2) := by decide +kernel
theorem dX9_write_94 : decode cX9_write 94 = .ok (.invokevirtual 451, 3) := by decide +kernel
theorem dX9_write_97 : decode cX9_write 97 = .ok (.aload_n 0, 1) := by decide +kernel
theorem dX9_write_98 : decode cX9_write 98 = .ok (.bipush 100, 2) := by decide +kernel
theorem dX9_write_100 : decode cX9_write 100 = .ok (.invokevirtual 451, 3) := by decide +kernel
theorem dX9_write_103 : decode cX9_write 103 = .ok (.aload_n 0, 1) := by decide +kernel
theorem dX9_write_104 : decode cX9_write 104 = .ok (.bipush 101, 2) := by decide +kernel
theorem dX9_write_106 : decode cX9_write 106 = .ok (.invokevirtual 451, 3) := by decide +kernel
theorem dX9_write_109 : decode cX9_write 109 = .ok (.aload_n 0, 1) := by decide +kernel
theorem dX9_write_110 : decode cX9_write 110 = .ok (.bipush 97, 2) := by decide +kernel
theorem dX9_write_112 : decode cX9_write 112 = .ok (.invokevirtual 451, 3) := by decide +kernel
theorem dX9_write_115 : decode cX9_write 115 = .ok (.aload_n 0, 1) := by decide +kernel
theorem dX9_write_116 : decode cX9_write 116 = .ok (.bipush 100, 2) := by decide +kernel
theorem dX9_write_118 : decode cX9_write 118 = .ok (.invokevirtual 451, 3) := by decide +kernel
theorem dX9_write_121 : decode cX9_write 121 = .ok (.iconst 0, 1) := by decide +kernel
theorem dX9_write_122 : decode cX9_write 122 = .ok (.istore_n 3, 1) := by decide +kernel
theorem dX9_write_123 : decode cX9_write 123 = .ok (.iload_n 3, 1) := by decide +kernel
theorem dX9_write_124 : decode cX9_write 124 = .ok (.aload_n 0, 1) := by decide +kernel
theorem dX9_write_125 : decode cX9_write 125 = .ok (.getfield 275, 3) := by decide +kernel
theorem dX9_write_128 : decode cX9_write 128 = .ok (.if_icmp .ge 45, 3) := by decide +kernel
theorem dX9_write_131 : decode cX9_write 131 = .ok (.aload_n 0, 1) := by decide +kernel
theorem dX9_write_132 : decode cX9_write 132 = .ok (.iload_n 3, 1) := by decide +kernel
theorem dX9_write_133 : decode cX9_write 133 = .ok (.iload_n 1, 1) := by decide +kernel
theorem dX9_write_134 : decode cX9_write 134 = .ok (.invokevirtual 427, 3) := by decide +kernel
theorem dX9_write_137 : decode cX9_write 137 = .ok (.istore 4, 2) := by decide +kernel
theorem dX9_write_139 : decode cX9_write 139 = .ok (.iload 4, 2) := by decide +kernel
theorem dX9_write_141 : decode cX9_write 141 = .ok (.ifCond .le 26, 3) := by decide +kernel
theorem dX9_write_144 : decode cX9_write 144 = .ok (.aload_n 0, 1) := by decide +kernel
theorem dX9_write_145 : decode cX9_write 145 = .ok (.bipush 32, 2) := by decide +kernel
theorem dX9_write_147 : decode cX9_write 147 = .ok (.invokevirtual 451, 3) := by decide +kernel
theorem dX9_write_150 : decode cX9_write 150 = .ok (.aload_n 0, 1) := by decide +kernel
theorem dX9_write_151 : decode cX9_write 151 = .ok (.iload_n 3, 1) := by decide +kernel
theorem dX9_write_152 : decode cX9_write 152 = .ok (.invokevirtual 454, 3) := by decide +kernel
theorem dX9_write_155 : decode cX9_write 155 = .ok (.aload_n 0, 1) := by decide +kernel
theorem dX9_write_156 : decode cX9_write 156 = .ok (.bipush 58, 2) := by decide +kernel
theorem dX9_write_158 : decode cX9_write 158 = .ok (.invokevirtual 451, 3) := by decide +kernel
theorem dX9_write_161 : decode cX9_write 161 = .ok (.aload_n 0, 1) := by decide +kernel
theorem dX9_write_162 : decode cX9_write 162 = .ok (.iload 4, 2) := by decide +kernel
theorem dX9_write_164 : decode cX9_write 164 = .ok (.invokevirtual 454, 3) := by decide +kernel
theorem dX9_write_167 : decode cX9_write 167 = .ok (.iinc 3 1, 3) := by decide +kernel
theorem dX9_write_170 : decode cX9_write 170 = .ok (.goto (-47), 3) := by decide +kernel
theorem dX9_write_173 : decode cX9_write 173 = .ok (.aload_n 0, 1) := by decide +kernel
theorem dX9_write_174 : decode cX9_write 174 = .ok (.iload_n 1, 1) := by decide +kernel
theorem dX9_write_175 : decode cX9_write 175 = .ok (.invokevirtual 430, 3) := by decide +kernel
theorem dX9_write_178 : decode cX9_write 178 = .ok (.istore_n 3, 1) := by decide +kernel
theorem dX9_write_179 : decode cX9_write 179 = .ok (.iload_n 3, 1) := by decide +kernel
theorem dX9_write_180 : decode cX9_write 180 = .ok (.ifCond .le 26, 3) := by decide +kernel
theorem dX9_write_183 : decode cX9_write 183 = .ok (.aload_n 0, 1) := by decide +kernel
theorem dX9_write_184 : decode cX9_write 184 = .ok (.bipush 32, 2) := by decide +kernel
theorem dX9_write_186 : decode cX9_write 186 = .ok (.invokevirtual 451, 3) := by decide +kernel
theorem dX9_write_189 : decode cX9_write 189 = .ok (.aload_n 0, 1) := by decide +kernel
theorem dX9_write_190 : decode cX9_write 190 = .ok (.bipush 105, 2) := by decide +kernel
theorem dX9_write_192 : decode cX9_write 192 = .ok (.invokevirtual 451, 3) := by decide +kernel
theorem dX9_write_195 : decode cX9_write 195 = .ok (.aload_n 0, 1) := by decide +kernel
theorem dX9_write_196 : decode cX9_write 196 = .ok (.bipush 58, 2) := by decide +kernel
theorem dX9_write_198 : decode cX9_write 198 = .ok (.invokevirtual 451, 3) := by decide +kernel
theorem dX9_write_201 : decode cX9_write 201 = .ok (.aload_n 0, 1) := by decide +kernel
theorem dX9_write_202 : decode cX9_write 202 = .ok (.iload_n 3, 1) := by decide +kernel
theorem dX9_write_203 : decode cX9_write 203 = .ok (.invokevirtual 454, 3) := by decide +kernel
theorem dX9_write_206 : decode cX9_write 206 = .ok (.aload_n 0, 1) := by decide +kernel
theorem dX9_write_207 : decode cX9_write 207 = .ok (.getfield 448, 3) := by decide +kernel
theorem dX9_write_210 : decode cX9_write 210 = .ok (.ireturn, 1) := by decide +kernel
theorem dX9_octet_0 : decode cX9_octet 0 = .ok (.aload_n 0, 1) := by decide +kernel
theorem dX9_octet_1 : decode cX9_octet 1 = .ok (.iconst 0, 1) := by decide +kernel
theorem dX9_octet_2 : decode cX9_octet 2 = .ok (.putfield 98, 3) := by decide +kernel
theorem dX9_octet_5 : decode cX9_octet 5 = .ok (.iload_n 1, 1) := by decide +kernel
theorem dX9_octet_6 : decode cX9_octet 6 = .ok (.i2l, 1) := by decide +kernel
theorem dX9_octet_7 : decode cX9_octet 7 = .ok (.lconst 0, 1) := by decide +kernel
theorem dX9_octet_8 : decode cX9_octet 8 = .ok (.aload_n 0, 1) := by decide +kernel
theorem dX9_octet_9 : decode cX9_octet 9 = .ok (.getfield 448, 3) := by decide +kernel
theorem dX9_octet_12 : decode cX9_octet 12 = .ok (.iconst 1, 1) := by decide +kernel
theorem dX9_octet_13 : decode cX9_octet 13 = .ok (.isub, 1) := by decide +kernel
theorem dX9_octet_14 : decode cX9_octet 14 = .ok (.i2l, 1) := by decide +kernel
theorem dX9_octet_15 : decode cX9_octet 15 = .ok (.invokestatic 143, 3) := by decide +kernel
theorem dX9_octet_18 : decode cX9_octet 18 = .ok (.ifCond .eq 12, 3) := by decide +kernel
theorem dX9_octet_21 : decode cX9_octet 21 = .ok (.aload_n 0, 1) := by decide +kernel
theorem dX9_octet_22 : decode cX9_octet 22 = .ok (.getfield 95, 3) := by decide +kernel
theorem dX9_octet_25 : decode cX9_octet 25 = .ok (.iload_n 1, 1) := by decide +kernel
theorem dX9_octet_26 : decode cX9_octet 26 = .ok (.iaload, 1) := by decide +kernel
theorem dX9_octet_27 : decode cX9_octet 27 = .ok (.goto 4, 3) := by decide +kernel
theorem dX9_octet_30 : decode cX9_octet 30 = .ok (.iconst (-1), 1) := by decide +kernel
theorem dX9_octet_31 : decode cX9_octet 31 = .ok (.ireturn, 1) := by decide +kernel
theorem dX9_manyHeld_0 : decode cX9_manyHeld 0 = .ok (.iconst 0, 1) := by decide +kernel
theorem dX9_manyHeld_1 : decode cX9_manyHeld 1 = .ok (.istore_n 1, 1) := by decide +kernel
theorem dX9_manyHeld_2 : decode cX9_manyHeld 2 = .ok (.iconst 0, 1) := by decide +kernel
theorem dX9_manyHeld_3 : decode cX9_manyHeld 3 = .ok (.istore_n 2, 1) := by decide +kernel
theorem dX9_manyHeld_4 : decode cX9_manyHeld 4 = .ok (.iload_n 2, 1) := by decide +kernel
theorem dX9_manyHeld_5 : decode cX9_manyHeld 5 = .ok (.aload_n 0, 1) := by decide +kernel
theorem dX9_manyHeld_6 : decode cX9_manyHeld 6 = .ok (.getfield 278, 3) := by decide +kernel
theorem dX9_manyHeld_9 : decode cX9_manyHeld 9 = .ok (.if_icmp .ge 26, 3) := by decide +kernel
theorem dX9_manyHeld_12 : decode cX9_manyHeld 12 = .ok (.iload_n 1, 1) := by decide +kernel
theorem dX9_manyHeld_13 : decode cX9_manyHeld 13 = .ok (.aload_n 0, 1) := by decide +kernel
theorem dX9_manyHeld_14 : decode cX9_manyHeld 14 = .ok (.iload_n 2, 1) := by decide +kernel
theorem dX9_manyHeld_15 : decode cX9_manyHeld 15 = .ok (.iconst 1, 1) := by decide +kernel
theorem dX9_manyHeld_16 : decode cX9_manyHeld 16 = .ok (.invokevirtual 300, 3) := by decide +kernel
theorem dX9_manyHeld_19 : decode cX9_manyHeld 19 = .ok (.ifCond .ne 7, 3) := by decide +kernel
theorem dX9_manyHeld_22 : decode cX9_manyHeld 22 = .ok (.iconst 1, 1) := by decide +kernel
theorem dX9_manyHeld_23 : decode cX9_manyHeld 23 = .ok (.goto 4, 3) := by decide +kernel
theorem dX9_manyHeld_26 : decode cX9_manyHeld 26 = .ok (.iconst 0, 1) := by decide +kernel
theorem dX9_manyHeld_27 : decode cX9_manyHeld 27 = .ok (.iadd, 1) := by decide +kernel
theorem dX9_manyHeld_28 : decode cX9_manyHeld 28 = .ok (.istore_n 1, 1) := by decide +kernel
theorem dX9_manyHeld_29 : decode cX9_manyHeld 29 = .ok (.iinc 2 1, 3) := by decide +kernel
theorem dX9_manyHeld_32 : decode cX9_manyHeld 32 = .ok (.goto (-28), 3) := by decide +kernel
theorem dX9_manyHeld_35 : decode cX9_manyHeld 35 = .ok (.iload_n 1, 1) := by decide +kernel
theorem dX9_manyHeld_36 : decode cX9_manyHeld 36 = .ok (.ireturn, 1) := by decide +kernel
theorem dX9_manyGifts_0 : decode cX9_manyGifts 0 = .ok (.iconst 0, 1) := by decide +kernel
theorem dX9_manyGifts_1 : decode cX9_manyGifts 1 = .ok (.istore_n 2, 1) := by decide +kernel
theorem dX9_manyGifts_2 : decode cX9_manyGifts 2 = .ok (.iconst 0, 1) := by decide +kernel
theorem dX9_manyGifts_3 : decode cX9_manyGifts 3 = .ok (.istore_n 3, 1) := by decide +kernel
theorem dX9_manyGifts_4 : decode cX9_manyGifts 4 = .ok (.iload_n 3, 1) := by decide +kernel
theorem dX9_manyGifts_5 : decode cX9_manyGifts 5 = .ok (.aload_n 0, 1) := by decide +kernel
theorem dX9_manyGifts_6 : decode cX9_manyGifts 6 = .ok (.getfield 275, 3) := by decide +kernel
theorem dX9_manyGifts_9 : decode cX9_manyGifts 9 = .ok (.if_icmp .ge 45, 3) := by decide +kernel
theorem dX9_manyGifts_12 : decode cX9_manyGifts 12 = .ok (.iload_n 2, 1) := by decide +kernel
theorem dX9_manyGifts_13 : decode cX9_manyGifts 13 = .ok (.iload_n 1, 1) := by decide +kernel
theorem dX9_manyGifts_14 : decode cX9_manyGifts 14 = .ok (.ifCond .eq 19, 3) := by decide +kernel
theorem dX9_manyGifts_17 : decode cX9_manyGifts 17 = .ok (.aload_n 0, 1) := by decide +kernel
theorem dX9_manyGifts_18 : decode cX9_manyGifts 18 = .ok (.getfield 7, 3) := by decide +kernel
theorem dX9_manyGifts_21 : decode cX9_manyGifts 21 = .ok (.bipush 44, 2) := by decide +kernel
theorem dX9_manyGifts_23 : decode cX9_manyGifts 23 = .ok (.iload_n 3, 1) := by decide +kernel
theorem dX9_manyGifts_24 : decode cX9_manyGifts 24 = .ok (.iadd, 1) := by decide +kernel
theorem dX9_manyGifts_25 : decode cX9_manyGifts 25 = .ok (.iaload, 1) := by decide +kernel
theorem dX9_manyGifts_26 : decode cX9_manyGifts 26 = .ok (.iconst 1, 1) := by decide +kernel
theorem dX9_manyGifts_27 : decode cX9_manyGifts 27 = .ok (.if_icmp .ne 18, 3) := by decide +kernel
theorem dX9_manyGifts_30 : decode cX9_manyGifts 30 = .ok (.goto 11, 3) := by decide +kernel
theorem dX9_manyGifts_33 : decode cX9_manyGifts 33 = .ok (.aload_n 0, 1) := by decide +kernel
theorem dX9_manyGifts_34 : decode cX9_manyGifts 34 = .ok (.iload_n 3, 1) := by decide +kernel
theorem dX9_manyGifts_35 : decode cX9_manyGifts 35 = .ok (.invokevirtual 322, 3) := by decide +kernel
theorem dX9_manyGifts_38 : decode cX9_manyGifts 38 = .ok (.ifCond .eq 7, 3) := by decide +kernel
theorem dX9_manyGifts_41 : decode cX9_manyGifts 41 = .ok (.iconst 1, 1) := by decide +kernel
theorem dX9_manyGifts_42 : decode cX9_manyGifts 42 = .ok (.goto 4, 3) := by decide +kernel
theorem dX9_manyGifts_45 : decode cX9_manyGifts 45 = .ok (.iconst 0, 1) := by decide +kernel
theorem dX9_manyGifts_46 : decode cX9_manyGifts 46 = .ok (.iadd, 1) := by decide +kernel
theorem dX9_manyGifts_47 : decode cX9_manyGifts 47 = .ok (.istore_n 2, 1) := by decide +kernel
theorem dX9_manyGifts_48 : decode cX9_manyGifts 48 = .ok (.iinc 3 1, 3) := by decide +kernel
theorem dX9_manyGifts_51 : decode cX9_manyGifts 51 = .ok (.goto (-47), 3) := by decide +kernel
theorem dX9_manyGifts_54 : decode cX9_manyGifts 54 = .ok (.iload_n 2, 1) := by decide +kernel
theorem dX9_manyGifts_55 : decode cX9_manyGifts 55 = .ok (.ireturn, 1) := by decide +kernel
theorem dX9_count_0 : decode cX9_count 0 = .ok (.aload_n 0, 1) := by decide +kernel
theorem dX9_count_1 : decode cX9_count 1 = .ok (.iconst 0, 1) := by decide +kernel
theorem dX9_count_2 : decode cX9_count 2 = .ok (.putfield 98, 3) := by decide +kernel
theorem dX9_count_5 : decode cX9_count 5 = .ok (.iload_n 1, 1) := by decide +kernel
theorem dX9_count_6 : decode cX9_count 6 = .ok (.tableswitch 138 0 14 #[74, 79, 84, 89, 89, 89, 89, 89, 101, 106, 111, 117, 122, 127, 132], 74) := by decide +kernel
theorem dX9_count_80 : decode cX9_count 80 = .ok (.aload_n 0, 1) := by decide +kernel
theorem dX9_count_81 : decode cX9_count 81 = .ok (.getfield 278, 3) := by decide +kernel
theorem dX9_count_84 : decode cX9_count 84 = .ok (.ireturn, 1) := by decide +kernel
theorem dX9_count_85 : decode cX9_count 85 = .ok (.aload_n 0, 1) := by decide +kernel
theorem dX9_count_86 : decode cX9_count 86 = .ok (.getfield 281, 3) := by decide +kernel
theorem dX9_count_89 : decode cX9_count 89 = .ok (.ireturn, 1) := by decide +kernel
theorem dX9_count_90 : decode cX9_count 90 = .ok (.aload_n 0, 1) := by decide +kernel
theorem dX9_count_91 : decode cX9_count 91 = .ok (.getfield 275, 3) := by decide +kernel
theorem dX9_count_94 : decode cX9_count 94 = .ok (.ireturn, 1) := by decide +kernel
theorem dX9_count_95 : decode cX9_count 95 = .ok (.aload_n 0, 1) := by decide +kernel
theorem dX9_count_96 : decode cX9_count 96 = .ok (.getfield 7, 3) := by decide +kernel
theorem dX9_count_99 : decode cX9_count 99 = .ok (.bipush 56, 2) := by decide +kernel
theorem dX9_count_101 : decode cX9_count 101 = .ok (.iload_n 1, 1) := by decide +kernel
theorem dX9_count_102 : decode cX9_count 102 = .ok (.iadd, 1) := by decide +kernel
theorem dX9_count_103 : decode cX9_count 103 = .ok (.iconst 3, 1) := by decide +kernel
theorem dX9_count_104 : decode cX9_count 104 = .ok (.isub, 1) := by decide +kernel
theorem dX9_count_105 : decode cX9_count 105 = .ok (.iaload, 1) := by decide +kernel
theorem dX9_count_106 : decode cX9_count 106 = .ok (.ireturn, 1) := by decide +kernel
theorem dX9_count_107 : decode cX9_count 107 = .ok (.aload_n 0, 1) := by decide +kernel
theorem dX9_count_108 : decode cX9_count 108 = .ok (.invokevirtual 341, 3) := by decide +kernel
theorem dX9_count_111 : decode cX9_count 111 = .ok (.ireturn, 1) := by decide +kernel
theorem dX9_count_112 : decode cX9_count 112 = .ok (.aload_n 0, 1) := by decide +kernel
theorem dX9_count_113 : decode cX9_count 113 = .ok (.invokevirtual 457, 3) := by decide +kernel
theorem dX9_count_116 : decode cX9_count 116 = .ok (.ireturn, 1) := by decide +kernel
theorem dX9_count_117 : decode cX9_count 117 = .ok (.aload_n 0, 1) := by decide +kernel
theorem dX9_count_118 : decode cX9_count 118 = .ok (.iconst 0, 1) := by decide +kernel
theorem dX9_count_119 : decode cX9_count 119 = .ok (.invokevirtual 460, 3) := by decide +kernel
theorem dX9_count_122 : decode cX9_count 122 = .ok (.ireturn, 1) := by decide +kernel
theorem dX9_count_123 : decode cX9_count 123 = .ok (.aload_n 0, 1) := by decide +kernel
theorem dX9_count_124 : decode cX9_count 124 = .ok (.invokevirtual 397, 3) := by decide +kernel
theorem dX9_count_127 : decode cX9_count 127 = .ok (.ireturn, 1) := by decide +kernel
theorem dX9_count_128 : decode cX9_count 128 = .ok (.aload_n 0, 1) := by decide +kernel
theorem dX9_count_129 : decode cX9_count 129 = .ok (.getfield 284, 3) := by decide +kernel
theorem dX9_count_132 : decode cX9_count 132 = .ok (.ireturn, 1) := by decide +kernel
theorem dX9_count_133 : decode cX9_count 133 = .ok (.aload_n 0, 1) := by decide +kernel
theorem dX9_count_134 : decode cX9_count 134 = .ok (.getfield 448, 3) := by decide +kernel
theorem dX9_count_137 : decode cX9_count 137 = .ok (.ireturn, 1) := by decide +kernel
theorem dX9_count_138 : decode cX9_count 138 = .ok (.aload_n 0, 1) := by decide +kernel
theorem dX9_count_139 : decode cX9_count 139 = .ok (.iconst 1, 1) := by decide +kernel
theorem dX9_count_140 : decode cX9_count 140 = .ok (.invokevirtual 460, 3) := by decide +kernel
theorem dX9_count_143 : decode cX9_count 143 = .ok (.ireturn, 1) := by decide +kernel
theorem dX9_count_144 : decode cX9_count 144 = .ok (.iconst (-1), 1) := by decide +kernel
theorem dX9_count_145 : decode cX9_count 145 = .ok (.ireturn, 1) := by decide +kernel

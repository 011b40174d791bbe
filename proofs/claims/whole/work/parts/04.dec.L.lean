theorem dL_read_0 : decode cL_read 0 = .ok (.aload_n 1, 1) := by decide +kernel
theorem dL_read_1 : decode cL_read 1 = .ok (.iconst 0, 1) := by decide +kernel
theorem dL_read_2 : decode cL_read 2 = .ok (.aload_n 0, 1) := by decide +kernel
theorem dL_read_3 : decode cL_read 3 = .ok (.invokevirtual 7, 3) := by decide +kernel
theorem dL_read_6 : decode cL_read 6 = .ok (.i2l, 1) := by decide +kernel
theorem dL_read_7 : decode cL_read 7 = .ok (.lastore, 1) := by decide +kernel
theorem dL_read_8 : decode cL_read 8 = .ok (.goto 6, 3) := by decide +kernel
theorem dL_read_11 : decode cL_read 11 = .ok (.astore_n 2, 1) := by decide +kernel
theorem dL_read_12 : decode cL_read 12 = .ok (.iconst 1, 1) := by decide +kernel
theorem dL_read_13 : decode cL_read 13 = .ok (.ireturn, 1) := by decide +kernel
theorem dL_read_14 : decode cL_read 14 = .ok (.iconst 0, 1) := by decide +kernel
theorem dL_read_15 : decode cL_read 15 = .ok (.ireturn, 1) := by decide +kernel
theorem dL_name_0 : decode cL_name 0 = .ok (.aload 4, 2) := by decide +kernel
theorem dL_name_2 : decode cL_name 2 = .ok (.iconst 0, 1) := by decide +kernel
theorem dL_name_3 : decode cL_name 3 = .ok (.aload_n 0, 1) := by decide +kernel
theorem dL_name_4 : decode cL_name 4 = .ok (.iload_n 1, 1) := by decide +kernel
theorem dL_name_5 : decode cL_name 5 = .ok (.iload_n 2, 1) := by decide +kernel
theorem dL_name_6 : decode cL_name 6 = .ok (.iload_n 3, 1) := by decide +kernel
theorem dL_name_7 : decode cL_name 7 = .ok (.invokevirtual 15, 3) := by decide +kernel
theorem dL_name_10 : decode cL_name 10 = .ok (.i2l, 1) := by decide +kernel
theorem dL_name_11 : decode cL_name 11 = .ok (.lastore, 1) := by decide +kernel
theorem dL_name_12 : decode cL_name 12 = .ok (.goto 7, 3) := by decide +kernel
theorem dL_name_15 : decode cL_name 15 = .ok (.astore 5, 2) := by decide +kernel
theorem dL_name_17 : decode cL_name 17 = .ok (.iconst 1, 1) := by decide +kernel
theorem dL_name_18 : decode cL_name 18 = .ok (.ireturn, 1) := by decide +kernel
theorem dL_name_19 : decode cL_name 19 = .ok (.iconst 0, 1) := by decide +kernel
theorem dL_name_20 : decode cL_name 20 = .ok (.ireturn, 1) := by decide +kernel
theorem dL_thing_0 : decode cL_thing 0 = .ok (.aload_n 3, 1) := by decide +kernel
theorem dL_thing_1 : decode cL_thing 1 = .ok (.iconst 0, 1) := by decide +kernel
theorem dL_thing_2 : decode cL_thing 2 = .ok (.aload_n 0, 1) := by decide +kernel
theorem dL_thing_3 : decode cL_thing 3 = .ok (.iload_n 1, 1) := by decide +kernel
theorem dL_thing_4 : decode cL_thing 4 = .ok (.iload_n 2, 1) := by decide +kernel
theorem dL_thing_5 : decode cL_thing 5 = .ok (.invokevirtual 21, 3) := by decide +kernel
theorem dL_thing_8 : decode cL_thing 8 = .ok (.i2l, 1) := by decide +kernel
theorem dL_thing_9 : decode cL_thing 9 = .ok (.lastore, 1) := by decide +kernel
theorem dL_thing_10 : decode cL_thing 10 = .ok (.goto 11, 3) := by decide +kernel
theorem dL_thing_13 : decode cL_thing 13 = .ok (.astore 4, 2) := by decide +kernel
theorem dL_thing_15 : decode cL_thing 15 = .ok (.iconst 1, 1) := by decide +kernel
theorem dL_thing_16 : decode cL_thing 16 = .ok (.ireturn, 1) := by decide +kernel
theorem dL_thing_17 : decode cL_thing 17 = .ok (.astore 4, 2) := by decide +kernel
theorem dL_thing_19 : decode cL_thing 19 = .ok (.iconst 2, 1) := by decide +kernel
theorem dL_thing_20 : decode cL_thing 20 = .ok (.ireturn, 1) := by decide +kernel
theorem dL_thing_21 : decode cL_thing 21 = .ok (.iconst 0, 1) := by decide +kernel
theorem dL_thing_22 : decode cL_thing 22 = .ok (.ireturn, 1) := by decide +kernel
theorem dL_person_0 : decode cL_person 0 = .ok (.aload_n 3, 1) := by decide +kernel
theorem dL_person_1 : decode cL_person 1 = .ok (.iconst 0, 1) := by decide +kernel
theorem dL_person_2 : decode cL_person 2 = .ok (.aload_n 0, 1) := by decide +kernel
theorem dL_person_3 : decode cL_person 3 = .ok (.iload_n 1, 1) := by decide +kernel
theorem dL_person_4 : decode cL_person 4 = .ok (.iload_n 2, 1) := by decide +kernel
theorem dL_person_5 : decode cL_person 5 = .ok (.invokevirtual 27, 3) := by decide +kernel
theorem dL_person_8 : decode cL_person 8 = .ok (.i2l, 1) := by decide +kernel
theorem dL_person_9 : decode cL_person 9 = .ok (.lastore, 1) := by decide +kernel
theorem dL_person_10 : decode cL_person 10 = .ok (.goto 11, 3) := by decide +kernel
theorem dL_person_13 : decode cL_person 13 = .ok (.astore 4, 2) := by decide +kernel
theorem dL_person_15 : decode cL_person 15 = .ok (.iconst 1, 1) := by decide +kernel
theorem dL_person_16 : decode cL_person 16 = .ok (.ireturn, 1) := by decide +kernel
theorem dL_person_17 : decode cL_person 17 = .ok (.astore 4, 2) := by decide +kernel
theorem dL_person_19 : decode cL_person 19 = .ok (.iconst 2, 1) := by decide +kernel
theorem dL_person_20 : decode cL_person 20 = .ok (.ireturn, 1) := by decide +kernel
theorem dL_person_21 : decode cL_person 21 = .ok (.iconst 0, 1) := by decide +kernel
theorem dL_person_22 : decode cL_person 22 = .ok (.ireturn, 1) := by decide +kernel
theorem dL_gift_0 : decode cL_gift 0 = .ok (.aload_n 3, 1) := by decide +kernel
theorem dL_gift_1 : decode cL_gift 1 = .ok (.iconst 0, 1) := by decide +kernel
theorem dL_gift_2 : decode cL_gift 2 = .ok (.aload_n 0, 1) := by decide +kernel
theorem dL_gift_3 : decode cL_gift 3 = .ok (.iload_n 1, 1) := by decide +kernel
theorem dL_gift_4 : decode cL_gift 4 = .ok (.iload_n 2, 1) := by decide +kernel
theorem dL_gift_5 : decode cL_gift 5 = .ok (.invokevirtual 30, 3) := by decide +kernel
theorem dL_gift_8 : decode cL_gift 8 = .ok (.i2l, 1) := by decide +kernel
theorem dL_gift_9 : decode cL_gift 9 = .ok (.lastore, 1) := by decide +kernel
theorem dL_gift_10 : decode cL_gift 10 = .ok (.goto 11, 3) := by decide +kernel
theorem dL_gift_13 : decode cL_gift 13 = .ok (.astore 4, 2) := by decide +kernel
theorem dL_gift_15 : decode cL_gift 15 = .ok (.iconst 1, 1) := by decide +kernel
theorem dL_gift_16 : decode cL_gift 16 = .ok (.ireturn, 1) := by decide +kernel
theorem dL_gift_17 : decode cL_gift 17 = .ok (.astore 4, 2) := by decide +kernel
theorem dL_gift_19 : decode cL_gift 19 = .ok (.iconst 2, 1) := by decide +kernel
theorem dL_gift_20 : decode cL_gift 20 = .ok (.ireturn, 1) := by decide +kernel
theorem dL_gift_21 : decode cL_gift 21 = .ok (.iconst 0, 1) := by decide +kernel
theorem dL_gift_22 : decode cL_gift 22 = .ok (.ireturn, 1) := by decide +kernel
theorem dL_sell_0 : decode cL_sell 0 = .ok (.aload 4, 2) := by decide +kernel
theorem dL_sell_2 : decode cL_sell 2 = .ok (.iconst 0, 1) := by decide +kernel
theorem dL_sell_3 : decode cL_sell 3 = .ok (.aload_n 0, 1) := by decide +kernel
theorem dL_sell_4 : decode cL_sell 4 = .ok (.iload_n 1, 1) := by decide +kernel
theorem dL_sell_5 : decode cL_sell 5 = .ok (.iload_n 2, 1) := by decide +kernel
theorem dL_sell_6 : decode cL_sell 6 = .ok (.iload_n 3, 1) := by decide +kernel
theorem dL_sell_7 : decode cL_sell 7 = .ok (.invokevirtual 33, 3) := by decide +kernel
theorem dL_sell_10 : decode cL_sell 10 = .ok (.i2l, 1) := by decide +kernel
theorem dL_sell_11 : decode cL_sell 11 = .ok (.lastore, 1) := by decide +kernel
theorem dL_sell_12 : decode cL_sell 12 = .ok (.goto 15, 3) := by decide +kernel
theorem dL_sell_15 : decode cL_sell 15 = .ok (.astore 5, 2) := by decide +kernel
theorem dL_sell_17 : decode cL_sell 17 = .ok (.iconst 1, 1) := by decide +kernel
theorem dL_sell_18 : decode cL_sell 18 = .ok (.ireturn, 1) := by decide +kernel
theorem dL_sell_19 : decode cL_sell 19 = .ok (.astore 5, 2) := by decide +kernel
theorem dL_sell_21 : decode cL_sell 21 = .ok (.iconst 2, 1) := by decide +kernel
theorem dL_sell_22 : decode cL_sell 22 = .ok (.ireturn, 1) := by decide +kernel
theorem dL_sell_23 : decode cL_sell 23 = .ok (.astore 5, 2) := by decide +kernel
theorem dL_sell_25 : decode cL_sell 25 = .ok (.iconst 3, 1) := by decide +kernel
theorem dL_sell_26 : decode cL_sell 26 = .ok (.ireturn, 1) := by decide +kernel
theorem dL_sell_27 : decode cL_sell 27 = .ok (.iconst 0, 1) := by decide +kernel
theorem dL_sell_28 : decode cL_sell 28 = .ok (.ireturn, 1) := by decide +kernel
theorem dL_change_0 : decode cL_change 0 = .ok (.aload_n 3, 1) := by decide +kernel
theorem dL_change_1 : decode cL_change 1 = .ok (.iconst 0, 1) := by decide +kernel
theorem dL_change_2 : decode cL_change 2 = .ok (.aload_n 0, 1) := by decide +kernel
theorem dL_change_3 : decode cL_change 3 = .ok (.iload_n 1, 1) := by decide +kernel
theorem dL_change_4 : decode cL_change 4 = .ok (.iload_n 2, 1) := by decide +kernel
theorem dL_change_5 : decode cL_change 5 = .ok (.invokevirtual 39, 3) := by decide +kernel
theorem dL_change_8 : decode cL_change 8 = .ok (.i2l, 1) := by decide +kernel
theorem dL_change_9 : decode cL_change 9 = .ok (.lastore, 1) := by decide +kernel
theorem dL_change_10 : decode cL_change 10 = .ok (.goto 15, 3) := by decide +kernel
theorem dL_change_13 : decode cL_change 13 = .ok (.astore 4, 2) := by decide +kernel
theorem dL_change_15 : decode cL_change 15 = .ok (.iconst 1, 1) := by decide +kernel
theorem dL_change_16 : decode cL_change 16 = .ok (.ireturn, 1) := by decide +kernel
theorem dL_change_17 : decode cL_change 17 = .ok (.astore 4, 2) := by decide +kernel
theorem dL_change_19 : decode cL_change 19 = .ok (.iconst 2, 1) := by decide +kernel
theorem dL_change_20 : decode cL_change 20 = .ok (.ireturn, 1) := by decide +kernel
theorem dL_change_21 : decode cL_change 21 = .ok (.astore 4, 2) := by decide +kernel
theorem dL_change_23 : decode cL_change 23 = .ok (.iconst 3, 1) := by decide +kernel
theorem dL_change_24 : decode cL_change 24 = .ok (.ireturn, 1) := by decide +kernel
theorem dL_change_25 : decode cL_change 25 = .ok (.iconst 0, 1) := by decide +kernel
theorem dL_change_26 : decode cL_change 26 = .ok (.ireturn, 1) := by decide +kernel
theorem dL_lose_0 : decode cL_lose 0 = .ok (.aload_n 3, 1) := by decide +kernel
theorem dL_lose_1 : decode cL_lose 1 = .ok (.iconst 0, 1) := by decide +kernel
theorem dL_lose_2 : decode cL_lose 2 = .ok (.aload_n 0, 1) := by decide +kernel
theorem dL_lose_3 : decode cL_lose 3 = .ok (.iload_n 1, 1) := by decide +kernel
theorem dL_lose_4 : decode cL_lose 4 = .ok (.iload_n 2, 1) := by decide +kernel
theorem dL_lose_5 : decode cL_lose 5 = .ok (.invokevirtual 42, 3) := by decide +kernel
theorem dL_lose_8 : decode cL_lose 8 = .ok (.i2l, 1) := by decide +kernel
theorem dL_lose_9 : decode cL_lose 9 = .ok (.lastore, 1) := by decide +kernel
theorem dL_lose_10 : decode cL_lose 10 = .ok (.goto 15, 3) := by decide +kernel
theorem dL_lose_13 : decode cL_lose 13 = .ok (.astore 4, 2) := by decide +kernel
theorem dL_lose_15 : decode cL_lose 15 = .ok (.iconst 1, 1) := by decide +kernel
theorem dL_lose_16 : decode cL_lose 16 = .ok (.ireturn, 1) := by decide +kernel
theorem dL_lose_17 : decode cL_lose 17 = .ok (.astore 4, 2) := by decide +kernel
theorem dL_lose_19 : decode cL_lose 19 = .ok (.iconst 2, 1) := by decide +kernel
theorem dL_lose_20 : decode cL_lose 20 = .ok (.ireturn, 1) := by decide +kernel
theorem dL_lose_21 : decode cL_lose 21 = .ok (.astore 4, 2) := by decide +kernel
theorem dL_lose_23 : decode cL_lose 23 = .ok (.iconst 3, 1) := by decide +kernel
theorem dL_lose_24 : decode cL_lose 24 = .ok (.ireturn, 1) := by decide +kernel
theorem dL_lose_25 : decode cL_lose 25 = .ok (.iconst 0, 1) := by decide +kernel
theorem dL_lose_26 : decode cL_lose 26 = .ok (.ireturn, 1) := by decide +kernel
theorem dL_die_0 : decode cL_die 0 = .ok (.aload_n 2, 1) := by decide +kernel
theorem dL_die_1 : decode cL_die 1 = .ok (.iconst 0, 1) := by decide +kernel
theorem dL_die_2 : decode cL_die 2 = .ok (.aload_n 0, 1) := by decide +kernel
theorem dL_die_3 : decode cL_die 3 = .ok (.iload_n 1, 1) := by decide +kernel
theorem dL_die_4 : decode cL_die 4 = .ok (.invokevirtual 45, 3) := by decide +kernel
theorem dL_die_7 : decode cL_die 7 = .ok (.i2l, 1) := by decide +kernel
theorem dL_die_8 : decode cL_die 8 = .ok (.lastore, 1) := by decide +kernel
theorem dL_die_9 : decode cL_die 9 = .ok (.goto 9, 3) := by decide +kernel
theorem dL_die_12 : decode cL_die 12 = .ok (.astore_n 3, 1) := by decide +kernel
theorem dL_die_13 : decode cL_die 13 = .ok (.iconst 1, 1) := by decide +kernel
theorem dL_die_14 : decode cL_die 14 = .ok (.ireturn, 1) := by decide +kernel
theorem dL_die_15 : decode cL_die 15 = .ok (.astore_n 3, 1) := by decide +kernel
theorem dL_die_16 : decode cL_die 16 = .ok (.iconst 2, 1) := by decide +kernel
theorem dL_die_17 : decode cL_die 17 = .ok (.ireturn, 1) := by decide +kernel
theorem dL_die_18 : decode cL_die 18 = .ok (.iconst 0, 1) := by decide +kernel
theorem dL_die_19 : decode cL_die 19 = .ok (.ireturn, 1) := by decide +kernel
theorem dL_renounce_0 : decode cL_renounce 0 = .ok (.aload_n 3, 1) := by decide +kernel
theorem dL_renounce_1 : decode cL_renounce 1 = .ok (.iconst 0, 1) := by decide +kernel
theorem dL_renounce_2 : decode cL_renounce 2 = .ok (.aload_n 0, 1) := by decide +kernel
theorem dL_renounce_3 : decode cL_renounce 3 = .ok (.iload_n 1, 1) := by decide +kernel
theorem dL_renounce_4 : decode cL_renounce 4 = .ok (.iload_n 2, 1) := by decide +kernel
theorem dL_renounce_5 : decode cL_renounce 5 = .ok (.invokevirtual 49, 3) := by decide +kernel
theorem dL_renounce_8 : decode cL_renounce 8 = .ok (.ifCond .eq 7, 3) := by decide +kernel
theorem dL_renounce_11 : decode cL_renounce 11 = .ok (.lconst 1, 1) := by decide +kernel
theorem dL_renounce_12 : decode cL_renounce 12 = .ok (.goto 4, 3) := by decide +kernel
theorem dL_renounce_15 : decode cL_renounce 15 = .ok (.lconst 0, 1) := by decide +kernel
theorem dL_renounce_16 : decode cL_renounce 16 = .ok (.lastore, 1) := by decide +kernel
theorem dL_renounce_17 : decode cL_renounce 17 = .ok (.goto 7, 3) := by decide +kernel
theorem dL_renounce_20 : decode cL_renounce 20 = .ok (.astore 4, 2) := by decide +kernel
theorem dL_renounce_22 : decode cL_renounce 22 = .ok (.iconst 1, 1) := by decide +kernel
theorem dL_renounce_23 : decode cL_renounce 23 = .ok (.ireturn, 1) := by decide +kernel
theorem dL_renounce_24 : decode cL_renounce 24 = .ok (.iconst 0, 1) := by decide +kernel
theorem dL_renounce_25 : decode cL_renounce 25 = .ok (.ireturn, 1) := by decide +kernel
theorem dL_set_0 : decode cL_set 0 = .ok (.aload_n 3, 1) := by decide +kernel
theorem dL_set_1 : decode cL_set 1 = .ok (.iconst 0, 1) := by decide +kernel
theorem dL_set_2 : decode cL_set 2 = .ok (.aload_n 0, 1) := by decide +kernel
theorem dL_set_3 : decode cL_set 3 = .ok (.iload_n 1, 1) := by decide +kernel
theorem dL_set_4 : decode cL_set 4 = .ok (.iload_n 2, 1) := by decide +kernel
theorem dL_set_5 : decode cL_set 5 = .ok (.invokevirtual 53, 3) := by decide +kernel
theorem dL_set_8 : decode cL_set 8 = .ok (.i2l, 1) := by decide +kernel
theorem dL_set_9 : decode cL_set 9 = .ok (.lastore, 1) := by decide +kernel
theorem dL_set_10 : decode cL_set 10 = .ok (.goto 11, 3) := by decide +kernel
theorem dL_set_13 : decode cL_set 13 = .ok (.astore 4, 2) := by decide +kernel
theorem dL_set_15 : decode cL_set 15 = .ok (.iconst 1, 1) := by decide +kernel
theorem dL_set_16 : decode cL_set 16 = .ok (.ireturn, 1) := by decide +kernel
theorem dL_set_17 : decode cL_set 17 = .ok (.astore 4, 2) := by decide +kernel
theorem dL_set_19 : decode cL_set 19 = .ok (.iconst 2, 1) := by decide +kernel
theorem dL_set_20 : decode cL_set 20 = .ok (.ireturn, 1) := by decide +kernel
theorem dL_set_21 : decode cL_set 21 = .ok (.iconst 0, 1) := by decide +kernel
theorem dL_set_22 : decode cL_set 22 = .ok (.ireturn, 1) := by decide +kernel
theorem dL_estate_0 : decode cL_estate 0 = .ok (.aload_n 2, 1) := by decide +kernel
theorem dL_estate_1 : decode cL_estate 1 = .ok (.iconst 0, 1) := by decide +kernel
theorem dL_estate_2 : decode cL_estate 2 = .ok (.aload_n 0, 1) := by decide +kernel
theorem dL_estate_3 : decode cL_estate 3 = .ok (.iload_n 1, 1) := by decide +kernel
theorem dL_estate_4 : decode cL_estate 4 = .ok (.invokevirtual 56, 3) := by decide +kernel
theorem dL_estate_7 : decode cL_estate 7 = .ok (.i2l, 1) := by decide +kernel
theorem dL_estate_8 : decode cL_estate 8 = .ok (.lastore, 1) := by decide +kernel
theorem dL_estate_9 : decode cL_estate 9 = .ok (.goto 6, 3) := by decide +kernel
theorem dL_estate_12 : decode cL_estate 12 = .ok (.astore_n 3, 1) := by decide +kernel
theorem dL_estate_13 : decode cL_estate 13 = .ok (.iconst 1, 1) := by decide +kernel
theorem dL_estate_14 : decode cL_estate 14 = .ok (.ireturn, 1) := by decide +kernel
theorem dL_estate_15 : decode cL_estate 15 = .ok (.iconst 0, 1) := by decide +kernel
theorem dL_estate_16 : decode cL_estate 16 = .ok (.ireturn, 1) := by decide +kernel
theorem dL_due_0 : decode cL_due 0 = .ok (.aload_n 3, 1) := by decide +kernel
theorem dL_due_1 : decode cL_due 1 = .ok (.iconst 0, 1) := by decide +kernel
theorem dL_due_2 : decode cL_due 2 = .ok (.aload_n 0, 1) := by decide +kernel
theorem dL_due_3 : decode cL_due 3 = .ok (.iload_n 1, 1) := by decide +kernel
theorem dL_due_4 : decode cL_due 4 = .ok (.iload_n 2, 1) := by decide +kernel
theorem dL_due_5 : decode cL_due 5 = .ok (.invokevirtual 59, 3) := by decide +kernel
theorem dL_due_8 : decode cL_due 8 = .ok (.i2l, 1) := by decide +kernel
theorem dL_due_9 : decode cL_due 9 = .ok (.lastore, 1) := by decide +kernel
theorem dL_due_10 : decode cL_due 10 = .ok (.goto 11, 3) := by decide +kernel
theorem dL_due_13 : decode cL_due 13 = .ok (.astore 4, 2) := by decide +kernel
theorem dL_due_15 : decode cL_due 15 = .ok (.iconst 1, 1) := by decide +kernel
theorem dL_due_16 : decode cL_due 16 = .ok (.ireturn, 1) := by decide +kernel
theorem dL_due_17 : decode cL_due 17 = .ok (.astore 4, 2) := by decide +kernel
theorem dL_due_19 : decode cL_due 19 = .ok (.iconst 2, 1) := by decide +kernel
theorem dL_due_20 : decode cL_due 20 = .ok (.ireturn, 1) := by decide +kernel
theorem dL_due_21 : decode cL_due 21 = .ok (.iconst 0, 1) := by decide +kernel
theorem dL_due_22 : decode cL_due 22 = .ok (.ireturn, 1) := by decide +kernel
theorem dL_gets_0 : decode cL_gets 0 = .ok (.aload_n 3, 1) := by decide +kernel
theorem dL_gets_1 : decode cL_gets 1 = .ok (.iconst 0, 1) := by decide +kernel
theorem dL_gets_2 : decode cL_gets 2 = .ok (.aload_n 0, 1) := by decide +kernel
theorem dL_gets_3 : decode cL_gets 3 = .ok (.iload_n 1, 1) := by decide +kernel
theorem dL_gets_4 : decode cL_gets 4 = .ok (.iload_n 2, 1) := by decide +kernel
theorem dL_gets_5 : decode cL_gets 5 = .ok (.invokevirtual 62, 3) := by decide +kernel
theorem dL_gets_8 : decode cL_gets 8 = .ok (.i2l, 1) := by decide +kernel
theorem dL_gets_9 : decode cL_gets 9 = .ok (.lastore, 1) := by decide +kernel
theorem dL_gets_10 : decode cL_gets 10 = .ok (.goto 11, 3) := by decide +kernel
theorem dL_gets_13 : decode cL_gets 13 = .ok (.astore 4, 2) := by decide +kernel
theorem dL_gets_15 : decode cL_gets 15 = .ok (.iconst 1, 1) := by decide +kernel
theorem dL_gets_16 : decode cL_gets 16 = .ok (.ireturn, 1) := by decide +kernel
theorem dL_gets_17 : decode cL_gets 17 = .ok (.astore 4, 2) := by decide +kernel
theorem dL_gets_19 : decode cL_gets 19 = .ok (.iconst 2, 1) := by decide +kernel
theorem dL_gets_20 : decode cL_gets 20 = .ok (.ireturn, 1) := by decide +kernel
theorem dL_gets_21 : decode cL_gets 21 = .ok (.iconst 0, 1) := by decide +kernel
theorem dL_gets_22 : decode cL_gets 22 = .ok (.ireturn, 1) := by decide +kernel
theorem dL_classed_0 : decode cL_classed 0 = .ok (.aload_n 3, 1) := by decide +kernel
theorem dL_classed_1 : decode cL_classed 1 = .ok (.iconst 0, 1) := by decide +kernel
theorem dL_classed_2 : decode cL_classed 2 = .ok (.aload_n 0, 1) := by decide +kernel
theorem dL_classed_3 : decode cL_classed 3 = .ok (.iload_n 1, 1) := by decide +kernel
theorem dL_classed_4 : decode cL_classed 4 = .ok (.iload_n 2, 1) := by decide +kernel
theorem dL_classed_5 : decode cL_classed 5 = .ok (.invokevirtual 65, 3) := by decide +kernel
theorem dL_classed_8 : decode cL_classed 8 = .ok (.i2l, 1) := by decide +kernel
theorem dL_classed_9 : decode cL_classed 9 = .ok (.lastore, 1) := by decide +kernel
theorem dL_classed_10 : decode cL_classed 10 = .ok (.goto 11, 3) := by decide +kernel
theorem dL_classed_13 : decode cL_classed 13 = .ok (.astore 4, 2) := by decide +kernel
theorem dL_classed_15 : decode cL_classed 15 = .ok (.iconst 1, 1) := by decide +kernel
theorem dL_classed_16 : decode cL_classed 16 = .ok (.ireturn, 1) := by decide +kernel
theorem dL_classed_17 : decode cL_classed 17 = .ok (.astore 4, 2) := by decide +kernel
theorem dL_classed_19 : decode cL_classed 19 = .ok (.iconst 2, 1) := by decide +kernel
theorem dL_classed_20 : decode cL_classed 20 = .ok (.ireturn, 1) := by decide +kernel
theorem dL_classed_21 : decode cL_classed 21 = .ok (.iconst 0, 1) := by decide +kernel
theorem dL_classed_22 : decode cL_classed 22 = .ok (.ireturn, 1) := by decide +kernel
theorem dL_itself_0 : decode cL_itself 0 = .ok (.aload_n 2, 1) := by decide +kernel
theorem dL_itself_1 : decode cL_itself 1 = .ok (.iconst 0, 1) := by decide +kernel
theorem dL_itself_2 : decode cL_itself 2 = .ok (.aload_n 0, 1) := by decide +kernel
theorem dL_itself_3 : decode cL_itself 3 = .ok (.iload_n 1, 1) := by decide +kernel
theorem dL_itself_4 : decode cL_itself 4 = .ok (.invokevirtual 68, 3) := by decide +kernel
theorem dL_itself_7 : decode cL_itself 7 = .ok (.ifCond .eq 7, 3) := by decide +kernel
theorem dL_itself_10 : decode cL_itself 10 = .ok (.lconst 1, 1) := by decide +kernel
theorem dL_itself_11 : decode cL_itself 11 = .ok (.goto 4, 3) := by decide +kernel
theorem dL_itself_14 : decode cL_itself 14 = .ok (.lconst 0, 1) := by decide +kernel
theorem dL_itself_15 : decode cL_itself 15 = .ok (.lastore, 1) := by decide +kernel
theorem dL_itself_16 : decode cL_itself 16 = .ok (.goto 9, 3) := by decide +kernel
theorem dL_itself_19 : decode cL_itself 19 = .ok (.astore_n 3, 1) := by decide +kernel
theorem dL_itself_20 : decode cL_itself 20 = .ok (.iconst 1, 1) := by decide +kernel
theorem dL_itself_21 : decode cL_itself 21 = .ok (.ireturn, 1) := by decide +kernel
theorem dL_itself_22 : decode cL_itself 22 = .ok (.astore_n 3, 1) := by decide +kernel
theorem dL_itself_23 : decode cL_itself 23 = .ok (.iconst 2, 1) := by decide +kernel
theorem dL_itself_24 : decode cL_itself 24 = .ok (.ireturn, 1) := by decide +kernel
theorem dL_itself_25 : decode cL_itself 25 = .ok (.iconst 0, 1) := by decide +kernel
theorem dL_itself_26 : decode cL_itself 26 = .ok (.ireturn, 1) := by decide +kernel
theorem dL_leastDebt_0 : decode cL_leastDebt 0 = .ok (.aload_n 2, 1) := by decide +kernel
theorem dL_leastDebt_1 : decode cL_leastDebt 1 = .ok (.iconst 0, 1) := by decide +kernel
theorem dL_leastDebt_2 : decode cL_leastDebt 2 = .ok (.aload_n 0, 1) := by decide +kernel
theorem dL_leastDebt_3 : decode cL_leastDebt 3 = .ok (.iload_n 1, 1) := by decide +kernel
theorem dL_leastDebt_4 : decode cL_leastDebt 4 = .ok (.invokevirtual 72, 3) := by decide +kernel
theorem dL_leastDebt_7 : decode cL_leastDebt 7 = .ok (.i2l, 1) := by decide +kernel
theorem dL_leastDebt_8 : decode cL_leastDebt 8 = .ok (.lastore, 1) := by decide +kernel
theorem dL_leastDebt_9 : decode cL_leastDebt 9 = .ok (.goto 6, 3) := by decide +kernel
theorem dL_leastDebt_12 : decode cL_leastDebt 12 = .ok (.astore_n 3, 1) := by decide +kernel
theorem dL_leastDebt_13 : decode cL_leastDebt 13 = .ok (.iconst 1, 1) := by decide +kernel
theorem dL_leastDebt_14 : decode cL_leastDebt 14 = .ok (.ireturn, 1) := by decide +kernel
theorem dL_leastDebt_15 : decode cL_leastDebt 15 = .ok (.iconst 0, 1) := by decide +kernel
theorem dL_leastDebt_16 : decode cL_leastDebt 16 = .ok (.ireturn, 1) := by decide +kernel
theorem dL_needed_0 : decode cL_needed 0 = .ok (.aload_n 2, 1) := by decide +kernel
theorem dL_needed_1 : decode cL_needed 1 = .ok (.iconst 0, 1) := by decide +kernel
theorem dL_needed_2 : decode cL_needed 2 = .ok (.aload_n 0, 1) := by decide +kernel
theorem dL_needed_3 : decode cL_needed 3 = .ok (.iload_n 1, 1) := by decide +kernel
theorem dL_needed_4 : decode cL_needed 4 = .ok (.invokevirtual 75, 3) := by decide +kernel
theorem dL_needed_7 : decode cL_needed 7 = .ok (.i2l, 1) := by decide +kernel
theorem dL_needed_8 : decode cL_needed 8 = .ok (.lastore, 1) := by decide +kernel
theorem dL_needed_9 : decode cL_needed 9 = .ok (.goto 6, 3) := by decide +kernel
theorem dL_needed_12 : decode cL_needed 12 = .ok (.astore_n 3, 1) := by decide +kernel
theorem dL_needed_13 : decode cL_needed 13 = .ok (.iconst 1, 1) := by decide +kernel
theorem dL_needed_14 : decode cL_needed 14 = .ok (.ireturn, 1) := by decide +kernel
theorem dL_needed_15 : decode cL_needed 15 = .ok (.iconst 0, 1) := by decide +kernel
theorem dL_needed_16 : decode cL_needed 16 = .ok (.ireturn, 1) := by decide +kernel
theorem dL_part_0 : decode cL_part 0 = .ok (.aload_n 2, 1) := by decide +kernel
theorem dL_part_1 : decode cL_part 1 = .ok (.iconst 0, 1) := by decide +kernel
theorem dL_part_2 : decode cL_part 2 = .ok (.aload_n 0, 1) := by decide +kernel
theorem dL_part_3 : decode cL_part 3 = .ok (.iload_n 1, 1) := by decide +kernel
theorem dL_part_4 : decode cL_part 4 = .ok (.invokevirtual 78, 3) := by decide +kernel
theorem dL_part_7 : decode cL_part 7 = .ok (.i2l, 1) := by decide +kernel
theorem dL_part_8 : decode cL_part 8 = .ok (.lastore, 1) := by decide +kernel
theorem dL_part_9 : decode cL_part 9 = .ok (.goto 6, 3) := by decide +kernel
theorem dL_part_12 : decode cL_part 12 = .ok (.astore_n 3, 1) := by decide +kernel
theorem dL_part_13 : decode cL_part 13 = .ok (.iconst 1, 1) := by decide +kernel
theorem dL_part_14 : decode cL_part 14 = .ok (.ireturn, 1) := by decide +kernel
theorem dL_part_15 : decode cL_part 15 = .ok (.iconst 0, 1) := by decide +kernel
theorem dL_part_16 : decode cL_part 16 = .ok (.ireturn, 1) := by decide +kernel
theorem dL_left_0 : decode cL_left 0 = .ok (.aload_n 2, 1) := by decide +kernel
theorem dL_left_1 : decode cL_left 1 = .ok (.iconst 0, 1) := by decide +kernel
theorem dL_left_2 : decode cL_left 2 = .ok (.aload_n 0, 1) := by decide +kernel
theorem dL_left_3 : decode cL_left 3 = .ok (.iload_n 1, 1) := by decide +kernel
theorem dL_left_4 : decode cL_left 4 = .ok (.invokevirtual 81, 3) := by decide +kernel
theorem dL_left_7 : decode cL_left 7 = .ok (.i2l, 1) := by decide +kernel
theorem dL_left_8 : decode cL_left 8 = .ok (.lastore, 1) := by decide +kernel
theorem dL_left_9 : decode cL_left 9 = .ok (.goto 6, 3) := by decide +kernel
theorem dL_left_12 : decode cL_left 12 = .ok (.astore_n 3, 1) := by decide +kernel
theorem dL_left_13 : decode cL_left 13 = .ok (.iconst 1, 1) := by decide +kernel
theorem dL_left_14 : decode cL_left 14 = .ok (.ireturn, 1) := by decide +kernel
theorem dL_left_15 : decode cL_left 15 = .ok (.iconst 0, 1) := by decide +kernel
theorem dL_left_16 : decode cL_left 16 = .ok (.ireturn, 1) := by decide +kernel
theorem dL_takes_0 : decode cL_takes 0 = .ok (.aload_n 3, 1) := by decide +kernel
theorem dL_takes_1 : decode cL_takes 1 = .ok (.iconst 0, 1) := by decide +kernel
theorem dL_takes_2 : decode cL_takes 2 = .ok (.aload_n 0, 1) := by decide +kernel
theorem dL_takes_3 : decode cL_takes 3 = .ok (.iload_n 1, 1) := by decide +kernel
theorem dL_takes_4 : decode cL_takes 4 = .ok (.iload_n 2, 1) := by decide +kernel
theorem dL_takes_5 : decode cL_takes 5 = .ok (.invokevirtual 84, 3) := by decide +kernel
theorem dL_takes_8 : decode cL_takes 8 = .ok (.i2l, 1) := by decide +kernel
theorem dL_takes_9 : decode cL_takes 9 = .ok (.lastore, 1) := by decide +kernel
theorem dL_takes_10 : decode cL_takes 10 = .ok (.goto 7, 3) := by decide +kernel
theorem dL_takes_13 : decode cL_takes 13 = .ok (.astore 4, 2) := by decide +kernel
theorem dL_takes_15 : decode cL_takes 15 = .ok (.iconst 1, 1) := by decide +kernel
theorem dL_takes_16 : decode cL_takes 16 = .ok (.ireturn, 1) := by decide +kernel
theorem dL_takes_17 : decode cL_takes 17 = .ok (.iconst 0, 1) := by decide +kernel
theorem dL_takes_18 : decode cL_takes 18 = .ok (.ireturn, 1) := by decide +kernel
theorem dL_taken_0 : decode cL_taken 0 = .ok (.aload_n 3, 1) := by decide +kernel
theorem dL_taken_1 : decode cL_taken 1 = .ok (.iconst 0, 1) := by decide +kernel
theorem dL_taken_2 : decode cL_taken 2 = .ok (.aload_n 0, 1) := by decide +kernel
theorem dL_taken_3 : decode cL_taken 3 = .ok (.iload_n 1, 1) := by decide +kernel
theorem dL_taken_4 : decode cL_taken 4 = .ok (.iload_n 2, 1) := by decide +kernel
theorem dL_taken_5 : decode cL_taken 5 = .ok (.invokevirtual 87, 3) := by decide +kernel
theorem dL_taken_8 : decode cL_taken 8 = .ok (.i2l, 1) := by decide +kernel
theorem dL_taken_9 : decode cL_taken 9 = .ok (.lastore, 1) := by decide +kernel
theorem dL_taken_10 : decode cL_taken 10 = .ok (.goto 11, 3) := by decide +kernel
theorem dL_taken_13 : decode cL_taken 13 = .ok (.astore 4, 2) := by decide +kernel
theorem dL_taken_15 : decode cL_taken 15 = .ok (.iconst 1, 1) := by decide +kernel
theorem dL_taken_16 : decode cL_taken 16 = .ok (.ireturn, 1) := by decide +kernel
theorem dL_taken_17 : decode cL_taken 17 = .ok (.astore 4, 2) := by decide +kernel
theorem dL_taken_19 : decode cL_taken 19 = .ok (.iconst 2, 1) := by decide +kernel
theorem dL_taken_20 : decode cL_taken 20 = .ok (.ireturn, 1) := by decide +kernel
theorem dL_taken_21 : decode cL_taken 21 = .ok (.iconst 0, 1) := by decide +kernel
theorem dL_taken_22 : decode cL_taken 22 = .ok (.ireturn, 1) := by decide +kernel
theorem dL_stock_0 : decode cL_stock 0 = .ok (.aload_n 3, 1) := by decide +kernel
theorem dL_stock_1 : decode cL_stock 1 = .ok (.iconst 0, 1) := by decide +kernel
theorem dL_stock_2 : decode cL_stock 2 = .ok (.aload_n 0, 1) := by decide +kernel
theorem dL_stock_3 : decode cL_stock 3 = .ok (.iload_n 1, 1) := by decide +kernel
theorem dL_stock_4 : decode cL_stock 4 = .ok (.iload_n 2, 1) := by decide +kernel
theorem dL_stock_5 : decode cL_stock 5 = .ok (.invokevirtual 90, 3) := by decide +kernel
theorem dL_stock_8 : decode cL_stock 8 = .ok (.i2l, 1) := by decide +kernel
theorem dL_stock_9 : decode cL_stock 9 = .ok (.lastore, 1) := by decide +kernel
theorem dL_stock_10 : decode cL_stock 10 = .ok (.goto 7, 3) := by decide +kernel
theorem dL_stock_13 : decode cL_stock 13 = .ok (.astore 4, 2) := by decide +kernel
theorem dL_stock_15 : decode cL_stock 15 = .ok (.iconst 1, 1) := by decide +kernel
theorem dL_stock_16 : decode cL_stock 16 = .ok (.ireturn, 1) := by decide +kernel
theorem dL_stock_17 : decode cL_stock 17 = .ok (.iconst 0, 1) := by decide +kernel
theorem dL_stock_18 : decode cL_stock 18 = .ok (.ireturn, 1) := by decide +kernel
theorem dL_ifDead_0 : decode cL_ifDead 0 = .ok (.aload_n 3, 1) := by decide +kernel
theorem dL_ifDead_1 : decode cL_ifDead 1 = .ok (.iconst 0, 1) := by decide +kernel
theorem dL_ifDead_2 : decode cL_ifDead 2 = .ok (.aload_n 0, 1) := by decide +kernel
theorem dL_ifDead_3 : decode cL_ifDead 3 = .ok (.iload_n 1, 1) := by decide +kernel
theorem dL_ifDead_4 : decode cL_ifDead 4 = .ok (.iload_n 2, 1) := by decide +kernel
theorem dL_ifDead_5 : decode cL_ifDead 5 = .ok (.invokevirtual 93, 3) := by decide +kernel
theorem dL_ifDead_8 : decode cL_ifDead 8 = .ok (.i2l, 1) := by decide +kernel
theorem dL_ifDead_9 : decode cL_ifDead 9 = .ok (.lastore, 1) := by decide +kernel
theorem dL_ifDead_10 : decode cL_ifDead 10 = .ok (.goto 11, 3) := by decide +kernel
theorem dL_ifDead_13 : decode cL_ifDead 13 = .ok (.astore 4, 2) := by decide +kernel
theorem dL_ifDead_15 : decode cL_ifDead 15 = .ok (.iconst 1, 1) := by decide +kernel
theorem dL_ifDead_16 : decode cL_ifDead 16 = .ok (.ireturn, 1) := by decide +kernel
theorem dL_ifDead_17 : decode cL_ifDead 17 = .ok (.astore 4, 2) := by decide +kernel
theorem dL_ifDead_19 : decode cL_ifDead 19 = .ok (.iconst 2, 1) := by decide +kernel
theorem dL_ifDead_20 : decode cL_ifDead 20 = .ok (.ireturn, 1) := by decide +kernel
theorem dL_ifDead_21 : decode cL_ifDead 21 = .ok (.iconst 0, 1) := by decide +kernel
theorem dL_ifDead_22 : decode cL_ifDead 22 = .ok (.ireturn, 1) := by decide +kernel
theorem dL_ifSold_0 : decode cL_ifSold 0 = .ok (.aload 5, 2) := by decide +kernel
theorem dL_ifSold_2 : decode cL_ifSold 2 = .ok (.iconst 0, 1) := by decide +kernel
theorem dL_ifSold_3 : decode cL_ifSold 3 = .ok (.aload_n 0, 1) := by decide +kernel
theorem dL_ifSold_4 : decode cL_ifSold 4 = .ok (.iload_n 1, 1) := by decide +kernel
theorem dL_ifSold_5 : decode cL_ifSold 5 = .ok (.iload_n 2, 1) := by decide +kernel
theorem dL_ifSold_6 : decode cL_ifSold 6 = .ok (.iload_n 3, 1) := by decide +kernel
theorem dL_ifSold_7 : decode cL_ifSold 7 = .ok (.iload 4, 2) := by decide +kernel
theorem dL_ifSold_9 : decode cL_ifSold 9 = .ok (.invokevirtual 96, 3) := by decide +kernel
theorem dL_ifSold_12 : decode cL_ifSold 12 = .ok (.i2l, 1) := by decide +kernel
theorem dL_ifSold_13 : decode cL_ifSold 13 = .ok (.lastore, 1) := by decide +kernel
theorem dL_ifSold_14 : decode cL_ifSold 14 = .ok (.goto 15, 3) := by decide +kernel
theorem dL_ifSold_17 : decode cL_ifSold 17 = .ok (.astore 6, 2) := by decide +kernel
theorem dL_ifSold_19 : decode cL_ifSold 19 = .ok (.iconst 1, 1) := by decide +kernel
theorem dL_ifSold_20 : decode cL_ifSold 20 = .ok (.ireturn, 1) := by decide +kernel
theorem dL_ifSold_21 : decode cL_ifSold 21 = .ok (.astore 6, 2) := by decide +kernel
theorem dL_ifSold_23 : decode cL_ifSold 23 = .ok (.iconst 2, 1) := by decide +kernel
theorem dL_ifSold_24 : decode cL_ifSold 24 = .ok (.ireturn, 1) := by decide +kernel
theorem dL_ifSold_25 : decode cL_ifSold 25 = .ok (.astore 6, 2) := by decide +kernel
theorem dL_ifSold_27 : decode cL_ifSold 27 = .ok (.iconst 3, 1) := by decide +kernel
theorem dL_ifSold_28 : decode cL_ifSold 28 = .ok (.ireturn, 1) := by decide +kernel
theorem dL_ifSold_29 : decode cL_ifSold 29 = .ok (.iconst 0, 1) := by decide +kernel
theorem dL_ifSold_30 : decode cL_ifSold 30 = .ok (.ireturn, 1) := by decide +kernel
theorem dL_ifDebt_0 : decode cL_ifDebt 0 = .ok (.aload_n 3, 1) := by decide +kernel
theorem dL_ifDebt_1 : decode cL_ifDebt 1 = .ok (.iconst 0, 1) := by decide +kernel
theorem dL_ifDebt_2 : decode cL_ifDebt 2 = .ok (.aload_n 0, 1) := by decide +kernel
theorem dL_ifDebt_3 : decode cL_ifDebt 3 = .ok (.iload_n 1, 1) := by decide +kernel
theorem dL_ifDebt_4 : decode cL_ifDebt 4 = .ok (.iload_n 2, 1) := by decide +kernel
theorem dL_ifDebt_5 : decode cL_ifDebt 5 = .ok (.invokevirtual 100, 3) := by decide +kernel
theorem dL_ifDebt_8 : decode cL_ifDebt 8 = .ok (.i2l, 1) := by decide +kernel
theorem dL_ifDebt_9 : decode cL_ifDebt 9 = .ok (.lastore, 1) := by decide +kernel
theorem dL_ifDebt_10 : decode cL_ifDebt 10 = .ok (.goto 11, 3) := by decide +kernel
theorem dL_ifDebt_13 : decode cL_ifDebt 13 = .ok (.astore 4, 2) := by decide +kernel
theorem dL_ifDebt_15 : decode cL_ifDebt 15 = .ok (.iconst 1, 1) := by decide +kernel
theorem dL_ifDebt_16 : decode cL_ifDebt 16 = .ok (.ireturn, 1) := by decide +kernel
theorem dL_ifDebt_17 : decode cL_ifDebt 17 = .ok (.astore 4, 2) := by decide +kernel
theorem dL_ifDebt_19 : decode cL_ifDebt 19 = .ok (.iconst 2, 1) := by decide +kernel
theorem dL_ifDebt_20 : decode cL_ifDebt 20 = .ok (.ireturn, 1) := by decide +kernel
theorem dL_ifDebt_21 : decode cL_ifDebt 21 = .ok (.iconst 0, 1) := by decide +kernel
theorem dL_ifDebt_22 : decode cL_ifDebt 22 = .ok (.ireturn, 1) := by decide +kernel
theorem dL_ifRenounced_0 : decode cL_ifRenounced 0 = .ok (.aload_n 3, 1) := by decide +kernel
theorem dL_ifRenounced_1 : decode cL_ifRenounced 1 = .ok (.iconst 0, 1) := by decide +kernel
theorem dL_ifRenounced_2 : decode cL_ifRenounced 2 = .ok (.aload_n 0, 1) := by decide +kernel
theorem dL_ifRenounced_3 : decode cL_ifRenounced 3 = .ok (.iload_n 1, 1) := by decide +kernel
theorem dL_ifRenounced_4 : decode cL_ifRenounced 4 = .ok (.iload_n 2, 1) := by decide +kernel
theorem dL_ifRenounced_5 : decode cL_ifRenounced 5 = .ok (.invokevirtual 103, 3) := by decide +kernel
theorem dL_ifRenounced_8 : decode cL_ifRenounced 8 = .ok (.i2l, 1) := by decide +kernel
theorem dL_ifRenounced_9 : decode cL_ifRenounced 9 = .ok (.lastore, 1) := by decide +kernel
theorem dL_ifRenounced_10 : decode cL_ifRenounced 10 = .ok (.goto 7, 3) := by decide +kernel
theorem dL_ifRenounced_13 : decode cL_ifRenounced 13 = .ok (.astore 4, 2) := by decide +kernel
theorem dL_ifRenounced_15 : decode cL_ifRenounced 15 = .ok (.iconst 1, 1) := by decide +kernel
theorem dL_ifRenounced_16 : decode cL_ifRenounced 16 = .ok (.ireturn, 1) := by decide +kernel
theorem dL_ifRenounced_17 : decode cL_ifRenounced 17 = .ok (.iconst 0, 1) := by decide +kernel
theorem dL_ifRenounced_18 : decode cL_ifRenounced 18 = .ok (.ireturn, 1) := by decide +kernel
theorem dL_ifHeld_0 : decode cL_ifHeld 0 = .ok (.aload_n 2, 1) := by decide +kernel
theorem dL_ifHeld_1 : decode cL_ifHeld 1 = .ok (.iconst 0, 1) := by decide +kernel
theorem dL_ifHeld_2 : decode cL_ifHeld 2 = .ok (.aload_n 0, 1) := by decide +kernel
theorem dL_ifHeld_3 : decode cL_ifHeld 3 = .ok (.iload_n 1, 1) := by decide +kernel
theorem dL_ifHeld_4 : decode cL_ifHeld 4 = .ok (.invokevirtual 106, 3) := by decide +kernel
theorem dL_ifHeld_7 : decode cL_ifHeld 7 = .ok (.i2l, 1) := by decide +kernel
theorem dL_ifHeld_8 : decode cL_ifHeld 8 = .ok (.lastore, 1) := by decide +kernel
theorem dL_ifHeld_9 : decode cL_ifHeld 9 = .ok (.goto 9, 3) := by decide +kernel
theorem dL_ifHeld_12 : decode cL_ifHeld 12 = .ok (.astore_n 3, 1) := by decide +kernel
theorem dL_ifHeld_13 : decode cL_ifHeld 13 = .ok (.iconst 1, 1) := by decide +kernel
theorem dL_ifHeld_14 : decode cL_ifHeld 14 = .ok (.ireturn, 1) := by decide +kernel
theorem dL_ifHeld_15 : decode cL_ifHeld 15 = .ok (.astore_n 3, 1) := by decide +kernel
theorem dL_ifHeld_16 : decode cL_ifHeld 16 = .ok (.iconst 2, 1) := by decide +kernel
theorem dL_ifHeld_17 : decode cL_ifHeld 17 = .ok (.ireturn, 1) := by decide +kernel
theorem dL_ifHeld_18 : decode cL_ifHeld 18 = .ok (.iconst 0, 1) := by decide +kernel
theorem dL_ifHeld_19 : decode cL_ifHeld 19 = .ok (.ireturn, 1) := by decide +kernel
theorem dL_envied_0 : decode cL_envied 0 = .ok (.aload_n 2, 1) := by decide +kernel
theorem dL_envied_1 : decode cL_envied 1 = .ok (.iconst 0, 1) := by decide +kernel
theorem dL_envied_2 : decode cL_envied 2 = .ok (.aload_n 0, 1) := by decide +kernel
theorem dL_envied_3 : decode cL_envied 3 = .ok (.iload_n 1, 1) := by decide +kernel
theorem dL_envied_4 : decode cL_envied 4 = .ok (.invokevirtual 109, 3) := by decide +kernel
theorem dL_envied_7 : decode cL_envied 7 = .ok (.i2l, 1) := by decide +kernel
theorem dL_envied_8 : decode cL_envied 8 = .ok (.lastore, 1) := by decide +kernel
theorem dL_envied_9 : decode cL_envied 9 = .ok (.goto 6, 3) := by decide +kernel
theorem dL_envied_12 : decode cL_envied 12 = .ok (.astore_n 3, 1) := by decide +kernel
theorem dL_envied_13 : decode cL_envied 13 = .ok (.iconst 1, 1) := by decide +kernel
theorem dL_envied_14 : decode cL_envied 14 = .ok (.ireturn, 1) := by decide +kernel
theorem dL_envied_15 : decode cL_envied 15 = .ok (.iconst 0, 1) := by decide +kernel
theorem dL_envied_16 : decode cL_envied 16 = .ok (.ireturn, 1) := by decide +kernel
theorem dL_write_0 : decode cL_write 0 = .ok (.aload_n 2, 1) := by decide +kernel
theorem dL_write_1 : decode cL_write 1 = .ok (.iconst 0, 1) := by decide +kernel
theorem dL_write_2 : decode cL_write 2 = .ok (.aload_n 0, 1) := by decide +kernel
theorem dL_write_3 : decode cL_write 3 = .ok (.iload_n 1, 1) := by decide +kernel
theorem dL_write_4 : decode cL_write 4 = .ok (.invokevirtual 112, 3) := by decide +kernel
theorem dL_write_7 : decode cL_write 7 = .ok (.i2l, 1) := by decide +kernel
theorem dL_write_8 : decode cL_write 8 = .ok (.lastore, 1) := by decide +kernel
theorem dL_write_9 : decode cL_write 9 = .ok (.goto 6, 3) := by decide +kernel
theorem dL_write_12 : decode cL_write 12 = .ok (.astore_n 3, 1) := by decide +kernel
theorem dL_write_13 : decode cL_write 13 = .ok (.iconst 1, 1) := by decide +kernel
theorem dL_write_14 : decode cL_write 14 = .ok (.ireturn, 1) := by decide +kernel
theorem dL_write_15 : decode cL_write 15 = .ok (.iconst 0, 1) := by decide +kernel
theorem dL_write_16 : decode cL_write 16 = .ok (.ireturn, 1) := by decide +kernel

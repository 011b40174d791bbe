theorem dX2_init_0 : decode cX2_init 0 = .ok (.aload_n 0, 1) := by decide +kernel
theorem dX2_init_1 : decode cX2_init 1 = .ok (.invokespecial 5, 3) := by decide +kernel
theorem dX2_init_4 : decode cX2_init 4 = .ok (.aload_n 0, 1) := by decide +kernel
theorem dX2_init_5 : decode cX2_init 5 = .ok (.bipush 61, 2) := by decide +kernel
theorem dX2_init_7 : decode cX2_init 7 = .ok (.newarray .int, 2) := by decide +kernel
theorem dX2_init_9 : decode cX2_init 9 = .ok (.putfield 11, 3) := by decide +kernel
theorem dX2_init_12 : decode cX2_init 12 = .ok (.aload_n 0, 1) := by decide +kernel
theorem dX2_init_13 : decode cX2_init 13 = .ok (.getfield 11, 3) := by decide +kernel
theorem dX2_init_16 : decode cX2_init 16 = .ok (.bipush 59, 2) := by decide +kernel
theorem dX2_init_18 : decode cX2_init 18 = .ok (.iconst 5, 1) := by decide +kernel
theorem dX2_init_19 : decode cX2_init 19 = .ok (.iastore, 1) := by decide +kernel
theorem dX2_init_20 : decode cX2_init 20 = .ok (.return_, 1) := by decide +kernel
theorem dX2_clear_0 : decode cX2_clear 0 = .ok (.aload_n 0, 1) := by decide +kernel
theorem dX2_clear_1 : decode cX2_clear 1 = .ok (.getfield 11, 3) := by decide +kernel
theorem dX2_clear_4 : decode cX2_clear 4 = .ok (.iconst 0, 1) := by decide +kernel
theorem dX2_clear_5 : decode cX2_clear 5 = .ok (.invokestatic 15, 3) := by decide +kernel
theorem dX2_clear_8 : decode cX2_clear 8 = .ok (.aload_n 0, 1) := by decide +kernel
theorem dX2_clear_9 : decode cX2_clear 9 = .ok (.getfield 11, 3) := by decide +kernel
theorem dX2_clear_12 : decode cX2_clear 12 = .ok (.bipush 59, 2) := by decide +kernel
theorem dX2_clear_14 : decode cX2_clear 14 = .ok (.iconst 5, 1) := by decide +kernel
theorem dX2_clear_15 : decode cX2_clear 15 = .ok (.iastore, 1) := by decide +kernel
theorem dX2_clear_16 : decode cX2_clear 16 = .ok (.return_, 1) := by decide +kernel
theorem dX2_copyFrom_0 : decode cX2_copyFrom 0 = .ok (.aload_n 1, 1) := by decide +kernel
theorem dX2_copyFrom_1 : decode cX2_copyFrom 1 = .ok (.getfield 11, 3) := by decide +kernel
theorem dX2_copyFrom_4 : decode cX2_copyFrom 4 = .ok (.iconst 0, 1) := by decide +kernel
theorem dX2_copyFrom_5 : decode cX2_copyFrom 5 = .ok (.aload_n 0, 1) := by decide +kernel
theorem dX2_copyFrom_6 : decode cX2_copyFrom 6 = .ok (.getfield 11, 3) := by decide +kernel
theorem dX2_copyFrom_9 : decode cX2_copyFrom 9 = .ok (.iconst 0, 1) := by decide +kernel
theorem dX2_copyFrom_10 : decode cX2_copyFrom 10 = .ok (.bipush 61, 2) := by decide +kernel
theorem dX2_copyFrom_12 : decode cX2_copyFrom 12 = .ok (.invokestatic 21, 3) := by decide +kernel
theorem dX2_copyFrom_15 : decode cX2_copyFrom 15 = .ok (.return_, 1) := by decide +kernel
theorem dX2_worth_0 : decode cX2_worth 0 = .ok (.aload_n 0, 1) := by decide +kernel
theorem dX2_worth_1 : decode cX2_worth 1 = .ok (.getfield 11, 3) := by decide +kernel
theorem dX2_worth_4 : decode cX2_worth 4 = .ok (.iconst 0, 1) := by decide +kernel
theorem dX2_worth_5 : decode cX2_worth 5 = .ok (.iload_n 1, 1) := by decide +kernel
theorem dX2_worth_6 : decode cX2_worth 6 = .ok (.iadd, 1) := by decide +kernel
theorem dX2_worth_7 : decode cX2_worth 7 = .ok (.iaload, 1) := by decide +kernel
theorem dX2_worth_8 : decode cX2_worth 8 = .ok (.ireturn, 1) := by decide +kernel
theorem dX2_isHeld_0 : decode cX2_isHeld 0 = .ok (.aload_n 0, 1) := by decide +kernel
theorem dX2_isHeld_1 : decode cX2_isHeld 1 = .ok (.getfield 11, 3) := by decide +kernel
theorem dX2_isHeld_4 : decode cX2_isHeld 4 = .ok (.bipush 8, 2) := by decide +kernel
theorem dX2_isHeld_6 : decode cX2_isHeld 6 = .ok (.iload_n 1, 1) := by decide +kernel
theorem dX2_isHeld_7 : decode cX2_isHeld 7 = .ok (.iadd, 1) := by decide +kernel
theorem dX2_isHeld_8 : decode cX2_isHeld 8 = .ok (.iaload, 1) := by decide +kernel
theorem dX2_isHeld_9 : decode cX2_isHeld 9 = .ok (.ifCond .ne 7, 3) := by decide +kernel
theorem dX2_isHeld_12 : decode cX2_isHeld 12 = .ok (.iconst 1, 1) := by decide +kernel
theorem dX2_isHeld_13 : decode cX2_isHeld 13 = .ok (.goto 4, 3) := by decide +kernel
theorem dX2_isHeld_16 : decode cX2_isHeld 16 = .ok (.iconst 0, 1) := by decide +kernel
theorem dX2_isHeld_17 : decode cX2_isHeld 17 = .ok (.ireturn, 1) := by decide +kernel
theorem dX2_brings_0 : decode cX2_brings 0 = .ok (.aload_n 0, 1) := by decide +kernel
theorem dX2_brings_1 : decode cX2_brings 1 = .ok (.iload_n 1, 1) := by decide +kernel
theorem dX2_brings_2 : decode cX2_brings 2 = .ok (.invokevirtual 27, 3) := by decide +kernel
theorem dX2_brings_5 : decode cX2_brings 5 = .ok (.ifCond .eq 11, 3) := by decide +kernel
theorem dX2_brings_8 : decode cX2_brings 8 = .ok (.aload_n 0, 1) := by decide +kernel
theorem dX2_brings_9 : decode cX2_brings 9 = .ok (.iload_n 1, 1) := by decide +kernel
theorem dX2_brings_10 : decode cX2_brings 10 = .ok (.invokevirtual 31, 3) := by decide +kernel
theorem dX2_brings_13 : decode cX2_brings 13 = .ok (.goto 12, 3) := by decide +kernel
theorem dX2_brings_16 : decode cX2_brings 16 = .ok (.aload_n 0, 1) := by decide +kernel
theorem dX2_brings_17 : decode cX2_brings 17 = .ok (.getfield 11, 3) := by decide +kernel
theorem dX2_brings_20 : decode cX2_brings 20 = .ok (.bipush 24, 2) := by decide +kernel
theorem dX2_brings_22 : decode cX2_brings 22 = .ok (.iload_n 1, 1) := by decide +kernel
theorem dX2_brings_23 : decode cX2_brings 23 = .ok (.iadd, 1) := by decide +kernel
theorem dX2_brings_24 : decode cX2_brings 24 = .ok (.iaload, 1) := by decide +kernel
theorem dX2_brings_25 : decode cX2_brings 25 = .ok (.ireturn, 1) := by decide +kernel
theorem dX2_isDead_0 : decode cX2_isDead 0 = .ok (.aload_n 0, 1) := by decide +kernel
theorem dX2_isDead_1 : decode cX2_isDead 1 = .ok (.getfield 11, 3) := by decide +kernel
theorem dX2_isDead_4 : decode cX2_isDead 4 = .ok (.bipush 32, 2) := by decide +kernel
theorem dX2_isDead_6 : decode cX2_isDead 6 = .ok (.iload_n 1, 1) := by decide +kernel
theorem dX2_isDead_7 : decode cX2_isDead 7 = .ok (.iadd, 1) := by decide +kernel
theorem dX2_isDead_8 : decode cX2_isDead 8 = .ok (.iaload, 1) := by decide +kernel
theorem dX2_isDead_9 : decode cX2_isDead 9 = .ok (.ifCond .eq 7, 3) := by decide +kernel
theorem dX2_isDead_12 : decode cX2_isDead 12 = .ok (.iconst 1, 1) := by decide +kernel
theorem dX2_isDead_13 : decode cX2_isDead 13 = .ok (.goto 4, 3) := by decide +kernel
theorem dX2_isDead_16 : decode cX2_isDead 16 = .ok (.iconst 0, 1) := by decide +kernel
theorem dX2_isDead_17 : decode cX2_isDead 17 = .ok (.ireturn, 1) := by decide +kernel
theorem dX2_isRenounced_0 : decode cX2_isRenounced 0 = .ok (.aload_n 0, 1) := by decide +kernel
theorem dX2_isRenounced_1 : decode cX2_isRenounced 1 = .ok (.getfield 11, 3) := by decide +kernel
theorem dX2_isRenounced_4 : decode cX2_isRenounced 4 = .ok (.bipush 44, 2) := by decide +kernel
theorem dX2_isRenounced_6 : decode cX2_isRenounced 6 = .ok (.iload_n 1, 1) := by decide +kernel
theorem dX2_isRenounced_7 : decode cX2_isRenounced 7 = .ok (.iadd, 1) := by decide +kernel
theorem dX2_isRenounced_8 : decode cX2_isRenounced 8 = .ok (.iaload, 1) := by decide +kernel
theorem dX2_isRenounced_9 : decode cX2_isRenounced 9 = .ok (.ifCond .eq 7, 3) := by decide +kernel
theorem dX2_isRenounced_12 : decode cX2_isRenounced 12 = .ok (.iconst 1, 1) := by decide +kernel
theorem dX2_isRenounced_13 : decode cX2_isRenounced 13 = .ok (.goto 4, 3) := by decide +kernel
theorem dX2_isRenounced_16 : decode cX2_isRenounced 16 = .ok (.iconst 0, 1) := by decide +kernel
theorem dX2_isRenounced_17 : decode cX2_isRenounced 17 = .ok (.ireturn, 1) := by decide +kernel
theorem dX2_told_0 : decode cX2_told 0 = .ok (.aload_n 0, 1) := by decide +kernel
theorem dX2_told_1 : decode cX2_told 1 = .ok (.getfield 11, 3) := by decide +kernel
theorem dX2_told_4 : decode cX2_told 4 = .ok (.bipush 56, 2) := by decide +kernel
theorem dX2_told_6 : decode cX2_told 6 = .ok (.iload_n 1, 1) := by decide +kernel
theorem dX2_told_7 : decode cX2_told 7 = .ok (.iadd, 1) := by decide +kernel
theorem dX2_told_8 : decode cX2_told 8 = .ok (.iaload, 1) := by decide +kernel
theorem dX2_told_9 : decode cX2_told 9 = .ok (.ireturn, 1) := by decide +kernel
theorem dX2_putWorth_0 : decode cX2_putWorth 0 = .ok (.aload_n 0, 1) := by decide +kernel
theorem dX2_putWorth_1 : decode cX2_putWorth 1 = .ok (.getfield 11, 3) := by decide +kernel
theorem dX2_putWorth_4 : decode cX2_putWorth 4 = .ok (.iconst 0, 1) := by decide +kernel
theorem dX2_putWorth_5 : decode cX2_putWorth 5 = .ok (.iload_n 1, 1) := by decide +kernel
theorem dX2_putWorth_6 : decode cX2_putWorth 6 = .ok (.iadd, 1) := by decide +kernel
theorem dX2_putWorth_7 : decode cX2_putWorth 7 = .ok (.iload_n 2, 1) := by decide +kernel
theorem dX2_putWorth_8 : decode cX2_putWorth 8 = .ok (.iastore, 1) := by decide +kernel
theorem dX2_putWorth_9 : decode cX2_putWorth 9 = .ok (.return_, 1) := by decide +kernel
theorem dX2_putSold_0 : decode cX2_putSold 0 = .ok (.aload_n 0, 1) := by decide +kernel
theorem dX2_putSold_1 : decode cX2_putSold 1 = .ok (.getfield 11, 3) := by decide +kernel
theorem dX2_putSold_4 : decode cX2_putSold 4 = .ok (.bipush 8, 2) := by decide +kernel
theorem dX2_putSold_6 : decode cX2_putSold 6 = .ok (.iload_n 1, 1) := by decide +kernel
theorem dX2_putSold_7 : decode cX2_putSold 7 = .ok (.iadd, 1) := by decide +kernel
theorem dX2_putSold_8 : decode cX2_putSold 8 = .ok (.iconst 1, 1) := by decide +kernel
theorem dX2_putSold_9 : decode cX2_putSold 9 = .ok (.iastore, 1) := by decide +kernel
theorem dX2_putSold_10 : decode cX2_putSold 10 = .ok (.aload_n 0, 1) := by decide +kernel
theorem dX2_putSold_11 : decode cX2_putSold 11 = .ok (.getfield 11, 3) := by decide +kernel
theorem dX2_putSold_14 : decode cX2_putSold 14 = .ok (.bipush 16, 2) := by decide +kernel
theorem dX2_putSold_16 : decode cX2_putSold 16 = .ok (.iload_n 1, 1) := by decide +kernel
theorem dX2_putSold_17 : decode cX2_putSold 17 = .ok (.iadd, 1) := by decide +kernel
theorem dX2_putSold_18 : decode cX2_putSold 18 = .ok (.iload_n 2, 1) := by decide +kernel
theorem dX2_putSold_19 : decode cX2_putSold 19 = .ok (.iastore, 1) := by decide +kernel
theorem dX2_putSold_20 : decode cX2_putSold 20 = .ok (.aload_n 0, 1) := by decide +kernel
theorem dX2_putSold_21 : decode cX2_putSold 21 = .ok (.getfield 11, 3) := by decide +kernel
theorem dX2_putSold_24 : decode cX2_putSold 24 = .ok (.bipush 24, 2) := by decide +kernel
theorem dX2_putSold_26 : decode cX2_putSold 26 = .ok (.iload_n 1, 1) := by decide +kernel
theorem dX2_putSold_27 : decode cX2_putSold 27 = .ok (.iadd, 1) := by decide +kernel
theorem dX2_putSold_28 : decode cX2_putSold 28 = .ok (.iload_n 3, 1) := by decide +kernel
theorem dX2_putSold_29 : decode cX2_putSold 29 = .ok (.iastore, 1) := by decide +kernel
theorem dX2_putSold_30 : decode cX2_putSold 30 = .ok (.aload_n 0, 1) := by decide +kernel
theorem dX2_putSold_31 : decode cX2_putSold 31 = .ok (.getfield 11, 3) := by decide +kernel
theorem dX2_putSold_34 : decode cX2_putSold 34 = .ok (.bipush 56, 2) := by decide +kernel
theorem dX2_putSold_36 : decode cX2_putSold 36 = .ok (.dup2, 1) := by decide +kernel
theorem dX2_putSold_37 : decode cX2_putSold 37 = .ok (.iaload, 1) := by decide +kernel
theorem dX2_putSold_38 : decode cX2_putSold 38 = .ok (.iload_n 2, 1) := by decide +kernel
theorem dX2_putSold_39 : decode cX2_putSold 39 = .ok (.iload_n 3, 1) := by decide +kernel
theorem dX2_putSold_40 : decode cX2_putSold 40 = .ok (.isub, 1) := by decide +kernel
theorem dX2_putSold_41 : decode cX2_putSold 41 = .ok (.iadd, 1) := by decide +kernel
theorem dX2_putSold_42 : decode cX2_putSold 42 = .ok (.iastore, 1) := by decide +kernel
theorem dX2_putSold_43 : decode cX2_putSold 43 = .ok (.return_, 1) := by decide +kernel
theorem dX2_putLost_0 : decode cX2_putLost 0 = .ok (.aload_n 0, 1) := by decide +kernel
theorem dX2_putLost_1 : decode cX2_putLost 1 = .ok (.getfield 11, 3) := by decide +kernel
theorem dX2_putLost_4 : decode cX2_putLost 4 = .ok (.bipush 8, 2) := by decide +kernel
theorem dX2_putLost_6 : decode cX2_putLost 6 = .ok (.iload_n 1, 1) := by decide +kernel
theorem dX2_putLost_7 : decode cX2_putLost 7 = .ok (.iadd, 1) := by decide +kernel
theorem dX2_putLost_8 : decode cX2_putLost 8 = .ok (.iconst 2, 1) := by decide +kernel
theorem dX2_putLost_9 : decode cX2_putLost 9 = .ok (.iastore, 1) := by decide +kernel
theorem dX2_putLost_10 : decode cX2_putLost 10 = .ok (.aload_n 0, 1) := by decide +kernel
theorem dX2_putLost_11 : decode cX2_putLost 11 = .ok (.getfield 11, 3) := by decide +kernel
theorem dX2_putLost_14 : decode cX2_putLost 14 = .ok (.bipush 24, 2) := by decide +kernel
theorem dX2_putLost_16 : decode cX2_putLost 16 = .ok (.iload_n 1, 1) := by decide +kernel
theorem dX2_putLost_17 : decode cX2_putLost 17 = .ok (.iadd, 1) := by decide +kernel
theorem dX2_putLost_18 : decode cX2_putLost 18 = .ok (.iload_n 2, 1) := by decide +kernel
theorem dX2_putLost_19 : decode cX2_putLost 19 = .ok (.iastore, 1) := by decide +kernel
theorem dX2_putLost_20 : decode cX2_putLost 20 = .ok (.return_, 1) := by decide +kernel
theorem dX2_putDead_0 : decode cX2_putDead 0 = .ok (.aload_n 0, 1) := by decide +kernel
theorem dX2_putDead_1 : decode cX2_putDead 1 = .ok (.getfield 11, 3) := by decide +kernel
theorem dX2_putDead_4 : decode cX2_putDead 4 = .ok (.bipush 32, 2) := by decide +kernel
theorem dX2_putDead_6 : decode cX2_putDead 6 = .ok (.iload_n 1, 1) := by decide +kernel
theorem dX2_putDead_7 : decode cX2_putDead 7 = .ok (.iadd, 1) := by decide +kernel
theorem dX2_putDead_8 : decode cX2_putDead 8 = .ok (.iconst 1, 1) := by decide +kernel
theorem dX2_putDead_9 : decode cX2_putDead 9 = .ok (.iastore, 1) := by decide +kernel
theorem dX2_putDead_10 : decode cX2_putDead 10 = .ok (.return_, 1) := by decide +kernel
theorem dX2_putTold_0 : decode cX2_putTold 0 = .ok (.aload_n 0, 1) := by decide +kernel
theorem dX2_putTold_1 : decode cX2_putTold 1 = .ok (.getfield 11, 3) := by decide +kernel
theorem dX2_putTold_4 : decode cX2_putTold 4 = .ok (.bipush 56, 2) := by decide +kernel
theorem dX2_putTold_6 : decode cX2_putTold 6 = .ok (.iload_n 1, 1) := by decide +kernel
theorem dX2_putTold_7 : decode cX2_putTold 7 = .ok (.iadd, 1) := by decide +kernel
theorem dX2_putTold_8 : decode cX2_putTold 8 = .ok (.iload_n 2, 1) := by decide +kernel
theorem dX2_putTold_9 : decode cX2_putTold 9 = .ok (.iastore, 1) := by decide +kernel
theorem dX2_putTold_10 : decode cX2_putTold 10 = .ok (.return_, 1) := by decide +kernel

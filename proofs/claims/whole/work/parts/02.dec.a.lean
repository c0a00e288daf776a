theorem dX0_init_0 : decode cX0_init 0 = .ok (.aload_n 0, 1) := by decide +kernel
theorem dX0_init_1 : decode cX0_init 1 = .ok (.invokespecial 1, 3) := by decide +kernel
theorem dX0_init_4 : decode cX0_init 4 = .ok (.return_, 1) := by decide +kernel
theorem dX0_copyFrom_0 : decode cX0_copyFrom 0 = .ok (.aload_n 0, 1) := by decide +kernel
theorem dX0_copyFrom_1 : decode cX0_copyFrom 1 = .ok (.aload_n 1, 1) := by decide +kernel
theorem dX0_copyFrom_2 : decode cX0_copyFrom 2 = .ok (.getfield 7, 3) := by decide +kernel
theorem dX0_copyFrom_5 : decode cX0_copyFrom 5 = .ok (.putfield 7, 3) := by decide +kernel
theorem dX0_copyFrom_8 : decode cX0_copyFrom 8 = .ok (.aload_n 0, 1) := by decide +kernel
theorem dX0_copyFrom_9 : decode cX0_copyFrom 9 = .ok (.aload_n 1, 1) := by decide +kernel
theorem dX0_copyFrom_10 : decode cX0_copyFrom 10 = .ok (.getfield 13, 3) := by decide +kernel
theorem dX0_copyFrom_13 : decode cX0_copyFrom 13 = .ok (.putfield 13, 3) := by decide +kernel
theorem dX0_copyFrom_16 : decode cX0_copyFrom 16 = .ok (.aload_n 0, 1) := by decide +kernel
theorem dX0_copyFrom_17 : decode cX0_copyFrom 17 = .ok (.aload_n 1, 1) := by decide +kernel
theorem dX0_copyFrom_18 : decode cX0_copyFrom 18 = .ok (.getfield 16, 3) := by decide +kernel
theorem dX0_copyFrom_21 : decode cX0_copyFrom 21 = .ok (.putfield 16, 3) := by decide +kernel
theorem dX0_copyFrom_24 : decode cX0_copyFrom 24 = .ok (.aload_n 0, 1) := by decide +kernel
theorem dX0_copyFrom_25 : decode cX0_copyFrom 25 = .ok (.aload_n 1, 1) := by decide +kernel
theorem dX0_copyFrom_26 : decode cX0_copyFrom 26 = .ok (.getfield 19, 3) := by decide +kernel
theorem dX0_copyFrom_29 : decode cX0_copyFrom 29 = .ok (.putfield 19, 3) := by decide +kernel
theorem dX0_copyFrom_32 : decode cX0_copyFrom 32 = .ok (.aload_n 0, 1) := by decide +kernel
theorem dX0_copyFrom_33 : decode cX0_copyFrom 33 = .ok (.aload_n 1, 1) := by decide +kernel
theorem dX0_copyFrom_34 : decode cX0_copyFrom 34 = .ok (.getfield 22, 3) := by decide +kernel
theorem dX0_copyFrom_37 : decode cX0_copyFrom 37 = .ok (.putfield 22, 3) := by decide +kernel
theorem dX0_copyFrom_40 : decode cX0_copyFrom 40 = .ok (.return_, 1) := by decide +kernel
theorem dX0_pennies_0 : decode cX0_pennies 0 = .ok (.aload_n 0, 1) := by decide +kernel
theorem dX0_pennies_1 : decode cX0_pennies 1 = .ok (.getfield 16, 3) := by decide +kernel
theorem dX0_pennies_4 : decode cX0_pennies 4 = .ok (.aload_n 0, 1) := by decide +kernel
theorem dX0_pennies_5 : decode cX0_pennies 5 = .ok (.getfield 13, 3) := by decide +kernel
theorem dX0_pennies_8 : decode cX0_pennies 8 = .ok (.isub, 1) := by decide +kernel
theorem dX0_pennies_9 : decode cX0_pennies 9 = .ok (.iconst 1, 1) := by decide +kernel
theorem dX0_pennies_10 : decode cX0_pennies 10 = .ok (.iadd, 1) := by decide +kernel
theorem dX0_pennies_11 : decode cX0_pennies 11 = .ok (.ireturn, 1) := by decide +kernel
theorem dX0_fetchedUpTo_0 : decode cX0_fetchedUpTo 0 = .ok (.aload_n 0, 1) := by decide +kernel
theorem dX0_fetchedUpTo_1 : decode cX0_fetchedUpTo 1 = .ok (.getfield 13, 3) := by decide +kernel
theorem dX0_fetchedUpTo_4 : decode cX0_fetchedUpTo 4 = .ok (.iconst 1, 1) := by decide +kernel
theorem dX0_fetchedUpTo_5 : decode cX0_fetchedUpTo 5 = .ok (.isub, 1) := by decide +kernel
theorem dX0_fetchedUpTo_6 : decode cX0_fetchedUpTo 6 = .ok (.i2l, 1) := by decide +kernel
theorem dX0_fetchedUpTo_7 : decode cX0_fetchedUpTo 7 = .ok (.aload_n 0, 1) := by decide +kernel
theorem dX0_fetchedUpTo_8 : decode cX0_fetchedUpTo 8 = .ok (.getfield 16, 3) := by decide +kernel
theorem dX0_fetchedUpTo_11 : decode cX0_fetchedUpTo 11 = .ok (.i2l, 1) := by decide +kernel
theorem dX0_fetchedUpTo_12 : decode cX0_fetchedUpTo 12 = .ok (.lload_n 1, 1) := by decide +kernel
theorem dX0_fetchedUpTo_13 : decode cX0_fetchedUpTo 13 = .ok (.ldc2_w 26, 3) := by decide +kernel
theorem dX0_fetchedUpTo_16 : decode cX0_fetchedUpTo 16 = .ok (.ldiv, 1) := by decide +kernel
theorem dX0_fetchedUpTo_17 : decode cX0_fetchedUpTo 17 = .ok (.invokestatic 28, 3) := by decide +kernel
theorem dX0_fetchedUpTo_20 : decode cX0_fetchedUpTo 20 = .ok (.invokestatic 34, 3) := by decide +kernel
theorem dX0_fetchedUpTo_23 : decode cX0_fetchedUpTo 23 = .ok (.lstore_n 3, 1) := by decide +kernel
theorem dX0_fetchedUpTo_24 : decode cX0_fetchedUpTo 24 = .ok (.aload_n 0, 1) := by decide +kernel
theorem dX0_fetchedUpTo_25 : decode cX0_fetchedUpTo 25 = .ok (.getfield 13, 3) := by decide +kernel
theorem dX0_fetchedUpTo_28 : decode cX0_fetchedUpTo 28 = .ok (.i2l, 1) := by decide +kernel
theorem dX0_fetchedUpTo_29 : decode cX0_fetchedUpTo 29 = .ok (.lload_n 3, 1) := by decide +kernel
theorem dX0_fetchedUpTo_30 : decode cX0_fetchedUpTo 30 = .ok (.ladd, 1) := by decide +kernel
theorem dX0_fetchedUpTo_31 : decode cX0_fetchedUpTo 31 = .ok (.lload_n 3, 1) := by decide +kernel
theorem dX0_fetchedUpTo_32 : decode cX0_fetchedUpTo 32 = .ok (.aload_n 0, 1) := by decide +kernel
theorem dX0_fetchedUpTo_33 : decode cX0_fetchedUpTo 33 = .ok (.getfield 13, 3) := by decide +kernel
theorem dX0_fetchedUpTo_36 : decode cX0_fetchedUpTo 36 = .ok (.i2l, 1) := by decide +kernel
theorem dX0_fetchedUpTo_37 : decode cX0_fetchedUpTo 37 = .ok (.lsub, 1) := by decide +kernel
theorem dX0_fetchedUpTo_38 : decode cX0_fetchedUpTo 38 = .ok (.lconst 1, 1) := by decide +kernel
theorem dX0_fetchedUpTo_39 : decode cX0_fetchedUpTo 39 = .ok (.ladd, 1) := by decide +kernel
theorem dX0_fetchedUpTo_40 : decode cX0_fetchedUpTo 40 = .ok (.lmul, 1) := by decide +kernel
theorem dX0_fetchedUpTo_41 : decode cX0_fetchedUpTo 41 = .ok (.aload_n 0, 1) := by decide +kernel
theorem dX0_fetchedUpTo_42 : decode cX0_fetchedUpTo 42 = .ok (.getfield 16, 3) := by decide +kernel
theorem dX0_fetchedUpTo_45 : decode cX0_fetchedUpTo 45 = .ok (.i2l, 1) := by decide +kernel
theorem dX0_fetchedUpTo_46 : decode cX0_fetchedUpTo 46 = .ok (.lload_n 3, 1) := by decide +kernel
theorem dX0_fetchedUpTo_47 : decode cX0_fetchedUpTo 47 = .ok (.lsub, 1) := by decide +kernel
theorem dX0_fetchedUpTo_48 : decode cX0_fetchedUpTo 48 = .ok (.lload_n 1, 1) := by decide +kernel
theorem dX0_fetchedUpTo_49 : decode cX0_fetchedUpTo 49 = .ok (.lmul, 1) := by decide +kernel
theorem dX0_fetchedUpTo_50 : decode cX0_fetchedUpTo 50 = .ok (.ladd, 1) := by decide +kernel
theorem dX0_fetchedUpTo_51 : decode cX0_fetchedUpTo 51 = .ok (.lreturn, 1) := by decide +kernel
theorem dX1_init_0 : decode cX1_init 0 = .ok (.aload_n 0, 1) := by decide +kernel
theorem dX1_init_1 : decode cX1_init 1 = .ok (.invokespecial 3, 3) := by decide +kernel
theorem dX1_init_4 : decode cX1_init 4 = .ok (.aload_n 0, 1) := by decide +kernel
theorem dX1_init_5 : decode cX1_init 5 = .ok (.bipush 8, 2) := by decide +kernel
theorem dX1_init_7 : decode cX1_init 7 = .ok (.newarray .int, 2) := by decide +kernel
theorem dX1_init_9 : decode cX1_init 9 = .ok (.putfield 9, 3) := by decide +kernel
theorem dX1_init_12 : decode cX1_init 12 = .ok (.aload_n 0, 1) := by decide +kernel
theorem dX1_init_13 : decode cX1_init 13 = .ok (.bipush 8, 2) := by decide +kernel
theorem dX1_init_15 : decode cX1_init 15 = .ok (.newarray .int, 2) := by decide +kernel
theorem dX1_init_17 : decode cX1_init 17 = .ok (.putfield 15, 3) := by decide +kernel
theorem dX1_init_20 : decode cX1_init 20 = .ok (.aload_n 0, 1) := by decide +kernel
theorem dX1_init_21 : decode cX1_init 21 = .ok (.bipush 8, 2) := by decide +kernel
theorem dX1_init_23 : decode cX1_init 23 = .ok (.newarray .int, 2) := by decide +kernel
theorem dX1_init_25 : decode cX1_init 25 = .ok (.putfield 18, 3) := by decide +kernel
theorem dX1_init_28 : decode cX1_init 28 = .ok (.aload_n 0, 1) := by decide +kernel
theorem dX1_init_29 : decode cX1_init 29 = .ok (.bipush 6, 2) := by decide +kernel
theorem dX1_init_31 : decode cX1_init 31 = .ok (.newarray .int, 2) := by decide +kernel
theorem dX1_init_33 : decode cX1_init 33 = .ok (.putfield 21, 3) := by decide +kernel
theorem dX1_init_36 : decode cX1_init 36 = .ok (.aload_n 0, 1) := by decide +kernel
theorem dX1_init_37 : decode cX1_init 37 = .ok (.invokevirtual 24, 3) := by decide +kernel
theorem dX1_init_40 : decode cX1_init 40 = .ok (.return_, 1) := by decide +kernel
theorem dX1_clear_0 : decode cX1_clear 0 = .ok (.aload_n 0, 1) := by decide +kernel
theorem dX1_clear_1 : decode cX1_clear 1 = .ok (.iconst 0, 1) := by decide +kernel
theorem dX1_clear_2 : decode cX1_clear 2 = .ok (.putfield 27, 3) := by decide +kernel
theorem dX1_clear_5 : decode cX1_clear 5 = .ok (.aload_n 0, 1) := by decide +kernel
theorem dX1_clear_6 : decode cX1_clear 6 = .ok (.iconst 0, 1) := by decide +kernel
theorem dX1_clear_7 : decode cX1_clear 7 = .ok (.putfield 31, 3) := by decide +kernel
theorem dX1_clear_10 : decode cX1_clear 10 = .ok (.iconst 0, 1) := by decide +kernel
theorem dX1_clear_11 : decode cX1_clear 11 = .ok (.istore_n 1, 1) := by decide +kernel
theorem dX1_clear_12 : decode cX1_clear 12 = .ok (.iload_n 1, 1) := by decide +kernel
theorem dX1_clear_13 : decode cX1_clear 13 = .ok (.bipush 6, 2) := by decide +kernel
theorem dX1_clear_15 : decode cX1_clear 15 = .ok (.if_icmp .ge 20, 3) := by decide +kernel
theorem dX1_clear_18 : decode cX1_clear 18 = .ok (.aload_n 0, 1) := by decide +kernel
theorem dX1_clear_19 : decode cX1_clear 19 = .ok (.getfield 21, 3) := by decide +kernel
theorem dX1_clear_22 : decode cX1_clear 22 = .ok (.iload_n 1, 1) := by decide +kernel
theorem dX1_clear_23 : decode cX1_clear 23 = .ok (.getstatic 34, 3) := by decide +kernel
theorem dX1_clear_26 : decode cX1_clear 26 = .ok (.iload_n 1, 1) := by decide +kernel
theorem dX1_clear_27 : decode cX1_clear 27 = .ok (.iaload, 1) := by decide +kernel
theorem dX1_clear_28 : decode cX1_clear 28 = .ok (.iastore, 1) := by decide +kernel
theorem dX1_clear_29 : decode cX1_clear 29 = .ok (.iinc 1 1, 3) := by decide +kernel
theorem dX1_clear_32 : decode cX1_clear 32 = .ok (.goto (-20), 3) := by decide +kernel
theorem dX1_clear_35 : decode cX1_clear 35 = .ok (.return_, 1) := by decide +kernel
theorem dX1_copyFrom_0 : decode cX1_copyFrom 0 = .ok (.aload_n 0, 1) := by decide +kernel
theorem dX1_copyFrom_1 : decode cX1_copyFrom 1 = .ok (.aload_n 1, 1) := by decide +kernel
theorem dX1_copyFrom_2 : decode cX1_copyFrom 2 = .ok (.getfield 27, 3) := by decide +kernel
theorem dX1_copyFrom_5 : decode cX1_copyFrom 5 = .ok (.putfield 27, 3) := by decide +kernel
theorem dX1_copyFrom_8 : decode cX1_copyFrom 8 = .ok (.aload_n 0, 1) := by decide +kernel
theorem dX1_copyFrom_9 : decode cX1_copyFrom 9 = .ok (.aload_n 1, 1) := by decide +kernel
theorem dX1_copyFrom_10 : decode cX1_copyFrom 10 = .ok (.getfield 31, 3) := by decide +kernel
theorem dX1_copyFrom_13 : decode cX1_copyFrom 13 = .ok (.putfield 31, 3) := by decide +kernel
theorem dX1_copyFrom_16 : decode cX1_copyFrom 16 = .ok (.aload_n 1, 1) := by decide +kernel
theorem dX1_copyFrom_17 : decode cX1_copyFrom 17 = .ok (.getfield 9, 3) := by decide +kernel
theorem dX1_copyFrom_20 : decode cX1_copyFrom 20 = .ok (.iconst 0, 1) := by decide +kernel
theorem dX1_copyFrom_21 : decode cX1_copyFrom 21 = .ok (.aload_n 0, 1) := by decide +kernel
theorem dX1_copyFrom_22 : decode cX1_copyFrom 22 = .ok (.getfield 9, 3) := by decide +kernel
theorem dX1_copyFrom_25 : decode cX1_copyFrom 25 = .ok (.iconst 0, 1) := by decide +kernel
theorem dX1_copyFrom_26 : decode cX1_copyFrom 26 = .ok (.bipush 8, 2) := by decide +kernel
theorem dX1_copyFrom_28 : decode cX1_copyFrom 28 = .ok (.invokestatic 37, 3) := by decide +kernel
theorem dX1_copyFrom_31 : decode cX1_copyFrom 31 = .ok (.aload_n 1, 1) := by decide +kernel
theorem dX1_copyFrom_32 : decode cX1_copyFrom 32 = .ok (.getfield 15, 3) := by decide +kernel
theorem dX1_copyFrom_35 : decode cX1_copyFrom 35 = .ok (.iconst 0, 1) := by decide +kernel
theorem dX1_copyFrom_36 : decode cX1_copyFrom 36 = .ok (.aload_n 0, 1) := by decide +kernel
theorem dX1_copyFrom_37 : decode cX1_copyFrom 37 = .ok (.getfield 15, 3) := by decide +kernel
theorem dX1_copyFrom_40 : decode cX1_copyFrom 40 = .ok (.iconst 0, 1) := by decide +kernel
theorem dX1_copyFrom_41 : decode cX1_copyFrom 41 = .ok (.bipush 8, 2) := by decide +kernel
theorem dX1_copyFrom_43 : decode cX1_copyFrom 43 = .ok (.invokestatic 37, 3) := by decide +kernel
theorem dX1_copyFrom_46 : decode cX1_copyFrom 46 = .ok (.aload_n 1, 1) := by decide +kernel
theorem dX1_copyFrom_47 : decode cX1_copyFrom 47 = .ok (.getfield 18, 3) := by decide +kernel
theorem dX1_copyFrom_50 : decode cX1_copyFrom 50 = .ok (.iconst 0, 1) := by decide +kernel
theorem dX1_copyFrom_51 : decode cX1_copyFrom 51 = .ok (.aload_n 0, 1) := by decide +kernel
theorem dX1_copyFrom_52 : decode cX1_copyFrom 52 = .ok (.getfield 18, 3) := by decide +kernel
theorem dX1_copyFrom_55 : decode cX1_copyFrom 55 = .ok (.iconst 0, 1) := by decide +kernel
theorem dX1_copyFrom_56 : decode cX1_copyFrom 56 = .ok (.bipush 8, 2) := by decide +kernel
theorem dX1_copyFrom_58 : decode cX1_copyFrom 58 = .ok (.invokestatic 37, 3) := by decide +kernel
theorem dX1_copyFrom_61 : decode cX1_copyFrom 61 = .ok (.aload_n 1, 1) := by decide +kernel
theorem dX1_copyFrom_62 : decode cX1_copyFrom 62 = .ok (.getfield 21, 3) := by decide +kernel
theorem dX1_copyFrom_65 : decode cX1_copyFrom 65 = .ok (.iconst 0, 1) := by decide +kernel
theorem dX1_copyFrom_66 : decode cX1_copyFrom 66 = .ok (.aload_n 0, 1) := by decide +kernel
theorem dX1_copyFrom_67 : decode cX1_copyFrom 67 = .ok (.getfield 21, 3) := by decide +kernel
theorem dX1_copyFrom_70 : decode cX1_copyFrom 70 = .ok (.iconst 0, 1) := by decide +kernel
theorem dX1_copyFrom_71 : decode cX1_copyFrom 71 = .ok (.bipush 6, 2) := by decide +kernel
theorem dX1_copyFrom_73 : decode cX1_copyFrom 73 = .ok (.invokestatic 37, 3) := by decide +kernel
theorem dX1_copyFrom_76 : decode cX1_copyFrom 76 = .ok (.return_, 1) := by decide +kernel
theorem dX1_halves_0 : decode cX1_halves 0 = .ok (.iconst 1, 1) := by decide +kernel
theorem dX1_halves_1 : decode cX1_halves 1 = .ok (.iload_n 1, 1) := by decide +kernel
theorem dX1_halves_2 : decode cX1_halves 2 = .ok (.iload_n 0, 1) := by decide +kernel
theorem dX1_halves_3 : decode cX1_halves 3 = .ok (.isub, 1) := by decide +kernel
theorem dX1_halves_4 : decode cX1_halves 4 = .ok (.iconst 2, 1) := by decide +kernel
theorem dX1_halves_5 : decode cX1_halves 5 = .ok (.idiv, 1) := by decide +kernel
theorem dX1_halves_6 : decode cX1_halves 6 = .ok (.iadd, 1) := by decide +kernel
theorem dX1_halves_7 : decode cX1_halves 7 = .ok (.ireturn, 1) := by decide +kernel
theorem dX1_lends_0 : decode cX1_lends 0 = .ok (.iload_n 1, 1) := by decide +kernel
theorem dX1_lends_1 : decode cX1_lends 1 = .ok (.aload_n 0, 1) := by decide +kernel
theorem dX1_lends_2 : decode cX1_lends 2 = .ok (.invokevirtual 43, 3) := by decide +kernel
theorem dX1_lends_5 : decode cX1_lends 5 = .ok (.if_icmp .gt 7, 3) := by decide +kernel
theorem dX1_lends_8 : decode cX1_lends 8 = .ok (.iconst 1, 1) := by decide +kernel
theorem dX1_lends_9 : decode cX1_lends 9 = .ok (.goto 4, 3) := by decide +kernel
theorem dX1_lends_12 : decode cX1_lends 12 = .ok (.iconst 0, 1) := by decide +kernel
theorem dX1_lends_13 : decode cX1_lends 13 = .ok (.ireturn, 1) := by decide +kernel
theorem dX1_greatest_0 : decode cX1_greatest 0 = .ok (.aload_n 0, 1) := by decide +kernel
theorem dX1_greatest_1 : decode cX1_greatest 1 = .ok (.getfield 27, 3) := by decide +kernel
theorem dX1_greatest_4 : decode cX1_greatest 4 = .ok (.ifCond .le 17, 3) := by decide +kernel
theorem dX1_greatest_7 : decode cX1_greatest 7 = .ok (.aload_n 0, 1) := by decide +kernel
theorem dX1_greatest_8 : decode cX1_greatest 8 = .ok (.getfield 9, 3) := by decide +kernel
theorem dX1_greatest_11 : decode cX1_greatest 11 = .ok (.aload_n 0, 1) := by decide +kernel
theorem dX1_greatest_12 : decode cX1_greatest 12 = .ok (.getfield 27, 3) := by decide +kernel
theorem dX1_greatest_15 : decode cX1_greatest 15 = .ok (.iconst 1, 1) := by decide +kernel
theorem dX1_greatest_16 : decode cX1_greatest 16 = .ok (.isub, 1) := by decide +kernel
theorem dX1_greatest_17 : decode cX1_greatest 17 = .ok (.iaload, 1) := by decide +kernel
theorem dX1_greatest_18 : decode cX1_greatest 18 = .ok (.goto 4, 3) := by decide +kernel
theorem dX1_greatest_21 : decode cX1_greatest 21 = .ok (.iconst 0, 1) := by decide +kernel
theorem dX1_greatest_22 : decode cX1_greatest 22 = .ok (.ireturn, 1) := by decide +kernel
theorem dX1_charge_0 : decode cX1_charge 0 = .ok (.aload_n 0, 1) := by decide +kernel
theorem dX1_charge_1 : decode cX1_charge 1 = .ok (.getfield 21, 3) := by decide +kernel
theorem dX1_charge_4 : decode cX1_charge 4 = .ok (.iconst 0, 1) := by decide +kernel
theorem dX1_charge_5 : decode cX1_charge 5 = .ok (.iaload, 1) := by decide +kernel
theorem dX1_charge_6 : decode cX1_charge 6 = .ok (.iload_n 2, 1) := by decide +kernel
theorem dX1_charge_7 : decode cX1_charge 7 = .ok (.aload_n 0, 1) := by decide +kernel
theorem dX1_charge_8 : decode cX1_charge 8 = .ok (.iload_n 1, 1) := by decide +kernel
theorem dX1_charge_9 : decode cX1_charge 9 = .ok (.invokevirtual 47, 3) := by decide +kernel
theorem dX1_charge_12 : decode cX1_charge 12 = .ok (.imul, 1) := by decide +kernel
theorem dX1_charge_13 : decode cX1_charge 13 = .ok (.invokestatic 51, 3) := by decide +kernel
theorem dX1_charge_16 : decode cX1_charge 16 = .ok (.ireturn, 1) := by decide +kernel
theorem dX1_takenByHalf_0 : decode cX1_takenByHalf 0 = .ok (.iconst 0, 1) := by decide +kernel
theorem dX1_takenByHalf_1 : decode cX1_takenByHalf 1 = .ok (.istore_n 2, 1) := by decide +kernel
theorem dX1_takenByHalf_2 : decode cX1_takenByHalf 2 = .ok (.iload_n 2, 1) := by decide +kernel
theorem dX1_takenByHalf_3 : decode cX1_takenByHalf 3 = .ok (.aload_n 0, 1) := by decide +kernel
theorem dX1_takenByHalf_4 : decode cX1_takenByHalf 4 = .ok (.getfield 27, 3) := by decide +kernel
theorem dX1_takenByHalf_7 : decode cX1_takenByHalf 7 = .ok (.if_icmp .ge 58, 3) := by decide +kernel
theorem dX1_takenByHalf_10 : decode cX1_takenByHalf 10 = .ok (.aload_n 0, 1) := by decide +kernel
theorem dX1_takenByHalf_11 : decode cX1_takenByHalf 11 = .ok (.getfield 9, 3) := by decide +kernel
theorem dX1_takenByHalf_14 : decode cX1_takenByHalf 14 = .ok (.iload_n 2, 1) := by decide +kernel
theorem dX1_takenByHalf_15 : decode cX1_takenByHalf 15 = .ok (.iaload, 1) := by decide +kernel
theorem dX1_takenByHalf_16 : decode cX1_takenByHalf 16 = .ok (.iload_n 1, 1) := by decide +kernel
theorem dX1_takenByHalf_17 : decode cX1_takenByHalf 17 = .ok (.if_icmp .lt 42, 3) := by decide +kernel
theorem dX1_takenByHalf_20 : decode cX1_takenByHalf 20 = .ok (.aload_n 0, 1) := by decide +kernel
theorem dX1_takenByHalf_21 : decode cX1_takenByHalf 21 = .ok (.getfield 18, 3) := by decide +kernel
theorem dX1_takenByHalf_24 : decode cX1_takenByHalf 24 = .ok (.iload_n 2, 1) := by decide +kernel
theorem dX1_takenByHalf_25 : decode cX1_takenByHalf 25 = .ok (.iaload, 1) := by decide +kernel
theorem dX1_takenByHalf_26 : decode cX1_takenByHalf 26 = .ok (.iconst 1, 1) := by decide +kernel
theorem dX1_takenByHalf_27 : decode cX1_takenByHalf 27 = .ok (.if_icmp .ge 7, 3) := by decide +kernel
theorem dX1_takenByHalf_30 : decode cX1_takenByHalf 30 = .ok (.iconst 0, 1) := by decide +kernel
theorem dX1_takenByHalf_31 : decode cX1_takenByHalf 31 = .ok (.goto 27, 3) := by decide +kernel
theorem dX1_takenByHalf_34 : decode cX1_takenByHalf 34 = .ok (.aload_n 0, 1) := by decide +kernel
theorem dX1_takenByHalf_35 : decode cX1_takenByHalf 35 = .ok (.getfield 15, 3) := by decide +kernel
theorem dX1_takenByHalf_38 : decode cX1_takenByHalf 38 = .ok (.iload_n 2, 1) := by decide +kernel
theorem dX1_takenByHalf_39 : decode cX1_takenByHalf 39 = .ok (.iaload, 1) := by decide +kernel
theorem dX1_takenByHalf_40 : decode cX1_takenByHalf 40 = .ok (.iload_n 1, 1) := by decide +kernel
theorem dX1_takenByHalf_41 : decode cX1_takenByHalf 41 = .ok (.aload_n 0, 1) := by decide +kernel
theorem dX1_takenByHalf_42 : decode cX1_takenByHalf 42 = .ok (.getfield 18, 3) := by decide +kernel
theorem dX1_takenByHalf_45 : decode cX1_takenByHalf 45 = .ok (.iload_n 2, 1) := by decide +kernel
theorem dX1_takenByHalf_46 : decode cX1_takenByHalf 46 = .ok (.iaload, 1) := by decide +kernel
theorem dX1_takenByHalf_47 : decode cX1_takenByHalf 47 = .ok (.iadd, 1) := by decide +kernel
theorem dX1_takenByHalf_48 : decode cX1_takenByHalf 48 = .ok (.iconst 1, 1) := by decide +kernel
theorem dX1_takenByHalf_49 : decode cX1_takenByHalf 49 = .ok (.isub, 1) := by decide +kernel
theorem dX1_takenByHalf_50 : decode cX1_takenByHalf 50 = .ok (.aload_n 0, 1) := by decide +kernel
theorem dX1_takenByHalf_51 : decode cX1_takenByHalf 51 = .ok (.getfield 18, 3) := by decide +kernel
theorem dX1_takenByHalf_54 : decode cX1_takenByHalf 54 = .ok (.iload_n 2, 1) := by decide +kernel
theorem dX1_takenByHalf_55 : decode cX1_takenByHalf 55 = .ok (.iaload, 1) := by decide +kernel
theorem dX1_takenByHalf_56 : decode cX1_takenByHalf 56 = .ok (.idiv, 1) := by decide +kernel
theorem dX1_takenByHalf_57 : decode cX1_takenByHalf 57 = .ok (.imul, 1) := by decide +kernel
theorem dX1_takenByHalf_58 : decode cX1_takenByHalf 58 = .ok (.ireturn, 1) := by decide +kernel
theorem dX1_takenByHalf_59 : decode cX1_takenByHalf 59 = .ok (.iinc 2 1, 3) := by decide +kernel
theorem dX1_takenByHalf_62 : decode cX1_takenByHalf 62 = .ok (.goto (-60), 3) := by decide +kernel
theorem dX1_takenByHalf_65 : decode cX1_takenByHalf 65 = .ok (.iconst 0, 1) := by decide +kernel
theorem dX1_takenByHalf_66 : decode cX1_takenByHalf 66 = .ok (.ireturn, 1) := by decide +kernel
theorem dX1_gainParts_0 : decode cX1_gainParts 0 = .ok (.aload_n 0, 1) := by decide +kernel
theorem dX1_gainParts_1 : decode cX1_gainParts 1 = .ok (.iload_n 2, 1) := by decide +kernel
theorem dX1_gainParts_2 : decode cX1_gainParts 2 = .ok (.iload 4, 2) := by decide +kernel
theorem dX1_gainParts_4 : decode cX1_gainParts 4 = .ok (.invokevirtual 57, 3) := by decide +kernel
theorem dX1_gainParts_7 : decode cX1_gainParts 7 = .ok (.i2l, 1) := by decide +kernel
theorem dX1_gainParts_8 : decode cX1_gainParts 8 = .ok (.lstore 5, 2) := by decide +kernel
theorem dX1_gainParts_10 : decode cX1_gainParts 10 = .ok (.aload_n 1, 1) := by decide +kernel
theorem dX1_gainParts_11 : decode cX1_gainParts 11 = .ok (.invokevirtual 60, 3) := by decide +kernel
theorem dX1_gainParts_14 : decode cX1_gainParts 14 = .ok (.i2l, 1) := by decide +kernel
theorem dX1_gainParts_15 : decode cX1_gainParts 15 = .ok (.lstore 7, 2) := by decide +kernel
theorem dX1_gainParts_17 : decode cX1_gainParts 17 = .ok (.bipush 100, 2) := by decide +kernel
theorem dX1_gainParts_19 : decode cX1_gainParts 19 = .ok (.aload_n 1, 1) := by decide +kernel
theorem dX1_gainParts_20 : decode cX1_gainParts 20 = .ok (.getfield 65, 3) := by decide +kernel
theorem dX1_gainParts_23 : decode cX1_gainParts 23 = .ok (.isub, 1) := by decide +kernel
theorem dX1_gainParts_24 : decode cX1_gainParts 24 = .ok (.i2l, 1) := by decide +kernel
theorem dX1_gainParts_25 : decode cX1_gainParts 25 = .ok (.aload_n 1, 1) := by decide +kernel
theorem dX1_gainParts_26 : decode cX1_gainParts 26 = .ok (.ldc2_w 68, 3) := by decide +kernel
theorem dX1_gainParts_29 : decode cX1_gainParts 29 = .ok (.iload_n 2, 1) := by decide +kernel
theorem dX1_gainParts_30 : decode cX1_gainParts 30 = .ok (.i2l, 1) := by decide +kernel
theorem dX1_gainParts_31 : decode cX1_gainParts 31 = .ok (.lmul, 1) := by decide +kernel
theorem dX1_gainParts_32 : decode cX1_gainParts 32 = .ok (.lload 5, 2) := by decide +kernel
theorem dX1_gainParts_34 : decode cX1_gainParts 34 = .ok (.ladd, 1) := by decide +kernel
theorem dX1_gainParts_35 : decode cX1_gainParts 35 = .ok (.invokevirtual 70, 3) := by decide +kernel
theorem dX1_gainParts_38 : decode cX1_gainParts 38 = .ok (.lmul, 1) := by decide +kernel
theorem dX1_gainParts_39 : decode cX1_gainParts 39 = .ok (.lstore 9, 2) := by decide +kernel
theorem dX1_gainParts_41 : decode cX1_gainParts 41 = .ok (.ldc2_w 74, 3) := by decide +kernel
theorem dX1_gainParts_44 : decode cX1_gainParts 44 = .ok (.iload_n 3, 1) := by decide +kernel
theorem dX1_gainParts_45 : decode cX1_gainParts 45 = .ok (.i2l, 1) := by decide +kernel
theorem dX1_gainParts_46 : decode cX1_gainParts 46 = .ok (.lmul, 1) := by decide +kernel
theorem dX1_gainParts_47 : decode cX1_gainParts 47 = .ok (.lload 5, 2) := by decide +kernel
theorem dX1_gainParts_49 : decode cX1_gainParts 49 = .ok (.lmul, 1) := by decide +kernel
theorem dX1_gainParts_50 : decode cX1_gainParts 50 = .ok (.lload 7, 2) := by decide +kernel
theorem dX1_gainParts_52 : decode cX1_gainParts 52 = .ok (.lmul, 1) := by decide +kernel
theorem dX1_gainParts_53 : decode cX1_gainParts 53 = .ok (.bipush 100, 2) := by decide +kernel
theorem dX1_gainParts_55 : decode cX1_gainParts 55 = .ok (.iload_n 3, 1) := by decide +kernel
theorem dX1_gainParts_56 : decode cX1_gainParts 56 = .ok (.isub, 1) := by decide +kernel
theorem dX1_gainParts_57 : decode cX1_gainParts 57 = .ok (.i2l, 1) := by decide +kernel
theorem dX1_gainParts_58 : decode cX1_gainParts 58 = .ok (.lload 9, 2) := by decide +kernel
theorem dX1_gainParts_60 : decode cX1_gainParts 60 = .ok (.ldc2_w 76, 3) := by decide +kernel
theorem dX1_gainParts_63 : decode cX1_gainParts 63 = .ok (.iload_n 2, 1) := by decide +kernel
theorem dX1_gainParts_64 : decode cX1_gainParts 64 = .ok (.i2l, 1) := by decide +kernel
theorem dX1_gainParts_65 : decode cX1_gainParts 65 = .ok (.lmul, 1) := by decide +kernel
theorem dX1_gainParts_66 : decode cX1_gainParts 66 = .ok (.lload 7, 2) := by decide +kernel
theorem dX1_gainParts_68 : decode cX1_gainParts 68 = .ok (.lmul, 1) := by decide +kernel
theorem dX1_gainParts_69 : decode cX1_gainParts 69 = .ok (.lsub, 1) := by decide +kernel
theorem dX1_gainParts_70 : decode cX1_gainParts 70 = .ok (.lmul, 1) := by decide +kernel
theorem dX1_gainParts_71 : decode cX1_gainParts 71 = .ok (.ladd, 1) := by decide +kernel
theorem dX1_gainParts_72 : decode cX1_gainParts 72 = .ok (.lreturn, 1) := by decide +kernel
theorem dX2_init_0 : decode cX2_init 0 = .ok (.aload_n 0, 1) := by decide +kernel
theorem dX2_init_1 : decode cX2_init 1 = .ok (.invokespecial 3, 3) := by decide +kernel
theorem dX2_init_4 : decode cX2_init 4 = .ok (.aload_n 0, 1) := by decide +kernel
theorem dX2_init_5 : decode cX2_init 5 = .ok (.bipush 9, 2) := by decide +kernel
theorem dX2_init_7 : decode cX2_init 7 = .ok (.newarray .int, 2) := by decide +kernel
theorem dX2_init_9 : decode cX2_init 9 = .ok (.putfield 9, 3) := by decide +kernel
theorem dX2_init_12 : decode cX2_init 12 = .ok (.aload_n 0, 1) := by decide +kernel
theorem dX2_init_13 : decode cX2_init 13 = .ok (.sipush 400, 3) := by decide +kernel
theorem dX2_init_16 : decode cX2_init 16 = .ok (.newarray .int, 2) := by decide +kernel
theorem dX2_init_18 : decode cX2_init 18 = .ok (.putfield 15, 3) := by decide +kernel
theorem dX2_init_21 : decode cX2_init 21 = .ok (.aload_n 0, 1) := by decide +kernel
theorem dX2_init_22 : decode cX2_init 22 = .ok (.sipush 400, 3) := by decide +kernel
theorem dX2_init_25 : decode cX2_init 25 = .ok (.newarray .int, 2) := by decide +kernel
theorem dX2_init_27 : decode cX2_init 27 = .ok (.putfield 18, 3) := by decide +kernel
theorem dX2_init_30 : decode cX2_init 30 = .ok (.return_, 1) := by decide +kernel
theorem dX2_clear_0 : decode cX2_clear 0 = .ok (.aload_n 0, 1) := by decide +kernel
theorem dX2_clear_1 : decode cX2_clear 1 = .ok (.iconst 0, 1) := by decide +kernel
theorem dX2_clear_2 : decode cX2_clear 2 = .ok (.putfield 21, 3) := by decide +kernel
theorem dX2_clear_5 : decode cX2_clear 5 = .ok (.aload_n 0, 1) := by decide +kernel
theorem dX2_clear_6 : decode cX2_clear 6 = .ok (.iconst 0, 1) := by decide +kernel
theorem dX2_clear_7 : decode cX2_clear 7 = .ok (.putfield 25, 3) := by decide +kernel
theorem dX2_clear_10 : decode cX2_clear 10 = .ok (.return_, 1) := by decide +kernel
theorem dX2_copyFrom_0 : decode cX2_copyFrom 0 = .ok (.aload_n 0, 1) := by decide +kernel
theorem dX2_copyFrom_1 : decode cX2_copyFrom 1 = .ok (.aload_n 1, 1) := by decide +kernel
theorem dX2_copyFrom_2 : decode cX2_copyFrom 2 = .ok (.getfield 21, 3) := by decide +kernel
theorem dX2_copyFrom_5 : decode cX2_copyFrom 5 = .ok (.putfield 21, 3) := by decide +kernel
theorem dX2_copyFrom_8 : decode cX2_copyFrom 8 = .ok (.aload_n 0, 1) := by decide +kernel
theorem dX2_copyFrom_9 : decode cX2_copyFrom 9 = .ok (.aload_n 1, 1) := by decide +kernel
theorem dX2_copyFrom_10 : decode cX2_copyFrom 10 = .ok (.getfield 25, 3) := by decide +kernel
theorem dX2_copyFrom_13 : decode cX2_copyFrom 13 = .ok (.putfield 25, 3) := by decide +kernel
theorem dX2_copyFrom_16 : decode cX2_copyFrom 16 = .ok (.aload_n 1, 1) := by decide +kernel
theorem dX2_copyFrom_17 : decode cX2_copyFrom 17 = .ok (.getfield 9, 3) := by decide +kernel
theorem dX2_copyFrom_20 : decode cX2_copyFrom 20 = .ok (.iconst 0, 1) := by decide +kernel
theorem dX2_copyFrom_21 : decode cX2_copyFrom 21 = .ok (.aload_n 0, 1) := by decide +kernel
theorem dX2_copyFrom_22 : decode cX2_copyFrom 22 = .ok (.getfield 9, 3) := by decide +kernel
theorem dX2_copyFrom_25 : decode cX2_copyFrom 25 = .ok (.iconst 0, 1) := by decide +kernel
theorem dX2_copyFrom_26 : decode cX2_copyFrom 26 = .ok (.aload_n 0, 1) := by decide +kernel
theorem dX2_copyFrom_27 : decode cX2_copyFrom 27 = .ok (.getfield 9, 3) := by decide +kernel
theorem dX2_copyFrom_30 : decode cX2_copyFrom 30 = .ok (.arraylength, 1) := by decide +kernel
theorem dX2_copyFrom_31 : decode cX2_copyFrom 31 = .ok (.invokestatic 28, 3) := by decide +kernel
theorem dX2_copyFrom_34 : decode cX2_copyFrom 34 = .ok (.aload_n 1, 1) := by decide +kernel
theorem dX2_copyFrom_35 : decode cX2_copyFrom 35 = .ok (.getfield 15, 3) := by decide +kernel
theorem dX2_copyFrom_38 : decode cX2_copyFrom 38 = .ok (.iconst 0, 1) := by decide +kernel
theorem dX2_copyFrom_39 : decode cX2_copyFrom 39 = .ok (.aload_n 0, 1) := by decide +kernel
theorem dX2_copyFrom_40 : decode cX2_copyFrom 40 = .ok (.getfield 15, 3) := by decide +kernel
theorem dX2_copyFrom_43 : decode cX2_copyFrom 43 = .ok (.iconst 0, 1) := by decide +kernel
theorem dX2_copyFrom_44 : decode cX2_copyFrom 44 = .ok (.aload_n 0, 1) := by decide +kernel
theorem dX2_copyFrom_45 : decode cX2_copyFrom 45 = .ok (.getfield 25, 3) := by decide +kernel
theorem dX2_copyFrom_48 : decode cX2_copyFrom 48 = .ok (.invokestatic 28, 3) := by decide +kernel
theorem dX2_copyFrom_51 : decode cX2_copyFrom 51 = .ok (.aload_n 1, 1) := by decide +kernel
theorem dX2_copyFrom_52 : decode cX2_copyFrom 52 = .ok (.getfield 18, 3) := by decide +kernel
theorem dX2_copyFrom_55 : decode cX2_copyFrom 55 = .ok (.iconst 0, 1) := by decide +kernel
theorem dX2_copyFrom_56 : decode cX2_copyFrom 56 = .ok (.aload_n 0, 1) := by decide +kernel
theorem dX2_copyFrom_57 : decode cX2_copyFrom 57 = .ok (.getfield 18, 3) := by decide +kernel
theorem dX2_copyFrom_60 : decode cX2_copyFrom 60 = .ok (.iconst 0, 1) := by decide +kernel
theorem dX2_copyFrom_61 : decode cX2_copyFrom 61 = .ok (.aload_n 0, 1) := by decide +kernel
theorem dX2_copyFrom_62 : decode cX2_copyFrom 62 = .ok (.getfield 25, 3) := by decide +kernel
theorem dX2_copyFrom_65 : decode cX2_copyFrom 65 = .ok (.invokestatic 28, 3) := by decide +kernel
theorem dX2_copyFrom_68 : decode cX2_copyFrom 68 = .ok (.return_, 1) := by decide +kernel
theorem dX2_add_0 : decode cX2_add 0 = .ok (.aload_n 0, 1) := by decide +kernel
theorem dX2_add_1 : decode cX2_add 1 = .ok (.getfield 25, 3) := by decide +kernel
theorem dX2_add_4 : decode cX2_add 4 = .ok (.sipush 400, 3) := by decide +kernel
theorem dX2_add_7 : decode cX2_add 7 = .ok (.if_icmp .ge 33, 3) := by decide +kernel
theorem dX2_add_10 : decode cX2_add 10 = .ok (.aload_n 0, 1) := by decide +kernel
theorem dX2_add_11 : decode cX2_add 11 = .ok (.getfield 15, 3) := by decide +kernel
theorem dX2_add_14 : decode cX2_add 14 = .ok (.aload_n 0, 1) := by decide +kernel
theorem dX2_add_15 : decode cX2_add 15 = .ok (.getfield 25, 3) := by decide +kernel
theorem dX2_add_18 : decode cX2_add 18 = .ok (.iload_n 1, 1) := by decide +kernel
theorem dX2_add_19 : decode cX2_add 19 = .ok (.iastore, 1) := by decide +kernel
theorem dX2_add_20 : decode cX2_add 20 = .ok (.aload_n 0, 1) := by decide +kernel
theorem dX2_add_21 : decode cX2_add 21 = .ok (.getfield 18, 3) := by decide +kernel
theorem dX2_add_24 : decode cX2_add 24 = .ok (.aload_n 0, 1) := by decide +kernel
theorem dX2_add_25 : decode cX2_add 25 = .ok (.getfield 25, 3) := by decide +kernel
theorem dX2_add_28 : decode cX2_add 28 = .ok (.iload_n 2, 1) := by decide +kernel
theorem dX2_add_29 : decode cX2_add 29 = .ok (.iastore, 1) := by decide +kernel
theorem dX2_add_30 : decode cX2_add 30 = .ok (.aload_n 0, 1) := by decide +kernel
theorem dX2_add_31 : decode cX2_add 31 = .ok (.dup, 1) := by decide +kernel
theorem dX2_add_32 : decode cX2_add 32 = .ok (.getfield 25, 3) := by decide +kernel
theorem dX2_add_35 : decode cX2_add 35 = .ok (.iconst 1, 1) := by decide +kernel
theorem dX2_add_36 : decode cX2_add 36 = .ok (.iadd, 1) := by decide +kernel
theorem dX2_add_37 : decode cX2_add 37 = .ok (.putfield 25, 3) := by decide +kernel
theorem dX2_add_40 : decode cX2_add 40 = .ok (.return_, 1) := by decide +kernel
theorem dX2_close_0 : decode cX2_close 0 = .ok (.aload_n 0, 1) := by decide +kernel
theorem dX2_close_1 : decode cX2_close 1 = .ok (.getfield 21, 3) := by decide +kernel
theorem dX2_close_4 : decode cX2_close 4 = .ok (.bipush 8, 2) := by decide +kernel
theorem dX2_close_6 : decode cX2_close 6 = .ok (.if_icmp .ge 26, 3) := by decide +kernel
theorem dX2_close_9 : decode cX2_close 9 = .ok (.aload_n 0, 1) := by decide +kernel
theorem dX2_close_10 : decode cX2_close 10 = .ok (.dup, 1) := by decide +kernel
theorem dX2_close_11 : decode cX2_close 11 = .ok (.getfield 21, 3) := by decide +kernel
theorem dX2_close_14 : decode cX2_close 14 = .ok (.iconst 1, 1) := by decide +kernel
theorem dX2_close_15 : decode cX2_close 15 = .ok (.iadd, 1) := by decide +kernel
theorem dX2_close_16 : decode cX2_close 16 = .ok (.putfield 21, 3) := by decide +kernel
theorem dX2_close_19 : decode cX2_close 19 = .ok (.aload_n 0, 1) := by decide +kernel
theorem dX2_close_20 : decode cX2_close 20 = .ok (.getfield 9, 3) := by decide +kernel
theorem dX2_close_23 : decode cX2_close 23 = .ok (.aload_n 0, 1) := by decide +kernel
theorem dX2_close_24 : decode cX2_close 24 = .ok (.getfield 21, 3) := by decide +kernel
theorem dX2_close_27 : decode cX2_close 27 = .ok (.aload_n 0, 1) := by decide +kernel
theorem dX2_close_28 : decode cX2_close 28 = .ok (.getfield 25, 3) := by decide +kernel
theorem dX2_close_31 : decode cX2_close 31 = .ok (.iastore, 1) := by decide +kernel
theorem dX2_close_32 : decode cX2_close 32 = .ok (.return_, 1) := by decide +kernel
theorem dX2_holds_0 : decode cX2_holds 0 = .ok (.lconst 0, 1) := by decide +kernel
theorem dX2_holds_1 : decode cX2_holds 1 = .ok (.lstore 4, 2) := by decide +kernel
theorem dX2_holds_3 : decode cX2_holds 3 = .ok (.aload_n 0, 1) := by decide +kernel
theorem dX2_holds_4 : decode cX2_holds 4 = .ok (.getfield 9, 3) := by decide +kernel
theorem dX2_holds_7 : decode cX2_holds 7 = .ok (.iload_n 1, 1) := by decide +kernel
theorem dX2_holds_8 : decode cX2_holds 8 = .ok (.iaload, 1) := by decide +kernel
theorem dX2_holds_9 : decode cX2_holds 9 = .ok (.istore 6, 2) := by decide +kernel
theorem dX2_holds_11 : decode cX2_holds 11 = .ok (.iload 6, 2) := by decide +kernel
theorem dX2_holds_13 : decode cX2_holds 13 = .ok (.aload_n 0, 1) := by decide +kernel
theorem dX2_holds_14 : decode cX2_holds 14 = .ok (.getfield 9, 3) := by decide +kernel
theorem dX2_holds_17 : decode cX2_holds 17 = .ok (.iload_n 1, 1) := by decide +kernel
theorem dX2_holds_18 : decode cX2_holds 18 = .ok (.iconst 1, 1) := by decide +kernel
theorem dX2_holds_19 : decode cX2_holds 19 = .ok (.iadd, 1) := by decide +kernel
theorem dX2_holds_20 : decode cX2_holds 20 = .ok (.iaload, 1) := by decide +kernel
theorem dX2_holds_21 : decode cX2_holds 21 = .ok (.if_icmp .ge 108, 3) := by decide +kernel
theorem dX2_holds_24 : decode cX2_holds 24 = .ok (.aload_n 0, 1) := by decide +kernel
theorem dX2_holds_25 : decode cX2_holds 25 = .ok (.getfield 15, 3) := by decide +kernel
theorem dX2_holds_28 : decode cX2_holds 28 = .ok (.iload 6, 2) := by decide +kernel
theorem dX2_holds_30 : decode cX2_holds 30 = .ok (.iaload, 1) := by decide +kernel
theorem dX2_holds_31 : decode cX2_holds 31 = .ok (.bipush 6, 2) := by decide +kernel
theorem dX2_holds_33 : decode cX2_holds 33 = .ok (.if_icmp .ne 12, 3) := by decide +kernel
theorem dX2_holds_36 : decode cX2_holds 36 = .ok (.lload 4, 2) := by decide +kernel
theorem dX2_holds_38 : decode cX2_holds 38 = .ok (.lconst 1, 1) := by decide +kernel
theorem dX2_holds_39 : decode cX2_holds 39 = .ok (.lxor, 1) := by decide +kernel
theorem dX2_holds_40 : decode cX2_holds 40 = .ok (.lstore 4, 2) := by decide +kernel
theorem dX2_holds_42 : decode cX2_holds 42 = .ok (.goto 81, 3) := by decide +kernel
theorem dX2_holds_45 : decode cX2_holds 45 = .ok (.aload_n 0, 1) := by decide +kernel
theorem dX2_holds_46 : decode cX2_holds 46 = .ok (.getfield 15, 3) := by decide +kernel
theorem dX2_holds_49 : decode cX2_holds 49 = .ok (.iload 6, 2) := by decide +kernel
theorem dX2_holds_51 : decode cX2_holds 51 = .ok (.iaload, 1) := by decide +kernel
theorem dX2_holds_52 : decode cX2_holds 52 = .ok (.bipush 7, 2) := by decide +kernel
theorem dX2_holds_54 : decode cX2_holds 54 = .ok (.if_icmp .ne 19, 3) := by decide +kernel
theorem dX2_holds_57 : decode cX2_holds 57 = .ok (.lload 4, 2) := by decide +kernel
theorem dX2_holds_59 : decode cX2_holds 59 = .ok (.iconst 1, 1) := by decide +kernel
theorem dX2_holds_60 : decode cX2_holds 60 = .ok (.lshr, 1) := by decide +kernel
theorem dX2_holds_61 : decode cX2_holds 61 = .ok (.lload 4, 2) := by decide +kernel
theorem dX2_holds_63 : decode cX2_holds 63 = .ok (.ldc2_w 34, 3) := by decide +kernel
theorem dX2_holds_66 : decode cX2_holds 66 = .ok (.lor, 1) := by decide +kernel
theorem dX2_holds_67 : decode cX2_holds 67 = .ok (.land, 1) := by decide +kernel
theorem dX2_holds_68 : decode cX2_holds 68 = .ok (.lstore 4, 2) := by decide +kernel
theorem dX2_holds_70 : decode cX2_holds 70 = .ok (.goto 53, 3) := by decide +kernel
theorem dX2_holds_73 : decode cX2_holds 73 = .ok (.aload_n 0, 1) := by decide +kernel
theorem dX2_holds_74 : decode cX2_holds 74 = .ok (.getfield 15, 3) := by decide +kernel
theorem dX2_holds_77 : decode cX2_holds 77 = .ok (.iload 6, 2) := by decide +kernel
theorem dX2_holds_79 : decode cX2_holds 79 = .ok (.iaload, 1) := by decide +kernel
theorem dX2_holds_80 : decode cX2_holds 80 = .ok (.bipush 8, 2) := by decide +kernel
theorem dX2_holds_82 : decode cX2_holds 82 = .ok (.if_icmp .ne 17, 3) := by decide +kernel
theorem dX2_holds_85 : decode cX2_holds 85 = .ok (.lload 4, 2) := by decide +kernel
theorem dX2_holds_87 : decode cX2_holds 87 = .ok (.iconst 1, 1) := by decide +kernel
theorem dX2_holds_88 : decode cX2_holds 88 = .ok (.lshr, 1) := by decide +kernel
theorem dX2_holds_89 : decode cX2_holds 89 = .ok (.lload 4, 2) := by decide +kernel
theorem dX2_holds_91 : decode cX2_holds 91 = .ok (.lconst 1, 1) := by decide +kernel
theorem dX2_holds_92 : decode cX2_holds 92 = .ok (.land, 1) := by decide +kernel
theorem dX2_holds_93 : decode cX2_holds 93 = .ok (.lor, 1) := by decide +kernel
theorem dX2_holds_94 : decode cX2_holds 94 = .ok (.lstore 4, 2) := by decide +kernel
theorem dX2_holds_96 : decode cX2_holds 96 = .ok (.goto 27, 3) := by decide +kernel
theorem dX2_holds_99 : decode cX2_holds 99 = .ok (.lload 4, 2) := by decide +kernel
theorem dX2_holds_101 : decode cX2_holds 101 = .ok (.iconst 1, 1) := by decide +kernel
theorem dX2_holds_102 : decode cX2_holds 102 = .ok (.lshl, 1) := by decide +kernel
theorem dX2_holds_103 : decode cX2_holds 103 = .ok (.aload_n 0, 1) := by decide +kernel
theorem dX2_holds_104 : decode cX2_holds 104 = .ok (.iload 6, 2) := by decide +kernel
theorem dX2_holds_106 : decode cX2_holds 106 = .ok (.aload_n 2, 1) := by decide +kernel
theorem dX2_holds_107 : decode cX2_holds 107 = .ok (.aload_n 3, 1) := by decide +kernel
theorem dX2_holds_108 : decode cX2_holds 108 = .ok (.invokevirtual 36, 3) := by decide +kernel
theorem dX2_holds_111 : decode cX2_holds 111 = .ok (.ifCond .eq 7, 3) := by decide +kernel
theorem dX2_holds_114 : decode cX2_holds 114 = .ok (.iconst 1, 1) := by decide +kernel
theorem dX2_holds_115 : decode cX2_holds 115 = .ok (.goto 4, 3) := by decide +kernel
theorem dX2_holds_118 : decode cX2_holds 118 = .ok (.iconst 0, 1) := by decide +kernel
theorem dX2_holds_119 : decode cX2_holds 119 = .ok (.i2l, 1) := by decide +kernel
theorem dX2_holds_120 : decode cX2_holds 120 = .ok (.lor, 1) := by decide +kernel
theorem dX2_holds_121 : decode cX2_holds 121 = .ok (.lstore 4, 2) := by decide +kernel
theorem dX2_holds_123 : decode cX2_holds 123 = .ok (.iinc 6 1, 3) := by decide +kernel
theorem dX2_holds_126 : decode cX2_holds 126 = .ok (.goto (-115), 3) := by decide +kernel
theorem dX2_holds_129 : decode cX2_holds 129 = .ok (.lload 4, 2) := by decide +kernel
theorem dX2_holds_131 : decode cX2_holds 131 = .ok (.lconst 1, 1) := by decide +kernel
theorem dX2_holds_132 : decode cX2_holds 132 = .ok (.land, 1) := by decide +kernel
theorem dX2_holds_133 : decode cX2_holds 133 = .ok (.lconst 1, 1) := by decide +kernel
theorem dX2_holds_134 : decode cX2_holds 134 = .ok (.lcmp, 1) := by decide +kernel
theorem dX2_holds_135 : decode cX2_holds 135 = .ok (.ifCond .ne 7, 3) := by decide +kernel
theorem dX2_holds_138 : decode cX2_holds 138 = .ok (.iconst 1, 1) := by decide +kernel
theorem dX2_holds_139 : decode cX2_holds 139 = .ok (.goto 4, 3) := by decide +kernel
theorem dX2_holds_142 : decode cX2_holds 142 = .ok (.iconst 0, 1) := by decide +kernel
theorem dX2_holds_143 : decode cX2_holds 143 = .ok (.ireturn, 1) := by decide +kernel
theorem dX2_isFact_0 : decode cX2_isFact 0 = .ok (.aload_n 0, 1) := by decide +kernel
theorem dX2_isFact_1 : decode cX2_isFact 1 = .ok (.getfield 18, 3) := by decide +kernel
theorem dX2_isFact_4 : decode cX2_isFact 4 = .ok (.iload_n 1, 1) := by decide +kernel
theorem dX2_isFact_5 : decode cX2_isFact 5 = .ok (.iaload, 1) := by decide +kernel
theorem dX2_isFact_6 : decode cX2_isFact 6 = .ok (.istore 4, 2) := by decide +kernel
theorem dX2_isFact_8 : decode cX2_isFact 8 = .ok (.aload_n 0, 1) := by decide +kernel
theorem dX2_isFact_9 : decode cX2_isFact 9 = .ok (.getfield 15, 3) := by decide +kernel
theorem dX2_isFact_12 : decode cX2_isFact 12 = .ok (.iload_n 1, 1) := by decide +kernel
theorem dX2_isFact_13 : decode cX2_isFact 13 = .ok (.iaload, 1) := by decide +kernel
theorem dX2_isFact_14 : decode cX2_isFact 14 = .ok (.tableswitch 99 0 4 #[34, 39, 54, 69, 84], 34) := by decide +kernel
theorem dX2_isFact_48 : decode cX2_isFact 48 = .ok (.aload_n 3, 1) := by decide +kernel
theorem dX2_isFact_49 : decode cX2_isFact 49 = .ok (.getfield 40, 3) := by decide +kernel
theorem dX2_isFact_52 : decode cX2_isFact 52 = .ok (.ireturn, 1) := by decide +kernel
theorem dX2_isFact_53 : decode cX2_isFact 53 = .ok (.aload_n 2, 1) := by decide +kernel
theorem dX2_isFact_54 : decode cX2_isFact 54 = .ok (.getfield 46, 3) := by decide +kernel
theorem dX2_isFact_57 : decode cX2_isFact 57 = .ok (.iload 4, 2) := by decide +kernel
theorem dX2_isFact_59 : decode cX2_isFact 59 = .ok (.if_icmp .ne 7, 3) := by decide +kernel
theorem dX2_isFact_62 : decode cX2_isFact 62 = .ok (.iconst 1, 1) := by decide +kernel
theorem dX2_isFact_63 : decode cX2_isFact 63 = .ok (.goto 4, 3) := by decide +kernel
theorem dX2_isFact_66 : decode cX2_isFact 66 = .ok (.iconst 0, 1) := by decide +kernel
theorem dX2_isFact_67 : decode cX2_isFact 67 = .ok (.ireturn, 1) := by decide +kernel
theorem dX2_isFact_68 : decode cX2_isFact 68 = .ok (.aload_n 3, 1) := by decide +kernel
theorem dX2_isFact_69 : decode cX2_isFact 69 = .ok (.getfield 51, 3) := by decide +kernel
theorem dX2_isFact_72 : decode cX2_isFact 72 = .ok (.iload 4, 2) := by decide +kernel
theorem dX2_isFact_74 : decode cX2_isFact 74 = .ok (.if_icmp .ne 7, 3) := by decide +kernel
theorem dX2_isFact_77 : decode cX2_isFact 77 = .ok (.iconst 1, 1) := by decide +kernel
theorem dX2_isFact_78 : decode cX2_isFact 78 = .ok (.goto 4, 3) := by decide +kernel
theorem dX2_isFact_81 : decode cX2_isFact 81 = .ok (.iconst 0, 1) := by decide +kernel
theorem dX2_isFact_82 : decode cX2_isFact 82 = .ok (.ireturn, 1) := by decide +kernel
theorem dX2_isFact_83 : decode cX2_isFact 83 = .ok (.aload_n 2, 1) := by decide +kernel
theorem dX2_isFact_84 : decode cX2_isFact 84 = .ok (.getfield 52, 3) := by decide +kernel
theorem dX2_isFact_87 : decode cX2_isFact 87 = .ok (.iload 4, 2) := by decide +kernel
theorem dX2_isFact_89 : decode cX2_isFact 89 = .ok (.if_icmp .le 7, 3) := by decide +kernel
theorem dX2_isFact_92 : decode cX2_isFact 92 = .ok (.iconst 1, 1) := by decide +kernel
theorem dX2_isFact_93 : decode cX2_isFact 93 = .ok (.goto 4, 3) := by decide +kernel
theorem dX2_isFact_96 : decode cX2_isFact 96 = .ok (.iconst 0, 1) := by decide +kernel
theorem dX2_isFact_97 : decode cX2_isFact 97 = .ok (.ireturn, 1) := by decide +kernel
theorem dX2_isFact_98 : decode cX2_isFact 98 = .ok (.aload_n 2, 1) := by decide +kernel
theorem dX2_isFact_99 : decode cX2_isFact 99 = .ok (.getfield 55, 3) := by decide +kernel
theorem dX2_isFact_102 : decode cX2_isFact 102 = .ok (.iload 4, 2) := by decide +kernel
theorem dX2_isFact_104 : decode cX2_isFact 104 = .ok (.if_icmp .lt 7, 3) := by decide +kernel
theorem dX2_isFact_107 : decode cX2_isFact 107 = .ok (.iconst 1, 1) := by decide +kernel
theorem dX2_isFact_108 : decode cX2_isFact 108 = .ok (.goto 4, 3) := by decide +kernel
theorem dX2_isFact_111 : decode cX2_isFact 111 = .ok (.iconst 0, 1) := by decide +kernel
theorem dX2_isFact_112 : decode cX2_isFact 112 = .ok (.ireturn, 1) := by decide +kernel
theorem dX2_isFact_113 : decode cX2_isFact 113 = .ok (.aload_n 2, 1) := by decide +kernel
theorem dX2_isFact_114 : decode cX2_isFact 114 = .ok (.getfield 58, 3) := by decide +kernel
theorem dX2_isFact_117 : decode cX2_isFact 117 = .ok (.iload 4, 2) := by decide +kernel
theorem dX2_isFact_119 : decode cX2_isFact 119 = .ok (.if_icmp .ne 7, 3) := by decide +kernel
theorem dX2_isFact_122 : decode cX2_isFact 122 = .ok (.iconst 1, 1) := by decide +kernel
theorem dX2_isFact_123 : decode cX2_isFact 123 = .ok (.goto 4, 3) := by decide +kernel
theorem dX2_isFact_126 : decode cX2_isFact 126 = .ok (.iconst 0, 1) := by decide +kernel
theorem dX2_isFact_127 : decode cX2_isFact 127 = .ok (.ireturn, 1) := by decide +kernel
theorem dX3_init_0 : decode cX3_init 0 = .ok (.aload_n 0, 1) := by decide +kernel
theorem dX3_init_1 : decode cX3_init 1 = .ok (.invokespecial 1, 3) := by decide +kernel
theorem dX3_init_4 : decode cX3_init 4 = .ok (.return_, 1) := by decide +kernel
theorem dX3_copyFrom_0 : decode cX3_copyFrom 0 = .ok (.aload_n 0, 1) := by decide +kernel
theorem dX3_copyFrom_1 : decode cX3_copyFrom 1 = .ok (.aload_n 1, 1) := by decide +kernel
theorem dX3_copyFrom_2 : decode cX3_copyFrom 2 = .ok (.getfield 7, 3) := by decide +kernel
theorem dX3_copyFrom_5 : decode cX3_copyFrom 5 = .ok (.putfield 7, 3) := by decide +kernel
theorem dX3_copyFrom_8 : decode cX3_copyFrom 8 = .ok (.aload_n 0, 1) := by decide +kernel
theorem dX3_copyFrom_9 : decode cX3_copyFrom 9 = .ok (.aload_n 1, 1) := by decide +kernel
theorem dX3_copyFrom_10 : decode cX3_copyFrom 10 = .ok (.getfield 13, 3) := by decide +kernel
theorem dX3_copyFrom_13 : decode cX3_copyFrom 13 = .ok (.putfield 13, 3) := by decide +kernel
theorem dX3_copyFrom_16 : decode cX3_copyFrom 16 = .ok (.aload_n 0, 1) := by decide +kernel
theorem dX3_copyFrom_17 : decode cX3_copyFrom 17 = .ok (.aload_n 1, 1) := by decide +kernel
theorem dX3_copyFrom_18 : decode cX3_copyFrom 18 = .ok (.getfield 16, 3) := by decide +kernel
theorem dX3_copyFrom_21 : decode cX3_copyFrom 21 = .ok (.putfield 16, 3) := by decide +kernel
theorem dX3_copyFrom_24 : decode cX3_copyFrom 24 = .ok (.aload_n 0, 1) := by decide +kernel
theorem dX3_copyFrom_25 : decode cX3_copyFrom 25 = .ok (.aload_n 1, 1) := by decide +kernel
theorem dX3_copyFrom_26 : decode cX3_copyFrom 26 = .ok (.getfield 19, 3) := by decide +kernel
theorem dX3_copyFrom_29 : decode cX3_copyFrom 29 = .ok (.putfield 19, 3) := by decide +kernel
theorem dX3_copyFrom_32 : decode cX3_copyFrom 32 = .ok (.aload_n 0, 1) := by decide +kernel
theorem dX3_copyFrom_33 : decode cX3_copyFrom 33 = .ok (.aload_n 1, 1) := by decide +kernel
theorem dX3_copyFrom_34 : decode cX3_copyFrom 34 = .ok (.getfield 22, 3) := by decide +kernel
theorem dX3_copyFrom_37 : decode cX3_copyFrom 37 = .ok (.putfield 22, 3) := by decide +kernel
theorem dX3_copyFrom_40 : decode cX3_copyFrom 40 = .ok (.return_, 1) := by decide +kernel
theorem dX5_init_0 : decode cX5_init 0 = .ok (.aload_n 0, 1) := by decide +kernel
theorem dX5_init_1 : decode cX5_init 1 = .ok (.invokespecial 3, 3) := by decide +kernel
theorem dX5_init_4 : decode cX5_init 4 = .ok (.return_, 1) := by decide +kernel
theorem dX5_begin_0 : decode cX5_begin 0 = .ok (.aload_n 0, 1) := by decide +kernel
theorem dX5_begin_1 : decode cX5_begin 1 = .ok (.iload_n 1, 1) := by decide +kernel
theorem dX5_begin_2 : decode cX5_begin 2 = .ok (.putfield 9, 3) := by decide +kernel
theorem dX5_begin_5 : decode cX5_begin 5 = .ok (.aload_n 0, 1) := by decide +kernel
theorem dX5_begin_6 : decode cX5_begin 6 = .ok (.iload_n 2, 1) := by decide +kernel
theorem dX5_begin_7 : decode cX5_begin 7 = .ok (.putfield 15, 3) := by decide +kernel
theorem dX5_begin_10 : decode cX5_begin 10 = .ok (.aload_n 0, 1) := by decide +kernel
theorem dX5_begin_11 : decode cX5_begin 11 = .ok (.iload_n 3, 1) := by decide +kernel
theorem dX5_begin_12 : decode cX5_begin 12 = .ok (.putfield 18, 3) := by decide +kernel
theorem dX5_begin_15 : decode cX5_begin 15 = .ok (.aload_n 0, 1) := by decide +kernel
theorem dX5_begin_16 : decode cX5_begin 16 = .ok (.iload 4, 2) := by decide +kernel
theorem dX5_begin_18 : decode cX5_begin 18 = .ok (.putfield 21, 3) := by decide +kernel
theorem dX5_begin_21 : decode cX5_begin 21 = .ok (.aload_n 0, 1) := by decide +kernel
theorem dX5_begin_22 : decode cX5_begin 22 = .ok (.iload 4, 2) := by decide +kernel
theorem dX5_begin_24 : decode cX5_begin 24 = .ok (.putfield 24, 3) := by decide +kernel
theorem dX5_begin_27 : decode cX5_begin 27 = .ok (.aload_n 0, 1) := by decide +kernel
theorem dX5_begin_28 : decode cX5_begin 28 = .ok (.iconst (-1), 1) := by decide +kernel
theorem dX5_begin_29 : decode cX5_begin 29 = .ok (.putfield 27, 3) := by decide +kernel
theorem dX5_begin_32 : decode cX5_begin 32 = .ok (.aload_n 0, 1) := by decide +kernel
theorem dX5_begin_33 : decode cX5_begin 33 = .ok (.iconst 0, 1) := by decide +kernel
theorem dX5_begin_34 : decode cX5_begin 34 = .ok (.putfield 30, 3) := by decide +kernel
theorem dX5_begin_37 : decode cX5_begin 37 = .ok (.aload_n 0, 1) := by decide +kernel
theorem dX5_begin_38 : decode cX5_begin 38 = .ok (.iconst 0, 1) := by decide +kernel
theorem dX5_begin_39 : decode cX5_begin 39 = .ok (.putfield 33, 3) := by decide +kernel
theorem dX5_begin_42 : decode cX5_begin 42 = .ok (.aload_n 0, 1) := by decide +kernel
theorem dX5_begin_43 : decode cX5_begin 43 = .ok (.iconst (-1), 1) := by decide +kernel
theorem dX5_begin_44 : decode cX5_begin 44 = .ok (.putfield 36, 3) := by decide +kernel
theorem dX5_begin_47 : decode cX5_begin 47 = .ok (.aload_n 0, 1) := by decide +kernel
theorem dX5_begin_48 : decode cX5_begin 48 = .ok (.iconst (-1), 1) := by decide +kernel
theorem dX5_begin_49 : decode cX5_begin 49 = .ok (.putfield 39, 3) := by decide +kernel
theorem dX5_begin_52 : decode cX5_begin 52 = .ok (.aload_n 0, 1) := by decide +kernel
theorem dX5_begin_53 : decode cX5_begin 53 = .ok (.iconst 0, 1) := by decide +kernel
theorem dX5_begin_54 : decode cX5_begin 54 = .ok (.putfield 42, 3) := by decide +kernel
theorem dX5_begin_57 : decode cX5_begin 57 = .ok (.aload_n 0, 1) := by decide +kernel
theorem dX5_begin_58 : decode cX5_begin 58 = .ok (.iconst 0, 1) := by decide +kernel
theorem dX5_begin_59 : decode cX5_begin 59 = .ok (.putfield 45, 3) := by decide +kernel
theorem dX5_begin_62 : decode cX5_begin 62 = .ok (.aload_n 0, 1) := by decide +kernel
theorem dX5_begin_63 : decode cX5_begin 63 = .ok (.iconst 0, 1) := by decide +kernel
theorem dX5_begin_64 : decode cX5_begin 64 = .ok (.putfield 48, 3) := by decide +kernel
theorem dX5_begin_67 : decode cX5_begin 67 = .ok (.return_, 1) := by decide +kernel
theorem dX5_copyFrom_0 : decode cX5_copyFrom 0 = .ok (.aload_n 0, 1) := by decide +kernel
theorem dX5_copyFrom_1 : decode cX5_copyFrom 1 = .ok (.aload_n 1, 1) := by decide +kernel
theorem dX5_copyFrom_2 : decode cX5_copyFrom 2 = .ok (.getfield 9, 3) := by decide +kernel
theorem dX5_copyFrom_5 : decode cX5_copyFrom 5 = .ok (.putfield 9, 3) := by decide +kernel
theorem dX5_copyFrom_8 : decode cX5_copyFrom 8 = .ok (.aload_n 0, 1) := by decide +kernel
theorem dX5_copyFrom_9 : decode cX5_copyFrom 9 = .ok (.aload_n 1, 1) := by decide +kernel
theorem dX5_copyFrom_10 : decode cX5_copyFrom 10 = .ok (.getfield 15, 3) := by decide +kernel
theorem dX5_copyFrom_13 : decode cX5_copyFrom 13 = .ok (.putfield 15, 3) := by decide +kernel
theorem dX5_copyFrom_16 : decode cX5_copyFrom 16 = .ok (.aload_n 0, 1) := by decide +kernel
theorem dX5_copyFrom_17 : decode cX5_copyFrom 17 = .ok (.aload_n 1, 1) := by decide +kernel
theorem dX5_copyFrom_18 : decode cX5_copyFrom 18 = .ok (.getfield 18, 3) := by decide +kernel
theorem dX5_copyFrom_21 : decode cX5_copyFrom 21 = .ok (.putfield 18, 3) := by decide +kernel
theorem dX5_copyFrom_24 : decode cX5_copyFrom 24 = .ok (.aload_n 0, 1) := by decide +kernel
theorem dX5_copyFrom_25 : decode cX5_copyFrom 25 = .ok (.aload_n 1, 1) := by decide +kernel
theorem dX5_copyFrom_26 : decode cX5_copyFrom 26 = .ok (.getfield 21, 3) := by decide +kernel
theorem dX5_copyFrom_29 : decode cX5_copyFrom 29 = .ok (.putfield 21, 3) := by decide +kernel
theorem dX5_copyFrom_32 : decode cX5_copyFrom 32 = .ok (.aload_n 0, 1) := by decide +kernel
theorem dX5_copyFrom_33 : decode cX5_copyFrom 33 = .ok (.aload_n 1, 1) := by decide +kernel
theorem dX5_copyFrom_34 : decode cX5_copyFrom 34 = .ok (.getfield 24, 3) := by decide +kernel
theorem dX5_copyFrom_37 : decode cX5_copyFrom 37 = .ok (.putfield 24, 3) := by decide +kernel
theorem dX5_copyFrom_40 : decode cX5_copyFrom 40 = .ok (.aload_n 0, 1) := by decide +kernel
theorem dX5_copyFrom_41 : decode cX5_copyFrom 41 = .ok (.aload_n 1, 1) := by decide +kernel
theorem dX5_copyFrom_42 : decode cX5_copyFrom 42 = .ok (.getfield 27, 3) := by decide +kernel
theorem dX5_copyFrom_45 : decode cX5_copyFrom 45 = .ok (.putfield 27, 3) := by decide +kernel
theorem dX5_copyFrom_48 : decode cX5_copyFrom 48 = .ok (.aload_n 0, 1) := by decide +kernel
theorem dX5_copyFrom_49 : decode cX5_copyFrom 49 = .ok (.aload_n 1, 1) := by decide +kernel
theorem dX5_copyFrom_50 : decode cX5_copyFrom 50 = .ok (.getfield 30, 3) := by decide +kernel
theorem dX5_copyFrom_53 : decode cX5_copyFrom 53 = .ok (.putfield 30, 3) := by decide +kernel
theorem dX5_copyFrom_56 : decode cX5_copyFrom 56 = .ok (.aload_n 0, 1) := by decide +kernel
theorem dX5_copyFrom_57 : decode cX5_copyFrom 57 = .ok (.aload_n 1, 1) := by decide +kernel
theorem dX5_copyFrom_58 : decode cX5_copyFrom 58 = .ok (.getfield 33, 3) := by decide +kernel
theorem dX5_copyFrom_61 : decode cX5_copyFrom 61 = .ok (.putfield 33, 3) := by decide +kernel
theorem dX5_copyFrom_64 : decode cX5_copyFrom 64 = .ok (.aload_n 0, 1) := by decide +kernel
theorem dX5_copyFrom_65 : decode cX5_copyFrom 65 = .ok (.aload_n 1, 1) := by decide +kernel
theorem dX5_copyFrom_66 : decode cX5_copyFrom 66 = .ok (.getfield 36, 3) := by decide +kernel
theorem dX5_copyFrom_69 : decode cX5_copyFrom 69 = .ok (.putfield 36, 3) := by decide +kernel
theorem dX5_copyFrom_72 : decode cX5_copyFrom 72 = .ok (.aload_n 0, 1) := by decide +kernel
theorem dX5_copyFrom_73 : decode cX5_copyFrom 73 = .ok (.aload_n 1, 1) := by decide +kernel
theorem dX5_copyFrom_74 : decode cX5_copyFrom 74 = .ok (.getfield 39, 3) := by decide +kernel
theorem dX5_copyFrom_77 : decode cX5_copyFrom 77 = .ok (.putfield 39, 3) := by decide +kernel
theorem dX5_copyFrom_80 : decode cX5_copyFrom 80 = .ok (.aload_n 0, 1) := by decide +kernel
theorem dX5_copyFrom_81 : decode cX5_copyFrom 81 = .ok (.aload_n 1, 1) := by decide +kernel
theorem dX5_copyFrom_82 : decode cX5_copyFrom 82 = .ok (.getfield 42, 3) := by decide +kernel
theorem dX5_copyFrom_85 : decode cX5_copyFrom 85 = .ok (.putfield 42, 3) := by decide +kernel
theorem dX5_copyFrom_88 : decode cX5_copyFrom 88 = .ok (.aload_n 0, 1) := by decide +kernel
theorem dX5_copyFrom_89 : decode cX5_copyFrom 89 = .ok (.aload_n 1, 1) := by decide +kernel
theorem dX5_copyFrom_90 : decode cX5_copyFrom 90 = .ok (.getfield 45, 3) := by decide +kernel
theorem dX5_copyFrom_93 : decode cX5_copyFrom 93 = .ok (.putfield 45, 3) := by decide +kernel
theorem dX5_copyFrom_96 : decode cX5_copyFrom 96 = .ok (.aload_n 0, 1) := by decide +kernel
theorem dX5_copyFrom_97 : decode cX5_copyFrom 97 = .ok (.aload_n 1, 1) := by decide +kernel
theorem dX5_copyFrom_98 : decode cX5_copyFrom 98 = .ok (.getfield 48, 3) := by decide +kernel
theorem dX5_copyFrom_101 : decode cX5_copyFrom 101 = .ok (.putfield 48, 3) := by decide +kernel
theorem dX5_copyFrom_104 : decode cX5_copyFrom 104 = .ok (.return_, 1) := by decide +kernel
theorem dX6_init_0 : decode cX6_init 0 = .ok (.aload_n 0, 1) := by decide +kernel
theorem dX6_init_1 : decode cX6_init 1 = .ok (.invokespecial 3, 3) := by decide +kernel
theorem dX6_init_4 : decode cX6_init 4 = .ok (.aload_n 0, 1) := by decide +kernel
theorem dX6_init_5 : decode cX6_init 5 = .ok (.new 9, 3) := by decide +kernel
theorem dX6_init_8 : decode cX6_init 8 = .ok (.dup, 1) := by decide +kernel
theorem dX6_init_9 : decode cX6_init 9 = .ok (.invokespecial 11, 3) := by decide +kernel
theorem dX6_init_12 : decode cX6_init 12 = .ok (.putfield 12, 3) := by decide +kernel
theorem dX6_init_15 : decode cX6_init 15 = .ok (.aload_n 0, 1) := by decide +kernel
theorem dX6_init_16 : decode cX6_init 16 = .ok (.new 18, 3) := by decide +kernel
theorem dX6_init_19 : decode cX6_init 19 = .ok (.dup, 1) := by decide +kernel
theorem dX6_init_20 : decode cX6_init 20 = .ok (.invokespecial 20, 3) := by decide +kernel
theorem dX6_init_23 : decode cX6_init 23 = .ok (.putfield 21, 3) := by decide +kernel
theorem dX6_init_26 : decode cX6_init 26 = .ok (.aload_n 0, 1) := by decide +kernel
theorem dX6_init_27 : decode cX6_init 27 = .ok (.new 25, 3) := by decide +kernel
theorem dX6_init_30 : decode cX6_init 30 = .ok (.dup, 1) := by decide +kernel
theorem dX6_init_31 : decode cX6_init 31 = .ok (.invokespecial 27, 3) := by decide +kernel
theorem dX6_init_34 : decode cX6_init 34 = .ok (.putfield 28, 3) := by decide +kernel
theorem dX6_init_37 : decode cX6_init 37 = .ok (.aload_n 0, 1) := by decide +kernel
theorem dX6_init_38 : decode cX6_init 38 = .ok (.iconst 0, 1) := by decide +kernel
theorem dX6_init_39 : decode cX6_init 39 = .ok (.putfield 32, 3) := by decide +kernel
theorem dX6_init_42 : decode cX6_init 42 = .ok (.aload_n 0, 1) := by decide +kernel
theorem dX6_init_43 : decode cX6_init 43 = .ok (.iconst 0, 1) := by decide +kernel
theorem dX6_init_44 : decode cX6_init 44 = .ok (.putfield 36, 3) := by decide +kernel
theorem dX6_init_47 : decode cX6_init 47 = .ok (.aload_n 0, 1) := by decide +kernel
theorem dX6_init_48 : decode cX6_init 48 = .ok (.iconst (-1), 1) := by decide +kernel
theorem dX6_init_49 : decode cX6_init 49 = .ok (.putfield 39, 3) := by decide +kernel
theorem dX6_init_52 : decode cX6_init 52 = .ok (.return_, 1) := by decide +kernel
theorem dX6_begin_0 : decode cX6_begin 0 = .ok (.aload_n 0, 1) := by decide +kernel
theorem dX6_begin_1 : decode cX6_begin 1 = .ok (.iconst 0, 1) := by decide +kernel
theorem dX6_begin_2 : decode cX6_begin 2 = .ok (.putfield 36, 3) := by decide +kernel
theorem dX6_begin_5 : decode cX6_begin 5 = .ok (.aload_n 0, 1) := by decide +kernel
theorem dX6_begin_6 : decode cX6_begin 6 = .ok (.iconst (-1), 1) := by decide +kernel
theorem dX6_begin_7 : decode cX6_begin 7 = .ok (.putfield 39, 3) := by decide +kernel
theorem dX6_begin_10 : decode cX6_begin 10 = .ok (.aload_n 0, 1) := by decide +kernel
theorem dX6_begin_11 : decode cX6_begin 11 = .ok (.getfield 12, 3) := by decide +kernel
theorem dX6_begin_14 : decode cX6_begin 14 = .ok (.iload_n 1, 1) := by decide +kernel
theorem dX6_begin_15 : decode cX6_begin 15 = .ok (.invokevirtual 42, 3) := by decide +kernel
theorem dX6_begin_18 : decode cX6_begin 18 = .ok (.return_, 1) := by decide +kernel
theorem dX6_readLaw_0 : decode cX6_readLaw 0 = .ok (.aload_n 0, 1) := by decide +kernel
theorem dX6_readLaw_1 : decode cX6_readLaw 1 = .ok (.iload_n 1, 1) := by decide +kernel
theorem dX6_readLaw_2 : decode cX6_readLaw 2 = .ok (.invokevirtual 46, 3) := by decide +kernel
theorem dX6_readLaw_5 : decode cX6_readLaw 5 = .ok (.aload_n 0, 1) := by decide +kernel
theorem dX6_readLaw_6 : decode cX6_readLaw 6 = .ok (.getfield 21, 3) := by decide +kernel
theorem dX6_readLaw_9 : decode cX6_readLaw 9 = .ok (.invokevirtual 47, 3) := by decide +kernel
theorem dX6_readLaw_12 : decode cX6_readLaw 12 = .ok (.aload_n 0, 1) := by decide +kernel
theorem dX6_readLaw_13 : decode cX6_readLaw 13 = .ok (.iconst 0, 1) := by decide +kernel
theorem dX6_readLaw_14 : decode cX6_readLaw 14 = .ok (.putfield 32, 3) := by decide +kernel
theorem dX6_readLaw_17 : decode cX6_readLaw 17 = .ok (.iconst 0, 1) := by decide +kernel
theorem dX6_readLaw_18 : decode cX6_readLaw 18 = .ok (.istore_n 2, 1) := by decide +kernel
theorem dX6_readLaw_19 : decode cX6_readLaw 19 = .ok (.iload_n 2, 1) := by decide +kernel
theorem dX6_readLaw_20 : decode cX6_readLaw 20 = .ok (.iload_n 1, 1) := by decide +kernel
theorem dX6_readLaw_21 : decode cX6_readLaw 21 = .ok (.if_icmp .ge 75, 3) := by decide +kernel
theorem dX6_readLaw_24 : decode cX6_readLaw 24 = .ok (.aload_n 0, 1) := by decide +kernel
theorem dX6_readLaw_25 : decode cX6_readLaw 25 = .ok (.getfield 36, 3) := by decide +kernel
theorem dX6_readLaw_28 : decode cX6_readLaw 28 = .ok (.ifCond .ne 68, 3) := by decide +kernel
theorem dX6_readLaw_31 : decode cX6_readLaw 31 = .ok (.aload_n 0, 1) := by decide +kernel
theorem dX6_readLaw_32 : decode cX6_readLaw 32 = .ok (.getfield 12, 3) := by decide +kernel
theorem dX6_readLaw_35 : decode cX6_readLaw 35 = .ok (.getfield 50, 3) := by decide +kernel
theorem dX6_readLaw_38 : decode cX6_readLaw 38 = .ok (.ifCond .eq 58, 3) := by decide +kernel
theorem dX6_readLaw_41 : decode cX6_readLaw 41 = .ok (.aload_n 0, 1) := by decide +kernel
theorem dX6_readLaw_42 : decode cX6_readLaw 42 = .ok (.getfield 12, 3) := by decide +kernel
theorem dX6_readLaw_45 : decode cX6_readLaw 45 = .ok (.ldc 53, 2) := by decide +kernel
theorem dX6_readLaw_47 : decode cX6_readLaw 47 = .ok (.invokevirtual 55, 3) := by decide +kernel
theorem dX6_readLaw_50 : decode cX6_readLaw 50 = .ok (.ifCond .eq 10, 3) := by decide +kernel
theorem dX6_readLaw_53 : decode cX6_readLaw 53 = .ok (.aload_n 0, 1) := by decide +kernel
theorem dX6_readLaw_54 : decode cX6_readLaw 54 = .ok (.invokevirtual 59, 3) := by decide +kernel
theorem dX6_readLaw_57 : decode cX6_readLaw 57 = .ok (.goto 7, 3) := by decide +kernel
theorem dX6_readLaw_60 : decode cX6_readLaw 60 = .ok (.aload_n 0, 1) := by decide +kernel
theorem dX6_readLaw_61 : decode cX6_readLaw 61 = .ok (.invokevirtual 62, 3) := by decide +kernel
theorem dX6_readLaw_64 : decode cX6_readLaw 64 = .ok (.aload_n 0, 1) := by decide +kernel
theorem dX6_readLaw_65 : decode cX6_readLaw 65 = .ok (.aload_n 0, 1) := by decide +kernel
theorem dX6_readLaw_66 : decode cX6_readLaw 66 = .ok (.getfield 12, 3) := by decide +kernel
theorem dX6_readLaw_69 : decode cX6_readLaw 69 = .ok (.bipush 59, 2) := by decide +kernel
theorem dX6_readLaw_71 : decode cX6_readLaw 71 = .ok (.invokevirtual 65, 3) := by decide +kernel
theorem dX6_readLaw_74 : decode cX6_readLaw 74 = .ok (.invokevirtual 69, 3) := by decide +kernel
theorem dX6_readLaw_77 : decode cX6_readLaw 77 = .ok (.aload_n 0, 1) := by decide +kernel
theorem dX6_readLaw_78 : decode cX6_readLaw 78 = .ok (.getfield 21, 3) := by decide +kernel
theorem dX6_readLaw_81 : decode cX6_readLaw 81 = .ok (.dup, 1) := by decide +kernel
theorem dX6_readLaw_82 : decode cX6_readLaw 82 = .ok (.getfield 73, 3) := by decide +kernel
theorem dX6_readLaw_85 : decode cX6_readLaw 85 = .ok (.iconst 1, 1) := by decide +kernel
theorem dX6_readLaw_86 : decode cX6_readLaw 86 = .ok (.iadd, 1) := by decide +kernel
theorem dX6_readLaw_87 : decode cX6_readLaw 87 = .ok (.putfield 73, 3) := by decide +kernel
theorem dX6_readLaw_90 : decode cX6_readLaw 90 = .ok (.iinc 2 1, 3) := by decide +kernel
theorem dX6_readLaw_93 : decode cX6_readLaw 93 = .ok (.goto (-74), 3) := by decide +kernel
theorem dX6_readLaw_96 : decode cX6_readLaw 96 = .ok (.aload_n 0, 1) := by decide +kernel
theorem dX6_readLaw_97 : decode cX6_readLaw 97 = .ok (.getfield 36, 3) := by decide +kernel
theorem dX6_readLaw_100 : decode cX6_readLaw 100 = .ok (.ifCond .ne 7, 3) := by decide +kernel
theorem dX6_readLaw_103 : decode cX6_readLaw 103 = .ok (.iconst 1, 1) := by decide +kernel
theorem dX6_readLaw_104 : decode cX6_readLaw 104 = .ok (.goto 4, 3) := by decide +kernel
theorem dX6_readLaw_107 : decode cX6_readLaw 107 = .ok (.iconst 0, 1) := by decide +kernel
theorem dX6_readLaw_108 : decode cX6_readLaw 108 = .ok (.ireturn, 1) := by decide +kernel
theorem dX6_readUpto_0 : decode cX6_readUpto 0 = .ok (.aload_n 0, 1) := by decide +kernel
theorem dX6_readUpto_1 : decode cX6_readUpto 1 = .ok (.getfield 21, 3) := by decide +kernel
theorem dX6_readUpto_4 : decode cX6_readUpto 4 = .ok (.getfield 76, 3) := by decide +kernel
theorem dX6_readUpto_7 : decode cX6_readUpto 7 = .ok (.istore_n 1, 1) := by decide +kernel
theorem dX6_readUpto_8 : decode cX6_readUpto 8 = .ok (.iload_n 1, 1) := by decide +kernel
theorem dX6_readUpto_9 : decode cX6_readUpto 9 = .ok (.bipush 8, 2) := by decide +kernel
theorem dX6_readUpto_11 : decode cX6_readUpto 11 = .ok (.if_icmp .lt 9, 3) := by decide +kernel
theorem dX6_readUpto_14 : decode cX6_readUpto 14 = .ok (.aload_n 0, 1) := by decide +kernel
theorem dX6_readUpto_15 : decode cX6_readUpto 15 = .ok (.iconst 4, 1) := by decide +kernel
theorem dX6_readUpto_16 : decode cX6_readUpto 16 = .ok (.invokevirtual 79, 3) := by decide +kernel
theorem dX6_readUpto_19 : decode cX6_readUpto 19 = .ok (.return_, 1) := by decide +kernel
theorem dX6_readUpto_20 : decode cX6_readUpto 20 = .ok (.aload_n 0, 1) := by decide +kernel
theorem dX6_readUpto_21 : decode cX6_readUpto 21 = .ok (.getfield 12, 3) := by decide +kernel
theorem dX6_readUpto_24 : decode cX6_readUpto 24 = .ok (.invokevirtual 82, 3) := by decide +kernel
theorem dX6_readUpto_27 : decode cX6_readUpto 27 = .ok (.aload_n 0, 1) := by decide +kernel
theorem dX6_readUpto_28 : decode cX6_readUpto 28 = .ok (.getfield 21, 3) := by decide +kernel
theorem dX6_readUpto_31 : decode cX6_readUpto 31 = .ok (.getfield 85, 3) := by decide +kernel
theorem dX6_readUpto_34 : decode cX6_readUpto 34 = .ok (.iload_n 1, 1) := by decide +kernel
theorem dX6_readUpto_35 : decode cX6_readUpto 35 = .ok (.aload_n 0, 1) := by decide +kernel
theorem dX6_readUpto_36 : decode cX6_readUpto 36 = .ok (.aload_n 0, 1) := by decide +kernel
theorem dX6_readUpto_37 : decode cX6_readUpto 37 = .ok (.getfield 21, 3) := by decide +kernel
theorem dX6_readUpto_40 : decode cX6_readUpto 40 = .ok (.invokevirtual 88, 3) := by decide +kernel
theorem dX6_readUpto_43 : decode cX6_readUpto 43 = .ok (.iconst 1, 1) := by decide +kernel
theorem dX6_readUpto_44 : decode cX6_readUpto 44 = .ok (.iadd, 1) := by decide +kernel
theorem dX6_readUpto_45 : decode cX6_readUpto 45 = .ok (.sipush 999, 3) := by decide +kernel
theorem dX6_readUpto_48 : decode cX6_readUpto 48 = .ok (.invokevirtual 92, 3) := by decide +kernel
theorem dX6_readUpto_51 : decode cX6_readUpto 51 = .ok (.iastore, 1) := by decide +kernel
theorem dX6_readUpto_52 : decode cX6_readUpto 52 = .ok (.aload_n 0, 1) := by decide +kernel
theorem dX6_readUpto_53 : decode cX6_readUpto 53 = .ok (.aload_n 0, 1) := by decide +kernel
theorem dX6_readUpto_54 : decode cX6_readUpto 54 = .ok (.getfield 12, 3) := by decide +kernel
theorem dX6_readUpto_57 : decode cX6_readUpto 57 = .ok (.ldc 96, 2) := by decide +kernel
theorem dX6_readUpto_59 : decode cX6_readUpto 59 = .ok (.invokevirtual 55, 3) := by decide +kernel
theorem dX6_readUpto_62 : decode cX6_readUpto 62 = .ok (.invokevirtual 69, 3) := by decide +kernel
theorem dX6_readUpto_65 : decode cX6_readUpto 65 = .ok (.aload_n 0, 1) := by decide +kernel
theorem dX6_readUpto_66 : decode cX6_readUpto 66 = .ok (.getfield 21, 3) := by decide +kernel
theorem dX6_readUpto_69 : decode cX6_readUpto 69 = .ok (.getfield 98, 3) := by decide +kernel
theorem dX6_readUpto_72 : decode cX6_readUpto 72 = .ok (.iload_n 1, 1) := by decide +kernel
theorem dX6_readUpto_73 : decode cX6_readUpto 73 = .ok (.aload_n 0, 1) := by decide +kernel
theorem dX6_readUpto_74 : decode cX6_readUpto 74 = .ok (.iconst 0, 1) := by decide +kernel
theorem dX6_readUpto_75 : decode cX6_readUpto 75 = .ok (.bipush 99, 2) := by decide +kernel
theorem dX6_readUpto_77 : decode cX6_readUpto 77 = .ok (.invokevirtual 92, 3) := by decide +kernel
theorem dX6_readUpto_80 : decode cX6_readUpto 80 = .ok (.iastore, 1) := by decide +kernel
theorem dX6_readUpto_81 : decode cX6_readUpto 81 = .ok (.aload_n 0, 1) := by decide +kernel
theorem dX6_readUpto_82 : decode cX6_readUpto 82 = .ok (.aload_n 0, 1) := by decide +kernel
theorem dX6_readUpto_83 : decode cX6_readUpto 83 = .ok (.getfield 12, 3) := by decide +kernel
theorem dX6_readUpto_86 : decode cX6_readUpto 86 = .ok (.ldc 100, 2) := by decide +kernel
theorem dX6_readUpto_88 : decode cX6_readUpto 88 = .ok (.invokevirtual 55, 3) := by decide +kernel
theorem dX6_readUpto_91 : decode cX6_readUpto 91 = .ok (.invokevirtual 69, 3) := by decide +kernel
theorem dX6_readUpto_94 : decode cX6_readUpto 94 = .ok (.aload_n 0, 1) := by decide +kernel
theorem dX6_readUpto_95 : decode cX6_readUpto 95 = .ok (.getfield 21, 3) := by decide +kernel
theorem dX6_readUpto_98 : decode cX6_readUpto 98 = .ok (.getfield 102, 3) := by decide +kernel
theorem dX6_readUpto_101 : decode cX6_readUpto 101 = .ok (.iload_n 1, 1) := by decide +kernel
theorem dX6_readUpto_102 : decode cX6_readUpto 102 = .ok (.aload_n 0, 1) := by decide +kernel
theorem dX6_readUpto_103 : decode cX6_readUpto 103 = .ok (.iconst 1, 1) := by decide +kernel
theorem dX6_readUpto_104 : decode cX6_readUpto 104 = .ok (.sipush 999, 3) := by decide +kernel
theorem dX6_readUpto_107 : decode cX6_readUpto 107 = .ok (.invokevirtual 92, 3) := by decide +kernel
theorem dX6_readUpto_110 : decode cX6_readUpto 110 = .ok (.iastore, 1) := by decide +kernel
theorem dX6_readUpto_111 : decode cX6_readUpto 111 = .ok (.aload_n 0, 1) := by decide +kernel
theorem dX6_readUpto_112 : decode cX6_readUpto 112 = .ok (.getfield 21, 3) := by decide +kernel
theorem dX6_readUpto_115 : decode cX6_readUpto 115 = .ok (.dup, 1) := by decide +kernel
theorem dX6_readUpto_116 : decode cX6_readUpto 116 = .ok (.getfield 76, 3) := by decide +kernel
theorem dX6_readUpto_119 : decode cX6_readUpto 119 = .ok (.iconst 1, 1) := by decide +kernel
theorem dX6_readUpto_120 : decode cX6_readUpto 120 = .ok (.iadd, 1) := by decide +kernel
theorem dX6_readUpto_121 : decode cX6_readUpto 121 = .ok (.putfield 76, 3) := by decide +kernel
theorem dX6_readUpto_124 : decode cX6_readUpto 124 = .ok (.return_, 1) := by decide +kernel
theorem dX6_readRule_0 : decode cX6_readRule 0 = .ok (.aload_n 0, 1) := by decide +kernel
theorem dX6_readRule_1 : decode cX6_readRule 1 = .ok (.invokevirtual 104, 3) := by decide +kernel
theorem dX6_readRule_4 : decode cX6_readRule 4 = .ok (.istore_n 1, 1) := by decide +kernel
theorem dX6_readRule_5 : decode cX6_readRule 5 = .ok (.iload_n 1, 1) := by decide +kernel
theorem dX6_readRule_6 : decode cX6_readRule 6 = .ok (.iconst (-1), 1) := by decide +kernel
theorem dX6_readRule_7 : decode cX6_readRule 7 = .ok (.if_icmp .ne 9, 3) := by decide +kernel
theorem dX6_readRule_10 : decode cX6_readRule 10 = .ok (.aload_n 0, 1) := by decide +kernel
theorem dX6_readRule_11 : decode cX6_readRule 11 = .ok (.iconst 2, 1) := by decide +kernel
theorem dX6_readRule_12 : decode cX6_readRule 12 = .ok (.invokevirtual 79, 3) := by decide +kernel
theorem dX6_readRule_15 : decode cX6_readRule 15 = .ok (.return_, 1) := by decide +kernel
theorem dX6_readRule_16 : decode cX6_readRule 16 = .ok (.aload_n 0, 1) := by decide +kernel
theorem dX6_readRule_17 : decode cX6_readRule 17 = .ok (.getfield 32, 3) := by decide +kernel
theorem dX6_readRule_20 : decode cX6_readRule 20 = .ok (.iload_n 1, 1) := by decide +kernel
theorem dX6_readRule_21 : decode cX6_readRule 21 = .ok (.ishr, 1) := by decide +kernel
theorem dX6_readRule_22 : decode cX6_readRule 22 = .ok (.iconst 1, 1) := by decide +kernel
theorem dX6_readRule_23 : decode cX6_readRule 23 = .ok (.iand, 1) := by decide +kernel
theorem dX6_readRule_24 : decode cX6_readRule 24 = .ok (.iconst 1, 1) := by decide +kernel
theorem dX6_readRule_25 : decode cX6_readRule 25 = .ok (.if_icmp .ne 9, 3) := by decide +kernel
theorem dX6_readRule_28 : decode cX6_readRule 28 = .ok (.aload_n 0, 1) := by decide +kernel
theorem dX6_readRule_29 : decode cX6_readRule 29 = .ok (.iconst 4, 1) := by decide +kernel
theorem dX6_readRule_30 : decode cX6_readRule 30 = .ok (.invokevirtual 79, 3) := by decide +kernel
theorem dX6_readRule_33 : decode cX6_readRule 33 = .ok (.return_, 1) := by decide +kernel
theorem dX6_readRule_34 : decode cX6_readRule 34 = .ok (.aload_n 0, 1) := by decide +kernel
theorem dX6_readRule_35 : decode cX6_readRule 35 = .ok (.dup, 1) := by decide +kernel
theorem dX6_readRule_36 : decode cX6_readRule 36 = .ok (.getfield 32, 3) := by decide +kernel
theorem dX6_readRule_39 : decode cX6_readRule 39 = .ok (.iconst 1, 1) := by decide +kernel
theorem dX6_readRule_40 : decode cX6_readRule 40 = .ok (.iload_n 1, 1) := by decide +kernel
theorem dX6_readRule_41 : decode cX6_readRule 41 = .ok (.ishl, 1) := by decide +kernel
theorem dX6_readRule_42 : decode cX6_readRule 42 = .ok (.ior, 1) := by decide +kernel
theorem dX6_readRule_43 : decode cX6_readRule 43 = .ok (.putfield 32, 3) := by decide +kernel
theorem dX6_readRule_46 : decode cX6_readRule 46 = .ok (.aload_n 0, 1) := by decide +kernel
theorem dX6_readRule_47 : decode cX6_readRule 47 = .ok (.getfield 12, 3) := by decide +kernel
theorem dX6_readRule_50 : decode cX6_readRule 50 = .ok (.invokevirtual 82, 3) := by decide +kernel
theorem dX6_readRule_53 : decode cX6_readRule 53 = .ok (.aload_n 0, 1) := by decide +kernel
theorem dX6_readRule_54 : decode cX6_readRule 54 = .ok (.getfield 21, 3) := by decide +kernel
theorem dX6_readRule_57 : decode cX6_readRule 57 = .ok (.getfield 107, 3) := by decide +kernel
theorem dX6_readRule_60 : decode cX6_readRule 60 = .ok (.iload_n 1, 1) := by decide +kernel
theorem dX6_readRule_61 : decode cX6_readRule 61 = .ok (.aload_n 0, 1) := by decide +kernel
theorem dX6_readRule_62 : decode cX6_readRule 62 = .ok (.getstatic 110, 3) := by decide +kernel
theorem dX6_readRule_65 : decode cX6_readRule 65 = .ok (.iload_n 1, 1) := by decide +kernel
theorem dX6_readRule_66 : decode cX6_readRule 66 = .ok (.iaload, 1) := by decide +kernel
theorem dX6_readRule_67 : decode cX6_readRule 67 = .ok (.getstatic 113, 3) := by decide +kernel
theorem dX6_readRule_70 : decode cX6_readRule 70 = .ok (.iload_n 1, 1) := by decide +kernel
theorem dX6_readRule_71 : decode cX6_readRule 71 = .ok (.iaload, 1) := by decide +kernel
theorem dX6_readRule_72 : decode cX6_readRule 72 = .ok (.invokevirtual 92, 3) := by decide +kernel
theorem dX6_readRule_75 : decode cX6_readRule 75 = .ok (.iastore, 1) := by decide +kernel
theorem dX6_readRule_76 : decode cX6_readRule 76 = .ok (.return_, 1) := by decide +kernel
theorem dX6_ruleHere_0 : decode cX6_ruleHere 0 = .ok (.aload_n 0, 1) := by decide +kernel
theorem dX6_ruleHere_1 : decode cX6_ruleHere 1 = .ok (.getfield 12, 3) := by decide +kernel
theorem dX6_ruleHere_4 : decode cX6_ruleHere 4 = .ok (.ldc 116, 2) := by decide +kernel
theorem dX6_ruleHere_6 : decode cX6_ruleHere 6 = .ok (.invokevirtual 55, 3) := by decide +kernel
theorem dX6_ruleHere_9 : decode cX6_ruleHere 9 = .ok (.ifCond .eq 5, 3) := by decide +kernel
theorem dX6_ruleHere_12 : decode cX6_ruleHere 12 = .ok (.iconst 0, 1) := by decide +kernel
theorem dX6_ruleHere_13 : decode cX6_ruleHere 13 = .ok (.ireturn, 1) := by decide +kernel
theorem dX6_ruleHere_14 : decode cX6_ruleHere 14 = .ok (.aload_n 0, 1) := by decide +kernel
theorem dX6_ruleHere_15 : decode cX6_ruleHere 15 = .ok (.getfield 12, 3) := by decide +kernel
theorem dX6_ruleHere_18 : decode cX6_ruleHere 18 = .ok (.ldc 118, 2) := by decide +kernel
theorem dX6_ruleHere_20 : decode cX6_ruleHere 20 = .ok (.invokevirtual 55, 3) := by decide +kernel
theorem dX6_ruleHere_23 : decode cX6_ruleHere 23 = .ok (.ifCond .eq 5, 3) := by decide +kernel
theorem dX6_ruleHere_26 : decode cX6_ruleHere 26 = .ok (.iconst 1, 1) := by decide +kernel
theorem dX6_ruleHere_27 : decode cX6_ruleHere 27 = .ok (.ireturn, 1) := by decide +kernel
theorem dX6_ruleHere_28 : decode cX6_ruleHere 28 = .ok (.aload_n 0, 1) := by decide +kernel
theorem dX6_ruleHere_29 : decode cX6_ruleHere 29 = .ok (.getfield 12, 3) := by decide +kernel
theorem dX6_ruleHere_32 : decode cX6_ruleHere 32 = .ok (.ldc 120, 2) := by decide +kernel
theorem dX6_ruleHere_34 : decode cX6_ruleHere 34 = .ok (.invokevirtual 55, 3) := by decide +kernel
theorem dX6_ruleHere_37 : decode cX6_ruleHere 37 = .ok (.ifCond .eq 5, 3) := by decide +kernel
theorem dX6_ruleHere_40 : decode cX6_ruleHere 40 = .ok (.iconst 2, 1) := by decide +kernel
theorem dX6_ruleHere_41 : decode cX6_ruleHere 41 = .ok (.ireturn, 1) := by decide +kernel
theorem dX6_ruleHere_42 : decode cX6_ruleHere 42 = .ok (.aload_n 0, 1) := by decide +kernel
theorem dX6_ruleHere_43 : decode cX6_ruleHere 43 = .ok (.getfield 12, 3) := by decide +kernel
theorem dX6_ruleHere_46 : decode cX6_ruleHere 46 = .ok (.ldc 122, 2) := by decide +kernel
theorem dX6_ruleHere_48 : decode cX6_ruleHere 48 = .ok (.invokevirtual 55, 3) := by decide +kernel
theorem dX6_ruleHere_51 : decode cX6_ruleHere 51 = .ok (.ifCond .eq 5, 3) := by decide +kernel
theorem dX6_ruleHere_54 : decode cX6_ruleHere 54 = .ok (.iconst 3, 1) := by decide +kernel
theorem dX6_ruleHere_55 : decode cX6_ruleHere 55 = .ok (.ireturn, 1) := by decide +kernel
theorem dX6_ruleHere_56 : decode cX6_ruleHere 56 = .ok (.aload_n 0, 1) := by decide +kernel
theorem dX6_ruleHere_57 : decode cX6_ruleHere 57 = .ok (.getfield 12, 3) := by decide +kernel
theorem dX6_ruleHere_60 : decode cX6_ruleHere 60 = .ok (.ldc 124, 2) := by decide +kernel
theorem dX6_ruleHere_62 : decode cX6_ruleHere 62 = .ok (.invokevirtual 55, 3) := by decide +kernel
theorem dX6_ruleHere_65 : decode cX6_ruleHere 65 = .ok (.ifCond .eq 5, 3) := by decide +kernel
theorem dX6_ruleHere_68 : decode cX6_ruleHere 68 = .ok (.iconst 4, 1) := by decide +kernel
theorem dX6_ruleHere_69 : decode cX6_ruleHere 69 = .ok (.ireturn, 1) := by decide +kernel
theorem dX6_ruleHere_70 : decode cX6_ruleHere 70 = .ok (.aload_n 0, 1) := by decide +kernel
theorem dX6_ruleHere_71 : decode cX6_ruleHere 71 = .ok (.getfield 12, 3) := by decide +kernel
theorem dX6_ruleHere_74 : decode cX6_ruleHere 74 = .ok (.ldc 126, 2) := by decide +kernel
theorem dX6_ruleHere_76 : decode cX6_ruleHere 76 = .ok (.invokevirtual 55, 3) := by decide +kernel
theorem dX6_ruleHere_79 : decode cX6_ruleHere 79 = .ok (.ifCond .eq 7, 3) := by decide +kernel
theorem dX6_ruleHere_82 : decode cX6_ruleHere 82 = .ok (.iconst 5, 1) := by decide +kernel
theorem dX6_ruleHere_83 : decode cX6_ruleHere 83 = .ok (.goto 4, 3) := by decide +kernel
theorem dX6_ruleHere_86 : decode cX6_ruleHere 86 = .ok (.iconst (-1), 1) := by decide +kernel
theorem dX6_ruleHere_87 : decode cX6_ruleHere 87 = .ok (.ireturn, 1) := by decide +kernel
theorem dX6_readLooks_0 : decode cX6_readLooks 0 = .ok (.aload_n 0, 1) := by decide +kernel
theorem dX6_readLooks_1 : decode cX6_readLooks 1 = .ok (.iload_n 1, 1) := by decide +kernel
theorem dX6_readLooks_2 : decode cX6_readLooks 2 = .ok (.invokevirtual 46, 3) := by decide +kernel
theorem dX6_readLooks_5 : decode cX6_readLooks 5 = .ok (.aload_n 0, 1) := by decide +kernel
theorem dX6_readLooks_6 : decode cX6_readLooks 6 = .ok (.getfield 28, 3) := by decide +kernel
theorem dX6_readLooks_9 : decode cX6_readLooks 9 = .ok (.invokevirtual 128, 3) := by decide +kernel
theorem dX6_readLooks_12 : decode cX6_readLooks 12 = .ok (.iconst 0, 1) := by decide +kernel
theorem dX6_readLooks_13 : decode cX6_readLooks 13 = .ok (.istore_n 2, 1) := by decide +kernel
theorem dX6_readLooks_14 : decode cX6_readLooks 14 = .ok (.iload_n 2, 1) := by decide +kernel
theorem dX6_readLooks_15 : decode cX6_readLooks 15 = .ok (.iload_n 1, 1) := by decide +kernel
theorem dX6_readLooks_16 : decode cX6_readLooks 16 = .ok (.if_icmp .ge 106, 3) := by decide +kernel
theorem dX6_readLooks_19 : decode cX6_readLooks 19 = .ok (.aload_n 0, 1) := by decide +kernel
theorem dX6_readLooks_20 : decode cX6_readLooks 20 = .ok (.getfield 36, 3) := by decide +kernel
theorem dX6_readLooks_23 : decode cX6_readLooks 23 = .ok (.ifCond .ne 99, 3) := by decide +kernel
theorem dX6_readLooks_26 : decode cX6_readLooks 26 = .ok (.aload_n 0, 1) := by decide +kernel
theorem dX6_readLooks_27 : decode cX6_readLooks 27 = .ok (.getfield 12, 3) := by decide +kernel
theorem dX6_readLooks_30 : decode cX6_readLooks 30 = .ok (.getfield 50, 3) := by decide +kernel
theorem dX6_readLooks_33 : decode cX6_readLooks 33 = .ok (.ifCond .eq 89, 3) := by decide +kernel
theorem dX6_readLooks_36 : decode cX6_readLooks 36 = .ok (.aload_n 0, 1) := by decide +kernel
theorem dX6_readLooks_37 : decode cX6_readLooks 37 = .ok (.getfield 28, 3) := by decide +kernel
theorem dX6_readLooks_40 : decode cX6_readLooks 40 = .ok (.getfield 129, 3) := by decide +kernel
theorem dX6_readLooks_43 : decode cX6_readLooks 43 = .ok (.bipush 8, 2) := by decide +kernel
theorem dX6_readLooks_45 : decode cX6_readLooks 45 = .ok (.if_icmp .lt 20, 3) := by decide +kernel
theorem dX6_readLooks_48 : decode cX6_readLooks 48 = .ok (.aload_n 0, 1) := by decide +kernel
theorem dX6_readLooks_49 : decode cX6_readLooks 49 = .ok (.getfield 12, 3) := by decide +kernel
theorem dX6_readLooks_52 : decode cX6_readLooks 52 = .ok (.ldc 131, 2) := by decide +kernel
theorem dX6_readLooks_54 : decode cX6_readLooks 54 = .ok (.invokevirtual 55, 3) := by decide +kernel
theorem dX6_readLooks_57 : decode cX6_readLooks 57 = .ok (.ifCond .eq 8, 3) := by decide +kernel
theorem dX6_readLooks_60 : decode cX6_readLooks 60 = .ok (.aload_n 0, 1) := by decide +kernel
theorem dX6_readLooks_61 : decode cX6_readLooks 61 = .ok (.iconst 4, 1) := by decide +kernel
theorem dX6_readLooks_62 : decode cX6_readLooks 62 = .ok (.invokevirtual 79, 3) := by decide +kernel
theorem dX6_readLooks_65 : decode cX6_readLooks 65 = .ok (.aload_n 0, 1) := by decide +kernel
theorem dX6_readLooks_66 : decode cX6_readLooks 66 = .ok (.aload_n 0, 1) := by decide +kernel
theorem dX6_readLooks_67 : decode cX6_readLooks 67 = .ok (.getfield 12, 3) := by decide +kernel
theorem dX6_readLooks_70 : decode cX6_readLooks 70 = .ok (.ldc 131, 2) := by decide +kernel
theorem dX6_readLooks_72 : decode cX6_readLooks 72 = .ok (.invokevirtual 55, 3) := by decide +kernel
theorem dX6_readLooks_75 : decode cX6_readLooks 75 = .ok (.invokevirtual 69, 3) := by decide +kernel
theorem dX6_readLooks_78 : decode cX6_readLooks 78 = .ok (.aload_n 0, 1) := by decide +kernel
theorem dX6_readLooks_79 : decode cX6_readLooks 79 = .ok (.aload_n 0, 1) := by decide +kernel
theorem dX6_readLooks_80 : decode cX6_readLooks 80 = .ok (.getfield 12, 3) := by decide +kernel
theorem dX6_readLooks_83 : decode cX6_readLooks 83 = .ok (.ldc 133, 2) := by decide +kernel
theorem dX6_readLooks_85 : decode cX6_readLooks 85 = .ok (.invokevirtual 55, 3) := by decide +kernel
theorem dX6_readLooks_88 : decode cX6_readLooks 88 = .ok (.invokevirtual 69, 3) := by decide +kernel
theorem dX6_readLooks_91 : decode cX6_readLooks 91 = .ok (.aload_n 0, 1) := by decide +kernel
theorem dX6_readLooks_92 : decode cX6_readLooks 92 = .ok (.iconst 0, 1) := by decide +kernel
theorem dX6_readLooks_93 : decode cX6_readLooks 93 = .ok (.invokevirtual 135, 3) := by decide +kernel
theorem dX6_readLooks_96 : decode cX6_readLooks 96 = .ok (.aload_n 0, 1) := by decide +kernel
theorem dX6_readLooks_97 : decode cX6_readLooks 97 = .ok (.aload_n 0, 1) := by decide +kernel
theorem dX6_readLooks_98 : decode cX6_readLooks 98 = .ok (.getfield 12, 3) := by decide +kernel
theorem dX6_readLooks_101 : decode cX6_readLooks 101 = .ok (.bipush 59, 2) := by decide +kernel
theorem dX6_readLooks_103 : decode cX6_readLooks 103 = .ok (.invokevirtual 65, 3) := by decide +kernel
theorem dX6_readLooks_106 : decode cX6_readLooks 106 = .ok (.invokevirtual 69, 3) := by decide +kernel
theorem dX6_readLooks_109 : decode cX6_readLooks 109 = .ok (.aload_n 0, 1) := by decide +kernel
theorem dX6_readLooks_110 : decode cX6_readLooks 110 = .ok (.getfield 28, 3) := by decide +kernel
theorem dX6_readLooks_113 : decode cX6_readLooks 113 = .ok (.invokevirtual 138, 3) := by decide +kernel
theorem dX6_readLooks_116 : decode cX6_readLooks 116 = .ok (.iinc 2 1, 3) := by decide +kernel
theorem dX6_readLooks_119 : decode cX6_readLooks 119 = .ok (.goto (-105), 3) := by decide +kernel
theorem dX6_readLooks_122 : decode cX6_readLooks 122 = .ok (.aload_n 0, 1) := by decide +kernel
theorem dX6_readLooks_123 : decode cX6_readLooks 123 = .ok (.getfield 36, 3) := by decide +kernel
theorem dX6_readLooks_126 : decode cX6_readLooks 126 = .ok (.ifCond .ne 7, 3) := by decide +kernel
theorem dX6_readLooks_129 : decode cX6_readLooks 129 = .ok (.iconst 1, 1) := by decide +kernel
theorem dX6_readLooks_130 : decode cX6_readLooks 130 = .ok (.goto 4, 3) := by decide +kernel
theorem dX6_readLooks_133 : decode cX6_readLooks 133 = .ok (.iconst 0, 1) := by decide +kernel
theorem dX6_readLooks_134 : decode cX6_readLooks 134 = .ok (.ireturn, 1) := by decide +kernel
theorem dX6_readTest_0 : decode cX6_readTest 0 = .ok (.aload_n 0, 1) := by decide +kernel
theorem dX6_readTest_1 : decode cX6_readTest 1 = .ok (.iload_n 1, 1) := by decide +kernel
theorem dX6_readTest_2 : decode cX6_readTest 2 = .ok (.invokevirtual 141, 3) := by decide +kernel
theorem dX6_readTest_5 : decode cX6_readTest 5 = .ok (.iconst 0, 1) := by decide +kernel
theorem dX6_readTest_6 : decode cX6_readTest 6 = .ok (.istore_n 2, 1) := by decide +kernel
theorem dX6_readTest_7 : decode cX6_readTest 7 = .ok (.iload_n 2, 1) := by decide +kernel
theorem dX6_readTest_8 : decode cX6_readTest 8 = .ok (.sipush 400, 3) := by decide +kernel
theorem dX6_readTest_11 : decode cX6_readTest 11 = .ok (.if_icmp .ge 50, 3) := by decide +kernel
theorem dX6_readTest_14 : decode cX6_readTest 14 = .ok (.aload_n 0, 1) := by decide +kernel
theorem dX6_readTest_15 : decode cX6_readTest 15 = .ok (.getfield 36, 3) := by decide +kernel
theorem dX6_readTest_18 : decode cX6_readTest 18 = .ok (.ifCond .ne 43, 3) := by decide +kernel
theorem dX6_readTest_21 : decode cX6_readTest 21 = .ok (.aload_n 0, 1) := by decide +kernel
theorem dX6_readTest_22 : decode cX6_readTest 22 = .ok (.getfield 12, 3) := by decide +kernel
theorem dX6_readTest_25 : decode cX6_readTest 25 = .ok (.ldc 144, 2) := by decide +kernel
theorem dX6_readTest_27 : decode cX6_readTest 27 = .ok (.invokevirtual 55, 3) := by decide +kernel
theorem dX6_readTest_30 : decode cX6_readTest 30 = .ok (.ifCond .eq 31, 3) := by decide +kernel
theorem dX6_readTest_33 : decode cX6_readTest 33 = .ok (.aload_n 0, 1) := by decide +kernel
theorem dX6_readTest_34 : decode cX6_readTest 34 = .ok (.getfield 12, 3) := by decide +kernel
theorem dX6_readTest_37 : decode cX6_readTest 37 = .ok (.invokevirtual 82, 3) := by decide +kernel
theorem dX6_readTest_40 : decode cX6_readTest 40 = .ok (.aload_n 0, 1) := by decide +kernel
theorem dX6_readTest_41 : decode cX6_readTest 41 = .ok (.iload_n 1, 1) := by decide +kernel
theorem dX6_readTest_42 : decode cX6_readTest 42 = .ok (.invokevirtual 141, 3) := by decide +kernel
theorem dX6_readTest_45 : decode cX6_readTest 45 = .ok (.aload_n 0, 1) := by decide +kernel
theorem dX6_readTest_46 : decode cX6_readTest 46 = .ok (.getfield 28, 3) := by decide +kernel
theorem dX6_readTest_49 : decode cX6_readTest 49 = .ok (.bipush 8, 2) := by decide +kernel
theorem dX6_readTest_51 : decode cX6_readTest 51 = .ok (.iconst 0, 1) := by decide +kernel
theorem dX6_readTest_52 : decode cX6_readTest 52 = .ok (.invokevirtual 146, 3) := by decide +kernel
theorem dX6_readTest_55 : decode cX6_readTest 55 = .ok (.iinc 2 1, 3) := by decide +kernel
theorem dX6_readTest_58 : decode cX6_readTest 58 = .ok (.goto (-51), 3) := by decide +kernel
theorem dX6_readTest_61 : decode cX6_readTest 61 = .ok (.return_, 1) := by decide +kernel
theorem dX6_readPart_0 : decode cX6_readPart 0 = .ok (.aload_n 0, 1) := by decide +kernel
theorem dX6_readPart_1 : decode cX6_readPart 1 = .ok (.iload_n 1, 1) := by decide +kernel
theorem dX6_readPart_2 : decode cX6_readPart 2 = .ok (.invokevirtual 150, 3) := by decide +kernel
theorem dX6_readPart_5 : decode cX6_readPart 5 = .ok (.iconst 0, 1) := by decide +kernel
theorem dX6_readPart_6 : decode cX6_readPart 6 = .ok (.istore_n 2, 1) := by decide +kernel
theorem dX6_readPart_7 : decode cX6_readPart 7 = .ok (.iload_n 2, 1) := by decide +kernel
theorem dX6_readPart_8 : decode cX6_readPart 8 = .ok (.sipush 400, 3) := by decide +kernel
theorem dX6_readPart_11 : decode cX6_readPart 11 = .ok (.if_icmp .ge 50, 3) := by decide +kernel
theorem dX6_readPart_14 : decode cX6_readPart 14 = .ok (.aload_n 0, 1) := by decide +kernel
theorem dX6_readPart_15 : decode cX6_readPart 15 = .ok (.getfield 36, 3) := by decide +kernel
theorem dX6_readPart_18 : decode cX6_readPart 18 = .ok (.ifCond .ne 43, 3) := by decide +kernel
theorem dX6_readPart_21 : decode cX6_readPart 21 = .ok (.aload_n 0, 1) := by decide +kernel
theorem dX6_readPart_22 : decode cX6_readPart 22 = .ok (.getfield 12, 3) := by decide +kernel
theorem dX6_readPart_25 : decode cX6_readPart 25 = .ok (.ldc 153, 2) := by decide +kernel
theorem dX6_readPart_27 : decode cX6_readPart 27 = .ok (.invokevirtual 55, 3) := by decide +kernel
theorem dX6_readPart_30 : decode cX6_readPart 30 = .ok (.ifCond .eq 31, 3) := by decide +kernel
theorem dX6_readPart_33 : decode cX6_readPart 33 = .ok (.aload_n 0, 1) := by decide +kernel
theorem dX6_readPart_34 : decode cX6_readPart 34 = .ok (.getfield 12, 3) := by decide +kernel
theorem dX6_readPart_37 : decode cX6_readPart 37 = .ok (.invokevirtual 82, 3) := by decide +kernel
theorem dX6_readPart_40 : decode cX6_readPart 40 = .ok (.aload_n 0, 1) := by decide +kernel
theorem dX6_readPart_41 : decode cX6_readPart 41 = .ok (.iload_n 1, 1) := by decide +kernel
theorem dX6_readPart_42 : decode cX6_readPart 42 = .ok (.invokevirtual 150, 3) := by decide +kernel
theorem dX6_readPart_45 : decode cX6_readPart 45 = .ok (.aload_n 0, 1) := by decide +kernel
theorem dX6_readPart_46 : decode cX6_readPart 46 = .ok (.getfield 28, 3) := by decide +kernel
theorem dX6_readPart_49 : decode cX6_readPart 49 = .ok (.bipush 7, 2) := by decide +kernel
theorem dX6_readPart_51 : decode cX6_readPart 51 = .ok (.iconst 0, 1) := by decide +kernel
theorem dX6_readPart_52 : decode cX6_readPart 52 = .ok (.invokevirtual 146, 3) := by decide +kernel
theorem dX6_readPart_55 : decode cX6_readPart 55 = .ok (.iinc 2 1, 3) := by decide +kernel
theorem dX6_readPart_58 : decode cX6_readPart 58 = .ok (.goto (-51), 3) := by decide +kernel
theorem dX6_readPart_61 : decode cX6_readPart 61 = .ok (.return_, 1) := by decide +kernel
theorem dX6_readFact_0 : decode cX6_readFact 0 = .ok (.aload_n 0, 1) := by decide +kernel
theorem dX6_readFact_1 : decode cX6_readFact 1 = .ok (.getfield 36, 3) := by decide +kernel
theorem dX6_readFact_4 : decode cX6_readFact 4 = .ok (.ifCond .eq 4, 3) := by decide +kernel
theorem dX6_readFact_7 : decode cX6_readFact 7 = .ok (.return_, 1) := by decide +kernel
theorem dX6_readFact_8 : decode cX6_readFact 8 = .ok (.aload_n 0, 1) := by decide +kernel
theorem dX6_readFact_9 : decode cX6_readFact 9 = .ok (.getfield 12, 3) := by decide +kernel
theorem dX6_readFact_12 : decode cX6_readFact 12 = .ok (.ldc 155, 2) := by decide +kernel
theorem dX6_readFact_14 : decode cX6_readFact 14 = .ok (.invokevirtual 55, 3) := by decide +kernel
theorem dX6_readFact_17 : decode cX6_readFact 17 = .ok (.ifCond .ne 15, 3) := by decide +kernel
theorem dX6_readFact_20 : decode cX6_readFact 20 = .ok (.aload_n 0, 1) := by decide +kernel
theorem dX6_readFact_21 : decode cX6_readFact 21 = .ok (.getfield 12, 3) := by decide +kernel
theorem dX6_readFact_24 : decode cX6_readFact 24 = .ok (.bipush 40, 2) := by decide +kernel
theorem dX6_readFact_26 : decode cX6_readFact 26 = .ok (.invokevirtual 65, 3) := by decide +kernel
theorem dX6_readFact_29 : decode cX6_readFact 29 = .ok (.ifCond .eq 11, 3) := by decide +kernel
theorem dX6_readFact_32 : decode cX6_readFact 32 = .ok (.aload_n 0, 1) := by decide +kernel
theorem dX6_readFact_33 : decode cX6_readFact 33 = .ok (.iload_n 1, 1) := by decide +kernel
theorem dX6_readFact_34 : decode cX6_readFact 34 = .ok (.iconst 1, 1) := by decide +kernel
theorem dX6_readFact_35 : decode cX6_readFact 35 = .ok (.iadd, 1) := by decide +kernel
theorem dX6_readFact_36 : decode cX6_readFact 36 = .ok (.invokevirtual 157, 3) := by decide +kernel
theorem dX6_readFact_39 : decode cX6_readFact 39 = .ok (.return_, 1) := by decide +kernel
theorem dX6_readFact_40 : decode cX6_readFact 40 = .ok (.aload_n 0, 1) := by decide +kernel
theorem dX6_readFact_41 : decode cX6_readFact 41 = .ok (.invokevirtual 160, 3) := by decide +kernel
theorem dX6_readFact_44 : decode cX6_readFact 44 = .ok (.istore_n 2, 1) := by decide +kernel
theorem dX6_readFact_45 : decode cX6_readFact 45 = .ok (.iload_n 2, 1) := by decide +kernel
theorem dX6_readFact_46 : decode cX6_readFact 46 = .ok (.iconst (-1), 1) := by decide +kernel
theorem dX6_readFact_47 : decode cX6_readFact 47 = .ok (.if_icmp .ne 9, 3) := by decide +kernel
theorem dX6_readFact_50 : decode cX6_readFact 50 = .ok (.aload_n 0, 1) := by decide +kernel
theorem dX6_readFact_51 : decode cX6_readFact 51 = .ok (.iconst 2, 1) := by decide +kernel
theorem dX6_readFact_52 : decode cX6_readFact 52 = .ok (.invokevirtual 79, 3) := by decide +kernel
theorem dX6_readFact_55 : decode cX6_readFact 55 = .ok (.return_, 1) := by decide +kernel
theorem dX6_readFact_56 : decode cX6_readFact 56 = .ok (.aload_n 0, 1) := by decide +kernel
theorem dX6_readFact_57 : decode cX6_readFact 57 = .ok (.getfield 12, 3) := by decide +kernel
theorem dX6_readFact_60 : decode cX6_readFact 60 = .ok (.invokevirtual 82, 3) := by decide +kernel
theorem dX6_readFact_63 : decode cX6_readFact 63 = .ok (.aload_n 0, 1) := by decide +kernel
theorem dX6_readFact_64 : decode cX6_readFact 64 = .ok (.getfield 28, 3) := by decide +kernel
theorem dX6_readFact_67 : decode cX6_readFact 67 = .ok (.iload_n 2, 1) := by decide +kernel
theorem dX6_readFact_68 : decode cX6_readFact 68 = .ok (.iload_n 2, 1) := by decide +kernel
theorem dX6_readFact_69 : decode cX6_readFact 69 = .ok (.ifCond .ne 7, 3) := by decide +kernel
theorem dX6_readFact_72 : decode cX6_readFact 72 = .ok (.iconst 0, 1) := by decide +kernel
theorem dX6_readFact_73 : decode cX6_readFact 73 = .ok (.goto 17, 3) := by decide +kernel
theorem dX6_readFact_76 : decode cX6_readFact 76 = .ok (.aload_n 0, 1) := by decide +kernel
theorem dX6_readFact_77 : decode cX6_readFact 77 = .ok (.getstatic 163, 3) := by decide +kernel
theorem dX6_readFact_80 : decode cX6_readFact 80 = .ok (.iload_n 2, 1) := by decide +kernel
theorem dX6_readFact_81 : decode cX6_readFact 81 = .ok (.iaload, 1) := by decide +kernel
theorem dX6_readFact_82 : decode cX6_readFact 82 = .ok (.getstatic 166, 3) := by decide +kernel
theorem dX6_readFact_85 : decode cX6_readFact 85 = .ok (.iload_n 2, 1) := by decide +kernel
theorem dX6_readFact_86 : decode cX6_readFact 86 = .ok (.iaload, 1) := by decide +kernel
theorem dX6_readFact_87 : decode cX6_readFact 87 = .ok (.invokevirtual 92, 3) := by decide +kernel
theorem dX6_readFact_90 : decode cX6_readFact 90 = .ok (.invokevirtual 146, 3) := by decide +kernel
theorem dX6_readFact_93 : decode cX6_readFact 93 = .ok (.return_, 1) := by decide +kernel
theorem dX6_readOpened_0 : decode cX6_readOpened 0 = .ok (.iload_n 1, 1) := by decide +kernel
theorem dX6_readOpened_1 : decode cX6_readOpened 1 = .ok (.bipush 8, 2) := by decide +kernel
theorem dX6_readOpened_3 : decode cX6_readOpened 3 = .ok (.if_icmp .le 9, 3) := by decide +kernel
theorem dX6_readOpened_6 : decode cX6_readOpened 6 = .ok (.aload_n 0, 1) := by decide +kernel
theorem dX6_readOpened_7 : decode cX6_readOpened 7 = .ok (.iconst 5, 1) := by decide +kernel
theorem dX6_readOpened_8 : decode cX6_readOpened 8 = .ok (.invokevirtual 79, 3) := by decide +kernel
theorem dX6_readOpened_11 : decode cX6_readOpened 11 = .ok (.return_, 1) := by decide +kernel
theorem dX6_readOpened_12 : decode cX6_readOpened 12 = .ok (.aload_n 0, 1) := by decide +kernel
theorem dX6_readOpened_13 : decode cX6_readOpened 13 = .ok (.getfield 12, 3) := by decide +kernel
theorem dX6_readOpened_16 : decode cX6_readOpened 16 = .ok (.ldc 155, 2) := by decide +kernel
theorem dX6_readOpened_18 : decode cX6_readOpened 18 = .ok (.invokevirtual 55, 3) := by decide +kernel
theorem dX6_readOpened_21 : decode cX6_readOpened 21 = .ok (.istore_n 2, 1) := by decide +kernel
theorem dX6_readOpened_22 : decode cX6_readOpened 22 = .ok (.aload_n 0, 1) := by decide +kernel
theorem dX6_readOpened_23 : decode cX6_readOpened 23 = .ok (.getfield 12, 3) := by decide +kernel
theorem dX6_readOpened_26 : decode cX6_readOpened 26 = .ok (.invokevirtual 82, 3) := by decide +kernel
theorem dX6_readOpened_29 : decode cX6_readOpened 29 = .ok (.iload_n 2, 1) := by decide +kernel
theorem dX6_readOpened_30 : decode cX6_readOpened 30 = .ok (.ifCond .eq 21, 3) := by decide +kernel
theorem dX6_readOpened_33 : decode cX6_readOpened 33 = .ok (.aload_n 0, 1) := by decide +kernel
theorem dX6_readOpened_34 : decode cX6_readOpened 34 = .ok (.iload_n 1, 1) := by decide +kernel
theorem dX6_readOpened_35 : decode cX6_readOpened 35 = .ok (.invokevirtual 150, 3) := by decide +kernel
theorem dX6_readOpened_38 : decode cX6_readOpened 38 = .ok (.aload_n 0, 1) := by decide +kernel
theorem dX6_readOpened_39 : decode cX6_readOpened 39 = .ok (.getfield 28, 3) := by decide +kernel
theorem dX6_readOpened_42 : decode cX6_readOpened 42 = .ok (.bipush 6, 2) := by decide +kernel
theorem dX6_readOpened_44 : decode cX6_readOpened 44 = .ok (.iconst 0, 1) := by decide +kernel
theorem dX6_readOpened_45 : decode cX6_readOpened 45 = .ok (.invokevirtual 146, 3) := by decide +kernel
theorem dX6_readOpened_48 : decode cX6_readOpened 48 = .ok (.goto 21, 3) := by decide +kernel
theorem dX6_readOpened_51 : decode cX6_readOpened 51 = .ok (.aload_n 0, 1) := by decide +kernel
theorem dX6_readOpened_52 : decode cX6_readOpened 52 = .ok (.iload_n 1, 1) := by decide +kernel
theorem dX6_readOpened_53 : decode cX6_readOpened 53 = .ok (.invokevirtual 135, 3) := by decide +kernel
theorem dX6_readOpened_56 : decode cX6_readOpened 56 = .ok (.aload_n 0, 1) := by decide +kernel
theorem dX6_readOpened_57 : decode cX6_readOpened 57 = .ok (.aload_n 0, 1) := by decide +kernel
theorem dX6_readOpened_58 : decode cX6_readOpened 58 = .ok (.getfield 12, 3) := by decide +kernel
theorem dX6_readOpened_61 : decode cX6_readOpened 61 = .ok (.bipush 41, 2) := by decide +kernel
theorem dX6_readOpened_63 : decode cX6_readOpened 63 = .ok (.invokevirtual 65, 3) := by decide +kernel
theorem dX6_readOpened_66 : decode cX6_readOpened 66 = .ok (.invokevirtual 69, 3) := by decide +kernel
theorem dX6_readOpened_69 : decode cX6_readOpened 69 = .ok (.return_, 1) := by decide +kernel
theorem dX6_factHere_0 : decode cX6_factHere 0 = .ok (.aload_n 0, 1) := by decide +kernel
theorem dX6_factHere_1 : decode cX6_factHere 1 = .ok (.getfield 12, 3) := by decide +kernel
theorem dX6_factHere_4 : decode cX6_factHere 4 = .ok (.ldc 169, 2) := by decide +kernel
theorem dX6_factHere_6 : decode cX6_factHere 6 = .ok (.invokevirtual 55, 3) := by decide +kernel
theorem dX6_factHere_9 : decode cX6_factHere 9 = .ok (.ifCond .eq 5, 3) := by decide +kernel
theorem dX6_factHere_12 : decode cX6_factHere 12 = .ok (.iconst 0, 1) := by decide +kernel
theorem dX6_factHere_13 : decode cX6_factHere 13 = .ok (.ireturn, 1) := by decide +kernel
theorem dX6_factHere_14 : decode cX6_factHere 14 = .ok (.aload_n 0, 1) := by decide +kernel
theorem dX6_factHere_15 : decode cX6_factHere 15 = .ok (.getfield 12, 3) := by decide +kernel
theorem dX6_factHere_18 : decode cX6_factHere 18 = .ok (.ldc 171, 2) := by decide +kernel
theorem dX6_factHere_20 : decode cX6_factHere 20 = .ok (.invokevirtual 55, 3) := by decide +kernel
theorem dX6_factHere_23 : decode cX6_factHere 23 = .ok (.ifCond .eq 5, 3) := by decide +kernel
theorem dX6_factHere_26 : decode cX6_factHere 26 = .ok (.iconst 1, 1) := by decide +kernel
theorem dX6_factHere_27 : decode cX6_factHere 27 = .ok (.ireturn, 1) := by decide +kernel
theorem dX6_factHere_28 : decode cX6_factHere 28 = .ok (.aload_n 0, 1) := by decide +kernel
theorem dX6_factHere_29 : decode cX6_factHere 29 = .ok (.getfield 12, 3) := by decide +kernel
theorem dX6_factHere_32 : decode cX6_factHere 32 = .ok (.ldc 173, 2) := by decide +kernel
theorem dX6_factHere_34 : decode cX6_factHere 34 = .ok (.invokevirtual 55, 3) := by decide +kernel
theorem dX6_factHere_37 : decode cX6_factHere 37 = .ok (.ifCond .eq 5, 3) := by decide +kernel
theorem dX6_factHere_40 : decode cX6_factHere 40 = .ok (.iconst 2, 1) := by decide +kernel
theorem dX6_factHere_41 : decode cX6_factHere 41 = .ok (.ireturn, 1) := by decide +kernel
theorem dX6_factHere_42 : decode cX6_factHere 42 = .ok (.aload_n 0, 1) := by decide +kernel
theorem dX6_factHere_43 : decode cX6_factHere 43 = .ok (.getfield 12, 3) := by decide +kernel
theorem dX6_factHere_46 : decode cX6_factHere 46 = .ok (.ldc 175, 2) := by decide +kernel
theorem dX6_factHere_48 : decode cX6_factHere 48 = .ok (.invokevirtual 55, 3) := by decide +kernel
theorem dX6_factHere_51 : decode cX6_factHere 51 = .ok (.ifCond .eq 5, 3) := by decide +kernel
theorem dX6_factHere_54 : decode cX6_factHere 54 = .ok (.iconst 3, 1) := by decide +kernel
theorem dX6_factHere_55 : decode cX6_factHere 55 = .ok (.ireturn, 1) := by decide +kernel
theorem dX6_factHere_56 : decode cX6_factHere 56 = .ok (.aload_n 0, 1) := by decide +kernel
theorem dX6_factHere_57 : decode cX6_factHere 57 = .ok (.getfield 12, 3) := by decide +kernel
theorem dX6_factHere_60 : decode cX6_factHere 60 = .ok (.ldc 177, 2) := by decide +kernel
theorem dX6_factHere_62 : decode cX6_factHere 62 = .ok (.invokevirtual 55, 3) := by decide +kernel
theorem dX6_factHere_65 : decode cX6_factHere 65 = .ok (.ifCond .eq 5, 3) := by decide +kernel
theorem dX6_factHere_68 : decode cX6_factHere 68 = .ok (.iconst 4, 1) := by decide +kernel
theorem dX6_factHere_69 : decode cX6_factHere 69 = .ok (.ireturn, 1) := by decide +kernel
theorem dX6_factHere_70 : decode cX6_factHere 70 = .ok (.aload_n 0, 1) := by decide +kernel
theorem dX6_factHere_71 : decode cX6_factHere 71 = .ok (.getfield 12, 3) := by decide +kernel
theorem dX6_factHere_74 : decode cX6_factHere 74 = .ok (.ldc 179, 2) := by decide +kernel
theorem dX6_factHere_76 : decode cX6_factHere 76 = .ok (.invokevirtual 55, 3) := by decide +kernel
theorem dX6_factHere_79 : decode cX6_factHere 79 = .ok (.ifCond .eq 7, 3) := by decide +kernel
theorem dX6_factHere_82 : decode cX6_factHere 82 = .ok (.iconst 5, 1) := by decide +kernel
theorem dX6_factHere_83 : decode cX6_factHere 83 = .ok (.goto 4, 3) := by decide +kernel
theorem dX6_factHere_86 : decode cX6_factHere 86 = .ok (.iconst (-1), 1) := by decide +kernel
theorem dX6_factHere_87 : decode cX6_factHere 87 = .ok (.ireturn, 1) := by decide +kernel
theorem dX6_pass_0 : decode cX6_pass 0 = .ok (.aload_n 0, 1) := by decide +kernel
theorem dX6_pass_1 : decode cX6_pass 1 = .ok (.getfield 36, 3) := by decide +kernel
theorem dX6_pass_4 : decode cX6_pass 4 = .ok (.ifCond .ne 22, 3) := by decide +kernel
theorem dX6_pass_7 : decode cX6_pass 7 = .ok (.iload_n 1, 1) := by decide +kernel
theorem dX6_pass_8 : decode cX6_pass 8 = .ok (.ifCond .eq 13, 3) := by decide +kernel
theorem dX6_pass_11 : decode cX6_pass 11 = .ok (.aload_n 0, 1) := by decide +kernel
theorem dX6_pass_12 : decode cX6_pass 12 = .ok (.getfield 12, 3) := by decide +kernel
theorem dX6_pass_15 : decode cX6_pass 15 = .ok (.invokevirtual 82, 3) := by decide +kernel
theorem dX6_pass_18 : decode cX6_pass 18 = .ok (.goto 8, 3) := by decide +kernel
theorem dX6_pass_21 : decode cX6_pass 21 = .ok (.aload_n 0, 1) := by decide +kernel
theorem dX6_pass_22 : decode cX6_pass 22 = .ok (.iconst 2, 1) := by decide +kernel
theorem dX6_pass_23 : decode cX6_pass 23 = .ok (.invokevirtual 79, 3) := by decide +kernel
theorem dX6_pass_26 : decode cX6_pass 26 = .ok (.return_, 1) := by decide +kernel
theorem dX6_passNumber_0 : decode cX6_passNumber 0 = .ok (.aload_n 0, 1) := by decide +kernel
theorem dX6_passNumber_1 : decode cX6_passNumber 1 = .ok (.getfield 36, 3) := by decide +kernel
theorem dX6_passNumber_4 : decode cX6_passNumber 4 = .ok (.ifCond .eq 5, 3) := by decide +kernel
theorem dX6_passNumber_7 : decode cX6_passNumber 7 = .ok (.iconst 0, 1) := by decide +kernel
theorem dX6_passNumber_8 : decode cX6_passNumber 8 = .ok (.ireturn, 1) := by decide +kernel
theorem dX6_passNumber_9 : decode cX6_passNumber 9 = .ok (.aload_n 0, 1) := by decide +kernel
theorem dX6_passNumber_10 : decode cX6_passNumber 10 = .ok (.getfield 12, 3) := by decide +kernel
theorem dX6_passNumber_13 : decode cX6_passNumber 13 = .ok (.getfield 181, 3) := by decide +kernel
theorem dX6_passNumber_16 : decode cX6_passNumber 16 = .ok (.istore_n 3, 1) := by decide +kernel
theorem dX6_passNumber_17 : decode cX6_passNumber 17 = .ok (.aload_n 0, 1) := by decide +kernel
theorem dX6_passNumber_18 : decode cX6_passNumber 18 = .ok (.getfield 12, 3) := by decide +kernel
theorem dX6_passNumber_21 : decode cX6_passNumber 21 = .ok (.getfield 50, 3) := by decide +kernel
theorem dX6_passNumber_24 : decode cX6_passNumber 24 = .ok (.iconst 3, 1) := by decide +kernel
theorem dX6_passNumber_25 : decode cX6_passNumber 25 = .ok (.if_icmp .eq 11, 3) := by decide +kernel
theorem dX6_passNumber_28 : decode cX6_passNumber 28 = .ok (.aload_n 0, 1) := by decide +kernel
theorem dX6_passNumber_29 : decode cX6_passNumber 29 = .ok (.iconst 2, 1) := by decide +kernel
theorem dX6_passNumber_30 : decode cX6_passNumber 30 = .ok (.invokevirtual 79, 3) := by decide +kernel
theorem dX6_passNumber_33 : decode cX6_passNumber 33 = .ok (.goto 28, 3) := by decide +kernel
theorem dX6_passNumber_36 : decode cX6_passNumber 36 = .ok (.iload_n 3, 1) := by decide +kernel
theorem dX6_passNumber_37 : decode cX6_passNumber 37 = .ok (.iload_n 1, 1) := by decide +kernel
theorem dX6_passNumber_38 : decode cX6_passNumber 38 = .ok (.if_icmp .lt 8, 3) := by decide +kernel
theorem dX6_passNumber_41 : decode cX6_passNumber 41 = .ok (.iload_n 3, 1) := by decide +kernel
theorem dX6_passNumber_42 : decode cX6_passNumber 42 = .ok (.iload_n 2, 1) := by decide +kernel
theorem dX6_passNumber_43 : decode cX6_passNumber 43 = .ok (.if_icmp .le 11, 3) := by decide +kernel
theorem dX6_passNumber_46 : decode cX6_passNumber 46 = .ok (.aload_n 0, 1) := by decide +kernel
theorem dX6_passNumber_47 : decode cX6_passNumber 47 = .ok (.iconst 3, 1) := by decide +kernel
theorem dX6_passNumber_48 : decode cX6_passNumber 48 = .ok (.invokevirtual 79, 3) := by decide +kernel
theorem dX6_passNumber_51 : decode cX6_passNumber 51 = .ok (.goto 10, 3) := by decide +kernel
theorem dX6_passNumber_54 : decode cX6_passNumber 54 = .ok (.aload_n 0, 1) := by decide +kernel
theorem dX6_passNumber_55 : decode cX6_passNumber 55 = .ok (.getfield 12, 3) := by decide +kernel
theorem dX6_passNumber_58 : decode cX6_passNumber 58 = .ok (.invokevirtual 82, 3) := by decide +kernel
theorem dX6_passNumber_61 : decode cX6_passNumber 61 = .ok (.iload_n 3, 1) := by decide +kernel
theorem dX6_passNumber_62 : decode cX6_passNumber 62 = .ok (.ireturn, 1) := by decide +kernel
theorem dX6_refuse_0 : decode cX6_refuse 0 = .ok (.aload_n 0, 1) := by decide +kernel
theorem dX6_refuse_1 : decode cX6_refuse 1 = .ok (.aload_n 0, 1) := by decide +kernel
theorem dX6_refuse_2 : decode cX6_refuse 2 = .ok (.getfield 12, 3) := by decide +kernel
theorem dX6_refuse_5 : decode cX6_refuse 5 = .ok (.getfield 50, 3) := by decide +kernel
theorem dX6_refuse_8 : decode cX6_refuse 8 = .ok (.iconst 1, 1) := by decide +kernel
theorem dX6_refuse_9 : decode cX6_refuse 9 = .ok (.if_icmp .ne 7, 3) := by decide +kernel
theorem dX6_refuse_12 : decode cX6_refuse 12 = .ok (.iconst 1, 1) := by decide +kernel
theorem dX6_refuse_13 : decode cX6_refuse 13 = .ok (.goto 4, 3) := by decide +kernel
theorem dX6_refuse_16 : decode cX6_refuse 16 = .ok (.iload_n 1, 1) := by decide +kernel
theorem dX6_refuse_17 : decode cX6_refuse 17 = .ok (.putfield 36, 3) := by decide +kernel
theorem dX6_refuse_20 : decode cX6_refuse 20 = .ok (.aload_n 0, 1) := by decide +kernel
theorem dX6_refuse_21 : decode cX6_refuse 21 = .ok (.aload_n 0, 1) := by decide +kernel
theorem dX6_refuse_22 : decode cX6_refuse 22 = .ok (.getfield 12, 3) := by decide +kernel
theorem dX6_refuse_25 : decode cX6_refuse 25 = .ok (.getfield 184, 3) := by decide +kernel
theorem dX6_refuse_28 : decode cX6_refuse 28 = .ok (.putfield 39, 3) := by decide +kernel
theorem dX6_refuse_31 : decode cX6_refuse 31 = .ok (.return_, 1) := by decide +kernel
theorem dX7_init_0 : decode cX7_init 0 = .ok (.aload_n 0, 1) := by decide +kernel
theorem dX7_init_1 : decode cX7_init 1 = .ok (.invokespecial 3, 3) := by decide +kernel
theorem dX7_init_4 : decode cX7_init 4 = .ok (.aload_n 0, 1) := by decide +kernel
theorem dX7_init_5 : decode cX7_init 5 = .ok (.iconst (-1), 1) := by decide +kernel
theorem dX7_init_6 : decode cX7_init 6 = .ok (.putfield 9, 3) := by decide +kernel
theorem dX7_init_9 : decode cX7_init 9 = .ok (.aload_n 0, 1) := by decide +kernel
theorem dX7_init_10 : decode cX7_init 10 = .ok (.bipush 40, 2) := by decide +kernel
theorem dX7_init_12 : decode cX7_init 12 = .ok (.newarray .long, 2) := by decide +kernel
theorem dX7_init_14 : decode cX7_init 14 = .ok (.putfield 15, 3) := by decide +kernel
theorem dX7_init_17 : decode cX7_init 17 = .ok (.return_, 1) := by decide +kernel
theorem dX7_begin_0 : decode cX7_begin 0 = .ok (.aload_n 0, 1) := by decide +kernel
theorem dX7_begin_1 : decode cX7_begin 1 = .ok (.iload_n 1, 1) := by decide +kernel
theorem dX7_begin_2 : decode cX7_begin 2 = .ok (.putfield 19, 3) := by decide +kernel
theorem dX7_begin_5 : decode cX7_begin 5 = .ok (.aload_n 0, 1) := by decide +kernel
theorem dX7_begin_6 : decode cX7_begin 6 = .ok (.iload_n 2, 1) := by decide +kernel
theorem dX7_begin_7 : decode cX7_begin 7 = .ok (.putfield 9, 3) := by decide +kernel
theorem dX7_begin_10 : decode cX7_begin 10 = .ok (.iconst 0, 1) := by decide +kernel
theorem dX7_begin_11 : decode cX7_begin 11 = .ok (.istore_n 3, 1) := by decide +kernel
theorem dX7_begin_12 : decode cX7_begin 12 = .ok (.iload_n 3, 1) := by decide +kernel
theorem dX7_begin_13 : decode cX7_begin 13 = .ok (.bipush 40, 2) := by decide +kernel
theorem dX7_begin_15 : decode cX7_begin 15 = .ok (.if_icmp .ge 16, 3) := by decide +kernel
theorem dX7_begin_18 : decode cX7_begin 18 = .ok (.aload_n 0, 1) := by decide +kernel
theorem dX7_begin_19 : decode cX7_begin 19 = .ok (.getfield 15, 3) := by decide +kernel
theorem dX7_begin_22 : decode cX7_begin 22 = .ok (.iload_n 3, 1) := by decide +kernel
theorem dX7_begin_23 : decode cX7_begin 23 = .ok (.lconst 0, 1) := by decide +kernel
theorem dX7_begin_24 : decode cX7_begin 24 = .ok (.lastore, 1) := by decide +kernel
theorem dX7_begin_25 : decode cX7_begin 25 = .ok (.iinc 3 1, 3) := by decide +kernel
theorem dX7_begin_28 : decode cX7_begin 28 = .ok (.goto (-16), 3) := by decide +kernel
theorem dX7_begin_31 : decode cX7_begin 31 = .ok (.return_, 1) := by decide +kernel
theorem dX7_set_0 : decode cX7_set 0 = .ok (.aload_n 0, 1) := by decide +kernel
theorem dX7_set_1 : decode cX7_set 1 = .ok (.getfield 15, 3) := by decide +kernel
theorem dX7_set_4 : decode cX7_set 4 = .ok (.iload_n 1, 1) := by decide +kernel
theorem dX7_set_5 : decode cX7_set 5 = .ok (.aload_n 0, 1) := by decide +kernel
theorem dX7_set_6 : decode cX7_set 6 = .ok (.lload_n 2, 1) := by decide +kernel
theorem dX7_set_7 : decode cX7_set 7 = .ok (.invokevirtual 22, 3) := by decide +kernel
theorem dX7_set_10 : decode cX7_set 10 = .ok (.lastore, 1) := by decide +kernel
theorem dX7_set_11 : decode cX7_set 11 = .ok (.aload_n 0, 1) := by decide +kernel
theorem dX7_set_12 : decode cX7_set 12 = .ok (.getfield 15, 3) := by decide +kernel
theorem dX7_set_15 : decode cX7_set 15 = .ok (.iload_n 1, 1) := by decide +kernel
theorem dX7_set_16 : decode cX7_set 16 = .ok (.laload, 1) := by decide +kernel
theorem dX7_set_17 : decode cX7_set 17 = .ok (.lreturn, 1) := by decide +kernel
theorem dX7_cut_0 : decode cX7_cut 0 = .ok (.aload_n 0, 1) := by decide +kernel
theorem dX7_cut_1 : decode cX7_cut 1 = .ok (.getfield 19, 3) := by decide +kernel
theorem dX7_cut_4 : decode cX7_cut 4 = .ok (.tableswitch 42 0 2 #[28, 33, 38], 28) := by decide +kernel
theorem dX7_cut_32 : decode cX7_cut 32 = .ok (.lload_n 1, 1) := by decide +kernel
theorem dX7_cut_33 : decode cX7_cut 33 = .ok (.l2i, 1) := by decide +kernel
theorem dX7_cut_34 : decode cX7_cut 34 = .ok (.i2b, 1) := by decide +kernel
theorem dX7_cut_35 : decode cX7_cut 35 = .ok (.i2l, 1) := by decide +kernel
theorem dX7_cut_36 : decode cX7_cut 36 = .ok (.lreturn, 1) := by decide +kernel
theorem dX7_cut_37 : decode cX7_cut 37 = .ok (.lload_n 1, 1) := by decide +kernel
theorem dX7_cut_38 : decode cX7_cut 38 = .ok (.l2i, 1) := by decide +kernel
theorem dX7_cut_39 : decode cX7_cut 39 = .ok (.i2s, 1) := by decide +kernel
theorem dX7_cut_40 : decode cX7_cut 40 = .ok (.i2l, 1) := by decide +kernel
theorem dX7_cut_41 : decode cX7_cut 41 = .ok (.lreturn, 1) := by decide +kernel
theorem dX7_cut_42 : decode cX7_cut 42 = .ok (.lload_n 1, 1) := by decide +kernel
theorem dX7_cut_43 : decode cX7_cut 43 = .ok (.l2i, 1) := by decide +kernel
theorem dX7_cut_44 : decode cX7_cut 44 = .ok (.i2l, 1) := by decide +kernel
theorem dX7_cut_45 : decode cX7_cut 45 = .ok (.lreturn, 1) := by decide +kernel
theorem dX7_cut_46 : decode cX7_cut 46 = .ok (.lload_n 1, 1) := by decide +kernel
theorem dX7_cut_47 : decode cX7_cut 47 = .ok (.lreturn, 1) := by decide +kernel
theorem dX7_small_0 : decode cX7_small 0 = .ok (.aload_n 0, 1) := by decide +kernel
theorem dX7_small_1 : decode cX7_small 1 = .ok (.getfield 15, 3) := by decide +kernel
theorem dX7_small_4 : decode cX7_small 4 = .ok (.iload_n 1, 1) := by decide +kernel
theorem dX7_small_5 : decode cX7_small 5 = .ok (.laload, 1) := by decide +kernel
theorem dX7_small_6 : decode cX7_small 6 = .ok (.lstore_n 2, 1) := by decide +kernel
theorem dX7_small_7 : decode cX7_small 7 = .ok (.lconst 0, 1) := by decide +kernel
theorem dX7_small_8 : decode cX7_small 8 = .ok (.lload_n 2, 1) := by decide +kernel
theorem dX7_small_9 : decode cX7_small 9 = .ok (.lcmp, 1) := by decide +kernel
theorem dX7_small_10 : decode cX7_small 10 = .ok (.ifCond .gt 16, 3) := by decide +kernel
theorem dX7_small_13 : decode cX7_small 13 = .ok (.lload_n 2, 1) := by decide +kernel
theorem dX7_small_14 : decode cX7_small 14 = .ok (.ldc2_w 26, 3) := by decide +kernel
theorem dX7_small_17 : decode cX7_small 17 = .ok (.lcmp, 1) := by decide +kernel
theorem dX7_small_18 : decode cX7_small 18 = .ok (.ifCond .gt 8, 3) := by decide +kernel
theorem dX7_small_21 : decode cX7_small 21 = .ok (.lload_n 2, 1) := by decide +kernel
theorem dX7_small_22 : decode cX7_small 22 = .ok (.l2i, 1) := by decide +kernel
theorem dX7_small_23 : decode cX7_small 23 = .ok (.goto 4, 3) := by decide +kernel
theorem dX7_small_26 : decode cX7_small 26 = .ok (.iconst (-1), 1) := by decide +kernel
theorem dX7_small_27 : decode cX7_small 27 = .ok (.ireturn, 1) := by decide +kernel
theorem dX9_init_0 : decode cX9_init 0 = .ok (.aload_n 0, 1) := by decide +kernel
theorem dX9_init_1 : decode cX9_init 1 = .ok (.invokespecial 3, 3) := by decide +kernel
theorem dX9_init_4 : decode cX9_init 4 = .ok (.aload_n 0, 1) := by decide +kernel
theorem dX9_init_5 : decode cX9_init 5 = .ok (.sipush 400, 3) := by decide +kernel
theorem dX9_init_8 : decode cX9_init 8 = .ok (.newarray .byte, 2) := by decide +kernel
theorem dX9_init_10 : decode cX9_init 10 = .ok (.putfield 9, 3) := by decide +kernel
theorem dX9_init_13 : decode cX9_init 13 = .ok (.return_, 1) := by decide +kernel
theorem dX9_append_0 : decode cX9_append 0 = .ok (.bipush 24, 2) := by decide +kernel
theorem dX9_append_2 : decode cX9_append 2 = .ok (.istore_n 2, 1) := by decide +kernel
theorem dX9_append_3 : decode cX9_append 3 = .ok (.iload_n 2, 1) := by decide +kernel
theorem dX9_append_4 : decode cX9_append 4 = .ok (.ifCond .lt 42, 3) := by decide +kernel
theorem dX9_append_7 : decode cX9_append 7 = .ok (.aload_n 0, 1) := by decide +kernel
theorem dX9_append_8 : decode cX9_append 8 = .ok (.getfield 15, 3) := by decide +kernel
theorem dX9_append_11 : decode cX9_append 11 = .ok (.sipush 400, 3) := by decide +kernel
theorem dX9_append_14 : decode cX9_append 14 = .ok (.if_icmp .ge 32, 3) := by decide +kernel
theorem dX9_append_17 : decode cX9_append 17 = .ok (.aload_n 0, 1) := by decide +kernel
theorem dX9_append_18 : decode cX9_append 18 = .ok (.getfield 9, 3) := by decide +kernel
theorem dX9_append_21 : decode cX9_append 21 = .ok (.aload_n 0, 1) := by decide +kernel
theorem dX9_append_22 : decode cX9_append 22 = .ok (.getfield 15, 3) := by decide +kernel
theorem dX9_append_25 : decode cX9_append 25 = .ok (.iload_n 1, 1) := by decide +kernel
theorem dX9_append_26 : decode cX9_append 26 = .ok (.iload_n 2, 1) := by decide +kernel
theorem dX9_append_27 : decode cX9_append 27 = .ok (.iushr, 1) := by decide +kernel
theorem dX9_append_28 : decode cX9_append 28 = .ok (.i2b, 1) := by decide +kernel
theorem dX9_append_29 : decode cX9_append 29 = .ok (.bastore, 1) := by decide +kernel
theorem dX9_append_30 : decode cX9_append 30 = .ok (.aload_n 0, 1) := by decide +kernel
theorem dX9_append_31 : decode cX9_append 31 = .ok (.dup, 1) := by decide +kernel
theorem dX9_append_32 : decode cX9_append 32 = .ok (.getfield 15, 3) := by decide +kernel
theorem dX9_append_35 : decode cX9_append 35 = .ok (.iconst 1, 1) := by decide +kernel
theorem dX9_append_36 : decode cX9_append 36 = .ok (.iadd, 1) := by decide +kernel
theorem dX9_append_37 : decode cX9_append 37 = .ok (.putfield 15, 3) := by decide +kernel
theorem dX9_append_40 : decode cX9_append 40 = .ok (.iinc 2 (-8), 3) := by decide +kernel
theorem dX9_append_43 : decode cX9_append 43 = .ok (.goto (-40), 3) := by decide +kernel
theorem dX9_append_46 : decode cX9_append 46 = .ok (.return_, 1) := by decide +kernel
theorem dX9_begin_0 : decode cX9_begin 0 = .ok (.aload_n 0, 1) := by decide +kernel
theorem dX9_begin_1 : decode cX9_begin 1 = .ok (.iload_n 1, 1) := by decide +kernel
theorem dX9_begin_2 : decode cX9_begin 2 = .ok (.aload_n 0, 1) := by decide +kernel
theorem dX9_begin_3 : decode cX9_begin 3 = .ok (.getfield 15, 3) := by decide +kernel
theorem dX9_begin_6 : decode cX9_begin 6 = .ok (.invokestatic 19, 3) := by decide +kernel
theorem dX9_begin_9 : decode cX9_begin 9 = .ok (.putfield 25, 3) := by decide +kernel
theorem dX9_begin_12 : decode cX9_begin 12 = .ok (.aload_n 0, 1) := by decide +kernel
theorem dX9_begin_13 : decode cX9_begin 13 = .ok (.iconst 0, 1) := by decide +kernel
theorem dX9_begin_14 : decode cX9_begin 14 = .ok (.putfield 15, 3) := by decide +kernel
theorem dX9_begin_17 : decode cX9_begin 17 = .ok (.aload_n 0, 1) := by decide +kernel
theorem dX9_begin_18 : decode cX9_begin 18 = .ok (.iconst 0, 1) := by decide +kernel
theorem dX9_begin_19 : decode cX9_begin 19 = .ok (.putfield 28, 3) := by decide +kernel
theorem dX9_begin_22 : decode cX9_begin 22 = .ok (.aload_n 0, 1) := by decide +kernel
theorem dX9_begin_23 : decode cX9_begin 23 = .ok (.invokevirtual 31, 3) := by decide +kernel
theorem dX9_begin_26 : decode cX9_begin 26 = .ok (.return_, 1) := by decide +kernel
theorem dX9_step_0 : decode cX9_step 0 = .ok (.aload_n 0, 1) := by decide +kernel
theorem dX9_step_1 : decode cX9_step 1 = .ok (.aload_n 0, 1) := by decide +kernel
theorem dX9_step_2 : decode cX9_step 2 = .ok (.getfield 28, 3) := by decide +kernel
theorem dX9_step_5 : decode cX9_step 5 = .ok (.putfield 34, 3) := by decide +kernel
theorem dX9_step_8 : decode cX9_step 8 = .ok (.aload_n 0, 1) := by decide +kernel
theorem dX9_step_9 : decode cX9_step 9 = .ok (.getfield 34, 3) := by decide +kernel
theorem dX9_step_12 : decode cX9_step 12 = .ok (.aload_n 0, 1) := by decide +kernel
theorem dX9_step_13 : decode cX9_step 13 = .ok (.getfield 25, 3) := by decide +kernel
theorem dX9_step_16 : decode cX9_step 16 = .ok (.if_icmp .ge 44, 3) := by decide +kernel
theorem dX9_step_19 : decode cX9_step 19 = .ok (.aload_n 0, 1) := by decide +kernel
theorem dX9_step_20 : decode cX9_step 20 = .ok (.getfield 9, 3) := by decide +kernel
theorem dX9_step_23 : decode cX9_step 23 = .ok (.aload_n 0, 1) := by decide +kernel
theorem dX9_step_24 : decode cX9_step 24 = .ok (.getfield 34, 3) := by decide +kernel
theorem dX9_step_27 : decode cX9_step 27 = .ok (.baload, 1) := by decide +kernel
theorem dX9_step_28 : decode cX9_step 28 = .ok (.bipush 32, 2) := by decide +kernel
theorem dX9_step_30 : decode cX9_step 30 = .ok (.if_icmp .eq 17, 3) := by decide +kernel
theorem dX9_step_33 : decode cX9_step 33 = .ok (.aload_n 0, 1) := by decide +kernel
theorem dX9_step_34 : decode cX9_step 34 = .ok (.getfield 9, 3) := by decide +kernel
theorem dX9_step_37 : decode cX9_step 37 = .ok (.aload_n 0, 1) := by decide +kernel
theorem dX9_step_38 : decode cX9_step 38 = .ok (.getfield 34, 3) := by decide +kernel
theorem dX9_step_41 : decode cX9_step 41 = .ok (.baload, 1) := by decide +kernel
theorem dX9_step_42 : decode cX9_step 42 = .ok (.bipush 10, 2) := by decide +kernel
theorem dX9_step_44 : decode cX9_step 44 = .ok (.if_icmp .ne 16, 3) := by decide +kernel
theorem dX9_step_47 : decode cX9_step 47 = .ok (.aload_n 0, 1) := by decide +kernel
theorem dX9_step_48 : decode cX9_step 48 = .ok (.dup, 1) := by decide +kernel
theorem dX9_step_49 : decode cX9_step 49 = .ok (.getfield 34, 3) := by decide +kernel
theorem dX9_step_52 : decode cX9_step 52 = .ok (.iconst 1, 1) := by decide +kernel
theorem dX9_step_53 : decode cX9_step 53 = .ok (.iadd, 1) := by decide +kernel
theorem dX9_step_54 : decode cX9_step 54 = .ok (.putfield 34, 3) := by decide +kernel
theorem dX9_step_57 : decode cX9_step 57 = .ok (.goto (-49), 3) := by decide +kernel
theorem dX9_step_60 : decode cX9_step 60 = .ok (.aload_n 0, 1) := by decide +kernel
theorem dX9_step_61 : decode cX9_step 61 = .ok (.aload_n 0, 1) := by decide +kernel
theorem dX9_step_62 : decode cX9_step 62 = .ok (.getfield 34, 3) := by decide +kernel
theorem dX9_step_65 : decode cX9_step 65 = .ok (.putfield 28, 3) := by decide +kernel
theorem dX9_step_68 : decode cX9_step 68 = .ok (.aload_n 0, 1) := by decide +kernel
theorem dX9_step_69 : decode cX9_step 69 = .ok (.iconst 0, 1) := by decide +kernel
theorem dX9_step_70 : decode cX9_step 70 = .ok (.putfield 37, 3) := by decide +kernel
theorem dX9_step_73 : decode cX9_step 73 = .ok (.aload_n 0, 1) := by decide +kernel
theorem dX9_step_74 : decode cX9_step 74 = .ok (.getfield 28, 3) := by decide +kernel
theorem dX9_step_77 : decode cX9_step 77 = .ok (.aload_n 0, 1) := by decide +kernel
theorem dX9_step_78 : decode cX9_step 78 = .ok (.getfield 25, 3) := by decide +kernel
theorem dX9_step_81 : decode cX9_step 81 = .ok (.if_icmp .ge 44, 3) := by decide +kernel
theorem dX9_step_84 : decode cX9_step 84 = .ok (.bipush 97, 2) := by decide +kernel
theorem dX9_step_86 : decode cX9_step 86 = .ok (.aload_n 0, 1) := by decide +kernel
theorem dX9_step_87 : decode cX9_step 87 = .ok (.getfield 9, 3) := by decide +kernel
theorem dX9_step_90 : decode cX9_step 90 = .ok (.aload_n 0, 1) := by decide +kernel
theorem dX9_step_91 : decode cX9_step 91 = .ok (.getfield 28, 3) := by decide +kernel
theorem dX9_step_94 : decode cX9_step 94 = .ok (.baload, 1) := by decide +kernel
theorem dX9_step_95 : decode cX9_step 95 = .ok (.if_icmp .gt 30, 3) := by decide +kernel
theorem dX9_step_98 : decode cX9_step 98 = .ok (.aload_n 0, 1) := by decide +kernel
theorem dX9_step_99 : decode cX9_step 99 = .ok (.getfield 9, 3) := by decide +kernel
theorem dX9_step_102 : decode cX9_step 102 = .ok (.aload_n 0, 1) := by decide +kernel
theorem dX9_step_103 : decode cX9_step 103 = .ok (.getfield 28, 3) := by decide +kernel
theorem dX9_step_106 : decode cX9_step 106 = .ok (.baload, 1) := by decide +kernel
theorem dX9_step_107 : decode cX9_step 107 = .ok (.bipush 122, 2) := by decide +kernel
theorem dX9_step_109 : decode cX9_step 109 = .ok (.if_icmp .gt 16, 3) := by decide +kernel
theorem dX9_step_112 : decode cX9_step 112 = .ok (.aload_n 0, 1) := by decide +kernel
theorem dX9_step_113 : decode cX9_step 113 = .ok (.dup, 1) := by decide +kernel
theorem dX9_step_114 : decode cX9_step 114 = .ok (.getfield 28, 3) := by decide +kernel
theorem dX9_step_117 : decode cX9_step 117 = .ok (.iconst 1, 1) := by decide +kernel
theorem dX9_step_118 : decode cX9_step 118 = .ok (.iadd, 1) := by decide +kernel
theorem dX9_step_119 : decode cX9_step 119 = .ok (.putfield 28, 3) := by decide +kernel
theorem dX9_step_122 : decode cX9_step 122 = .ok (.goto (-49), 3) := by decide +kernel
theorem dX9_step_125 : decode cX9_step 125 = .ok (.aload_n 0, 1) := by decide +kernel
theorem dX9_step_126 : decode cX9_step 126 = .ok (.getfield 28, 3) := by decide +kernel
theorem dX9_step_129 : decode cX9_step 129 = .ok (.aload_n 0, 1) := by decide +kernel
theorem dX9_step_130 : decode cX9_step 130 = .ok (.getfield 34, 3) := by decide +kernel
theorem dX9_step_133 : decode cX9_step 133 = .ok (.if_icmp .le 9, 3) := by decide +kernel
theorem dX9_step_136 : decode cX9_step 136 = .ok (.aload_n 0, 1) := by decide +kernel
theorem dX9_step_137 : decode cX9_step 137 = .ok (.iconst 2, 1) := by decide +kernel
theorem dX9_step_138 : decode cX9_step 138 = .ok (.putfield 40, 3) := by decide +kernel
theorem dX9_step_141 : decode cX9_step 141 = .ok (.return_, 1) := by decide +kernel
theorem dX9_step_142 : decode cX9_step 142 = .ok (.aload_n 0, 1) := by decide +kernel
theorem dX9_step_143 : decode cX9_step 143 = .ok (.getfield 28, 3) := by decide +kernel
theorem dX9_step_146 : decode cX9_step 146 = .ok (.aload_n 0, 1) := by decide +kernel
theorem dX9_step_147 : decode cX9_step 147 = .ok (.getfield 25, 3) := by decide +kernel
theorem dX9_step_150 : decode cX9_step 150 = .ok (.if_icmp .ge 85, 3) := by decide +kernel
theorem dX9_step_153 : decode cX9_step 153 = .ok (.bipush 48, 2) := by decide +kernel
theorem dX9_step_155 : decode cX9_step 155 = .ok (.aload_n 0, 1) := by decide +kernel
theorem dX9_step_156 : decode cX9_step 156 = .ok (.getfield 9, 3) := by decide +kernel
theorem dX9_step_159 : decode cX9_step 159 = .ok (.aload_n 0, 1) := by decide +kernel
theorem dX9_step_160 : decode cX9_step 160 = .ok (.getfield 28, 3) := by decide +kernel
theorem dX9_step_163 : decode cX9_step 163 = .ok (.baload, 1) := by decide +kernel
theorem dX9_step_164 : decode cX9_step 164 = .ok (.if_icmp .gt 71, 3) := by decide +kernel
theorem dX9_step_167 : decode cX9_step 167 = .ok (.aload_n 0, 1) := by decide +kernel
theorem dX9_step_168 : decode cX9_step 168 = .ok (.getfield 9, 3) := by decide +kernel
theorem dX9_step_171 : decode cX9_step 171 = .ok (.aload_n 0, 1) := by decide +kernel
theorem dX9_step_172 : decode cX9_step 172 = .ok (.getfield 28, 3) := by decide +kernel
theorem dX9_step_175 : decode cX9_step 175 = .ok (.baload, 1) := by decide +kernel
theorem dX9_step_176 : decode cX9_step 176 = .ok (.bipush 57, 2) := by decide +kernel
theorem dX9_step_178 : decode cX9_step 178 = .ok (.if_icmp .gt 57, 3) := by decide +kernel
theorem dX9_step_181 : decode cX9_step 181 = .ok (.aload_n 0, 1) := by decide +kernel
theorem dX9_step_182 : decode cX9_step 182 = .ok (.aload_n 0, 1) := by decide +kernel
theorem dX9_step_183 : decode cX9_step 183 = .ok (.getfield 28, 3) := by decide +kernel
theorem dX9_step_186 : decode cX9_step 186 = .ok (.aload_n 0, 1) := by decide +kernel
theorem dX9_step_187 : decode cX9_step 187 = .ok (.getfield 34, 3) := by decide +kernel
theorem dX9_step_190 : decode cX9_step 190 = .ok (.isub, 1) := by decide +kernel
theorem dX9_step_191 : decode cX9_step 191 = .ok (.iconst 3, 1) := by decide +kernel
theorem dX9_step_192 : decode cX9_step 192 = .ok (.if_icmp .ge 26, 3) := by decide +kernel
theorem dX9_step_195 : decode cX9_step 195 = .ok (.bipush 10, 2) := by decide +kernel
theorem dX9_step_197 : decode cX9_step 197 = .ok (.aload_n 0, 1) := by decide +kernel
theorem dX9_step_198 : decode cX9_step 198 = .ok (.getfield 37, 3) := by decide +kernel
theorem dX9_step_201 : decode cX9_step 201 = .ok (.imul, 1) := by decide +kernel
theorem dX9_step_202 : decode cX9_step 202 = .ok (.aload_n 0, 1) := by decide +kernel
theorem dX9_step_203 : decode cX9_step 203 = .ok (.getfield 9, 3) := by decide +kernel
theorem dX9_step_206 : decode cX9_step 206 = .ok (.aload_n 0, 1) := by decide +kernel
theorem dX9_step_207 : decode cX9_step 207 = .ok (.getfield 28, 3) := by decide +kernel
theorem dX9_step_210 : decode cX9_step 210 = .ok (.baload, 1) := by decide +kernel
theorem dX9_step_211 : decode cX9_step 211 = .ok (.iadd, 1) := by decide +kernel
theorem dX9_step_212 : decode cX9_step 212 = .ok (.bipush 48, 2) := by decide +kernel
theorem dX9_step_214 : decode cX9_step 214 = .ok (.isub, 1) := by decide +kernel
theorem dX9_step_215 : decode cX9_step 215 = .ok (.goto 4, 3) := by decide +kernel
theorem dX9_step_218 : decode cX9_step 218 = .ok (.iconst 0, 1) := by decide +kernel
theorem dX9_step_219 : decode cX9_step 219 = .ok (.putfield 37, 3) := by decide +kernel
theorem dX9_step_222 : decode cX9_step 222 = .ok (.aload_n 0, 1) := by decide +kernel
theorem dX9_step_223 : decode cX9_step 223 = .ok (.dup, 1) := by decide +kernel
theorem dX9_step_224 : decode cX9_step 224 = .ok (.getfield 28, 3) := by decide +kernel
theorem dX9_step_227 : decode cX9_step 227 = .ok (.iconst 1, 1) := by decide +kernel
theorem dX9_step_228 : decode cX9_step 228 = .ok (.iadd, 1) := by decide +kernel
theorem dX9_step_229 : decode cX9_step 229 = .ok (.putfield 28, 3) := by decide +kernel
theorem dX9_step_232 : decode cX9_step 232 = .ok (.goto (-90), 3) := by decide +kernel
theorem dX9_step_235 : decode cX9_step 235 = .ok (.aload_n 0, 1) := by decide +kernel
theorem dX9_step_236 : decode cX9_step 236 = .ok (.getfield 28, 3) := by decide +kernel
theorem dX9_step_239 : decode cX9_step 239 = .ok (.aload_n 0, 1) := by decide +kernel
theorem dX9_step_240 : decode cX9_step 240 = .ok (.getfield 34, 3) := by decide +kernel
theorem dX9_step_243 : decode cX9_step 243 = .ok (.if_icmp .le 28, 3) := by decide +kernel
theorem dX9_step_246 : decode cX9_step 246 = .ok (.aload_n 0, 1) := by decide +kernel
theorem dX9_step_247 : decode cX9_step 247 = .ok (.aload_n 0, 1) := by decide +kernel
theorem dX9_step_248 : decode cX9_step 248 = .ok (.getfield 28, 3) := by decide +kernel
theorem dX9_step_251 : decode cX9_step 251 = .ok (.aload_n 0, 1) := by decide +kernel
theorem dX9_step_252 : decode cX9_step 252 = .ok (.getfield 34, 3) := by decide +kernel
theorem dX9_step_255 : decode cX9_step 255 = .ok (.isub, 1) := by decide +kernel
theorem dX9_step_256 : decode cX9_step 256 = .ok (.iconst 3, 1) := by decide +kernel
theorem dX9_step_257 : decode cX9_step 257 = .ok (.if_icmp .gt 7, 3) := by decide +kernel
theorem dX9_step_260 : decode cX9_step 260 = .ok (.iconst 3, 1) := by decide +kernel
theorem dX9_step_261 : decode cX9_step 261 = .ok (.goto 4, 3) := by decide +kernel
theorem dX9_step_264 : decode cX9_step 264 = .ok (.iconst 1, 1) := by decide +kernel
theorem dX9_step_265 : decode cX9_step 265 = .ok (.putfield 40, 3) := by decide +kernel
theorem dX9_step_268 : decode cX9_step 268 = .ok (.goto 81, 3) := by decide +kernel
theorem dX9_step_271 : decode cX9_step 271 = .ok (.aload_n 0, 1) := by decide +kernel
theorem dX9_step_272 : decode cX9_step 272 = .ok (.getfield 34, 3) := by decide +kernel
theorem dX9_step_275 : decode cX9_step 275 = .ok (.aload_n 0, 1) := by decide +kernel
theorem dX9_step_276 : decode cX9_step 276 = .ok (.getfield 25, 3) := by decide +kernel
theorem dX9_step_279 : decode cX9_step 279 = .ok (.if_icmp .lt 11, 3) := by decide +kernel
theorem dX9_step_282 : decode cX9_step 282 = .ok (.aload_n 0, 1) := by decide +kernel
theorem dX9_step_283 : decode cX9_step 283 = .ok (.iconst 0, 1) := by decide +kernel
theorem dX9_step_284 : decode cX9_step 284 = .ok (.putfield 40, 3) := by decide +kernel
theorem dX9_step_287 : decode cX9_step 287 = .ok (.goto 62, 3) := by decide +kernel
theorem dX9_step_290 : decode cX9_step 290 = .ok (.aload_n 0, 1) := by decide +kernel
theorem dX9_step_291 : decode cX9_step 291 = .ok (.aload_n 0, 1) := by decide +kernel
theorem dX9_step_292 : decode cX9_step 292 = .ok (.getfield 9, 3) := by decide +kernel
theorem dX9_step_295 : decode cX9_step 295 = .ok (.aload_n 0, 1) := by decide +kernel
theorem dX9_step_296 : decode cX9_step 296 = .ok (.getfield 34, 3) := by decide +kernel
theorem dX9_step_299 : decode cX9_step 299 = .ok (.baload, 1) := by decide +kernel
theorem dX9_step_300 : decode cX9_step 300 = .ok (.putfield 37, 3) := by decide +kernel
theorem dX9_step_303 : decode cX9_step 303 = .ok (.aload_n 0, 1) := by decide +kernel
theorem dX9_step_304 : decode cX9_step 304 = .ok (.aload_n 0, 1) := by decide +kernel
theorem dX9_step_305 : decode cX9_step 305 = .ok (.getfield 37, 3) := by decide +kernel
theorem dX9_step_308 : decode cX9_step 308 = .ok (.bipush 59, 2) := by decide +kernel
theorem dX9_step_310 : decode cX9_step 310 = .ok (.if_icmp .eq 21, 3) := by decide +kernel
theorem dX9_step_313 : decode cX9_step 313 = .ok (.aload_n 0, 1) := by decide +kernel
theorem dX9_step_314 : decode cX9_step 314 = .ok (.getfield 37, 3) := by decide +kernel
theorem dX9_step_317 : decode cX9_step 317 = .ok (.bipush 40, 2) := by decide +kernel
theorem dX9_step_319 : decode cX9_step 319 = .ok (.if_icmp .eq 12, 3) := by decide +kernel
theorem dX9_step_322 : decode cX9_step 322 = .ok (.aload_n 0, 1) := by decide +kernel
theorem dX9_step_323 : decode cX9_step 323 = .ok (.getfield 37, 3) := by decide +kernel
theorem dX9_step_326 : decode cX9_step 326 = .ok (.bipush 41, 2) := by decide +kernel
theorem dX9_step_328 : decode cX9_step 328 = .ok (.if_icmp .ne 7, 3) := by decide +kernel
theorem dX9_step_331 : decode cX9_step 331 = .ok (.iconst 4, 1) := by decide +kernel
theorem dX9_step_332 : decode cX9_step 332 = .ok (.goto 4, 3) := by decide +kernel
theorem dX9_step_335 : decode cX9_step 335 = .ok (.iconst 1, 1) := by decide +kernel
theorem dX9_step_336 : decode cX9_step 336 = .ok (.putfield 40, 3) := by decide +kernel
theorem dX9_step_339 : decode cX9_step 339 = .ok (.aload_n 0, 1) := by decide +kernel
theorem dX9_step_340 : decode cX9_step 340 = .ok (.dup, 1) := by decide +kernel
theorem dX9_step_341 : decode cX9_step 341 = .ok (.getfield 28, 3) := by decide +kernel
theorem dX9_step_344 : decode cX9_step 344 = .ok (.iconst 1, 1) := by decide +kernel
theorem dX9_step_345 : decode cX9_step 345 = .ok (.iadd, 1) := by decide +kernel
theorem dX9_step_346 : decode cX9_step 346 = .ok (.putfield 28, 3) := by decide +kernel
theorem dX9_step_349 : decode cX9_step 349 = .ok (.return_, 1) := by decide +kernel
theorem dX9_isSign_0 : decode cX9_isSign 0 = .ok (.aload_n 0, 1) := by decide +kernel
theorem dX9_isSign_1 : decode cX9_isSign 1 = .ok (.getfield 40, 3) := by decide +kernel
theorem dX9_isSign_4 : decode cX9_isSign 4 = .ok (.iconst 4, 1) := by decide +kernel
theorem dX9_isSign_5 : decode cX9_isSign 5 = .ok (.if_icmp .ne 15, 3) := by decide +kernel
theorem dX9_isSign_8 : decode cX9_isSign 8 = .ok (.aload_n 0, 1) := by decide +kernel
theorem dX9_isSign_9 : decode cX9_isSign 9 = .ok (.getfield 37, 3) := by decide +kernel
theorem dX9_isSign_12 : decode cX9_isSign 12 = .ok (.iload_n 1, 1) := by decide +kernel
theorem dX9_isSign_13 : decode cX9_isSign 13 = .ok (.if_icmp .ne 7, 3) := by decide +kernel
theorem dX9_isSign_16 : decode cX9_isSign 16 = .ok (.iconst 1, 1) := by decide +kernel
theorem dX9_isSign_17 : decode cX9_isSign 17 = .ok (.goto 4, 3) := by decide +kernel
theorem dX9_isSign_20 : decode cX9_isSign 20 = .ok (.iconst 0, 1) := by decide +kernel
theorem dX9_isSign_21 : decode cX9_isSign 21 = .ok (.ireturn, 1) := by decide +kernel
theorem dX9_spells_0 : decode cX9_spells 0 = .ok (.aload_n 0, 1) := by decide +kernel
theorem dX9_spells_1 : decode cX9_spells 1 = .ok (.getfield 40, 3) := by decide +kernel
theorem dX9_spells_4 : decode cX9_spells 4 = .ok (.iconst 2, 1) := by decide +kernel
theorem dX9_spells_5 : decode cX9_spells 5 = .ok (.if_icmp .ne 19, 3) := by decide +kernel
theorem dX9_spells_8 : decode cX9_spells 8 = .ok (.aload_n 0, 1) := by decide +kernel
theorem dX9_spells_9 : decode cX9_spells 9 = .ok (.getfield 28, 3) := by decide +kernel
theorem dX9_spells_12 : decode cX9_spells 12 = .ok (.aload_n 0, 1) := by decide +kernel
theorem dX9_spells_13 : decode cX9_spells 13 = .ok (.getfield 34, 3) := by decide +kernel
theorem dX9_spells_16 : decode cX9_spells 16 = .ok (.isub, 1) := by decide +kernel
theorem dX9_spells_17 : decode cX9_spells 17 = .ok (.aload_n 1, 1) := by decide +kernel
theorem dX9_spells_18 : decode cX9_spells 18 = .ok (.invokevirtual 43, 3) := by decide +kernel
theorem dX9_spells_21 : decode cX9_spells 21 = .ok (.if_icmp .eq 5, 3) := by decide +kernel
theorem dX9_spells_24 : decode cX9_spells 24 = .ok (.iconst 0, 1) := by decide +kernel
theorem dX9_spells_25 : decode cX9_spells 25 = .ok (.ireturn, 1) := by decide +kernel
theorem dX9_spells_26 : decode cX9_spells 26 = .ok (.iconst 0, 1) := by decide +kernel
theorem dX9_spells_27 : decode cX9_spells 27 = .ok (.istore_n 2, 1) := by decide +kernel
theorem dX9_spells_28 : decode cX9_spells 28 = .ok (.iload_n 2, 1) := by decide +kernel
theorem dX9_spells_29 : decode cX9_spells 29 = .ok (.aload_n 1, 1) := by decide +kernel
theorem dX9_spells_30 : decode cX9_spells 30 = .ok (.invokevirtual 43, 3) := by decide +kernel
theorem dX9_spells_33 : decode cX9_spells 33 = .ok (.if_icmp .ge 30, 3) := by decide +kernel
theorem dX9_spells_36 : decode cX9_spells 36 = .ok (.aload_n 0, 1) := by decide +kernel
theorem dX9_spells_37 : decode cX9_spells 37 = .ok (.getfield 9, 3) := by decide +kernel
theorem dX9_spells_40 : decode cX9_spells 40 = .ok (.aload_n 0, 1) := by decide +kernel
theorem dX9_spells_41 : decode cX9_spells 41 = .ok (.getfield 34, 3) := by decide +kernel
theorem dX9_spells_44 : decode cX9_spells 44 = .ok (.iload_n 2, 1) := by decide +kernel
theorem dX9_spells_45 : decode cX9_spells 45 = .ok (.iadd, 1) := by decide +kernel
theorem dX9_spells_46 : decode cX9_spells 46 = .ok (.baload, 1) := by decide +kernel
theorem dX9_spells_47 : decode cX9_spells 47 = .ok (.aload_n 1, 1) := by decide +kernel
theorem dX9_spells_48 : decode cX9_spells 48 = .ok (.iload_n 2, 1) := by decide +kernel
theorem dX9_spells_49 : decode cX9_spells 49 = .ok (.invokevirtual 48, 3) := by decide +kernel
theorem dX9_spells_52 : decode cX9_spells 52 = .ok (.if_icmp .eq 5, 3) := by decide +kernel
theorem dX9_spells_55 : decode cX9_spells 55 = .ok (.iconst 0, 1) := by decide +kernel
theorem dX9_spells_56 : decode cX9_spells 56 = .ok (.ireturn, 1) := by decide +kernel
theorem dX9_spells_57 : decode cX9_spells 57 = .ok (.iinc 2 1, 3) := by decide +kernel
theorem dX9_spells_60 : decode cX9_spells 60 = .ok (.goto (-32), 3) := by decide +kernel
theorem dX9_spells_63 : decode cX9_spells 63 = .ok (.iconst 1, 1) := by decide +kernel
theorem dX9_spells_64 : decode cX9_spells 64 = .ok (.ireturn, 1) := by decide +kernel
theorem dX10_init_0 : decode cX10_init 0 = .ok (.aload_n 0, 1) := by decide +kernel
theorem dX10_init_1 : decode cX10_init 1 = .ok (.invokespecial 1, 3) := by decide +kernel
theorem dX10_init_4 : decode cX10_init 4 = .ok (.return_, 1) := by decide +kernel
theorem dX10_copyFrom_0 : decode cX10_copyFrom 0 = .ok (.aload_n 0, 1) := by decide +kernel
theorem dX10_copyFrom_1 : decode cX10_copyFrom 1 = .ok (.aload_n 1, 1) := by decide +kernel
theorem dX10_copyFrom_2 : decode cX10_copyFrom 2 = .ok (.getfield 7, 3) := by decide +kernel
theorem dX10_copyFrom_5 : decode cX10_copyFrom 5 = .ok (.putfield 7, 3) := by decide +kernel
theorem dX10_copyFrom_8 : decode cX10_copyFrom 8 = .ok (.aload_n 0, 1) := by decide +kernel
theorem dX10_copyFrom_9 : decode cX10_copyFrom 9 = .ok (.aload_n 1, 1) := by decide +kernel
theorem dX10_copyFrom_10 : decode cX10_copyFrom 10 = .ok (.getfield 13, 3) := by decide +kernel
theorem dX10_copyFrom_13 : decode cX10_copyFrom 13 = .ok (.putfield 13, 3) := by decide +kernel
theorem dX10_copyFrom_16 : decode cX10_copyFrom 16 = .ok (.aload_n 0, 1) := by decide +kernel
theorem dX10_copyFrom_17 : decode cX10_copyFrom 17 = .ok (.aload_n 1, 1) := by decide +kernel
theorem dX10_copyFrom_18 : decode cX10_copyFrom 18 = .ok (.getfield 16, 3) := by decide +kernel
theorem dX10_copyFrom_21 : decode cX10_copyFrom 21 = .ok (.putfield 16, 3) := by decide +kernel
theorem dX10_copyFrom_24 : decode cX10_copyFrom 24 = .ok (.aload_n 0, 1) := by decide +kernel
theorem dX10_copyFrom_25 : decode cX10_copyFrom 25 = .ok (.aload_n 1, 1) := by decide +kernel
theorem dX10_copyFrom_26 : decode cX10_copyFrom 26 = .ok (.getfield 19, 3) := by decide +kernel
theorem dX10_copyFrom_29 : decode cX10_copyFrom 29 = .ok (.putfield 19, 3) := by decide +kernel
theorem dX10_copyFrom_32 : decode cX10_copyFrom 32 = .ok (.return_, 1) := by decide +kernel

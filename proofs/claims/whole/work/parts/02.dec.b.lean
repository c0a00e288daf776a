theorem dX4_init_0 : decode cX4_init 0 = .ok (.aload_n 0, 1) := by decide +kernel
theorem dX4_init_1 : decode cX4_init 1 = .ok (.invokespecial 3, 3) := by decide +kernel
theorem dX4_init_4 : decode cX4_init 4 = .ok (.aload_n 0, 1) := by decide +kernel
theorem dX4_init_5 : decode cX4_init 5 = .ok (.bipush 10, 2) := by decide +kernel
theorem dX4_init_7 : decode cX4_init 7 = .ok (.newarray .int, 2) := by decide +kernel
theorem dX4_init_9 : decode cX4_init 9 = .ok (.putfield 11, 3) := by decide +kernel
theorem dX4_init_12 : decode cX4_init 12 = .ok (.aload_n 0, 1) := by decide +kernel
theorem dX4_init_13 : decode cX4_init 13 = .ok (.bipush 10, 2) := by decide +kernel
theorem dX4_init_15 : decode cX4_init 15 = .ok (.newarray .int, 2) := by decide +kernel
theorem dX4_init_17 : decode cX4_init 17 = .ok (.putfield 15, 3) := by decide +kernel
theorem dX4_init_20 : decode cX4_init 20 = .ok (.aload_n 0, 1) := by decide +kernel
theorem dX4_init_21 : decode cX4_init 21 = .ok (.sipush 256, 3) := by decide +kernel
theorem dX4_init_24 : decode cX4_init 24 = .ok (.newarray .int, 2) := by decide +kernel
theorem dX4_init_26 : decode cX4_init 26 = .ok (.putfield 18, 3) := by decide +kernel
theorem dX4_init_29 : decode cX4_init 29 = .ok (.aload_n 0, 1) := by decide +kernel
theorem dX4_init_30 : decode cX4_init 30 = .ok (.sipush 256, 3) := by decide +kernel
theorem dX4_init_33 : decode cX4_init 33 = .ok (.newarray .int, 2) := by decide +kernel
theorem dX4_init_35 : decode cX4_init 35 = .ok (.putfield 21, 3) := by decide +kernel
theorem dX4_init_38 : decode cX4_init 38 = .ok (.aload_n 0, 1) := by decide +kernel
theorem dX4_init_39 : decode cX4_init 39 = .ok (.sipush 256, 3) := by decide +kernel
theorem dX4_init_42 : decode cX4_init 42 = .ok (.newarray .int, 2) := by decide +kernel
theorem dX4_init_44 : decode cX4_init 44 = .ok (.putfield 24, 3) := by decide +kernel
theorem dX4_init_47 : decode cX4_init 47 = .ok (.aload_n 0, 1) := by decide +kernel
theorem dX4_init_48 : decode cX4_init 48 = .ok (.sipush 256, 3) := by decide +kernel
theorem dX4_init_51 : decode cX4_init 51 = .ok (.newarray .int, 2) := by decide +kernel
theorem dX4_init_53 : decode cX4_init 53 = .ok (.putfield 27, 3) := by decide +kernel
theorem dX4_init_56 : decode cX4_init 56 = .ok (.aload_n 0, 1) := by decide +kernel
theorem dX4_init_57 : decode cX4_init 57 = .ok (.sipush 256, 3) := by decide +kernel
theorem dX4_init_60 : decode cX4_init 60 = .ok (.newarray .long, 2) := by decide +kernel
theorem dX4_init_62 : decode cX4_init 62 = .ok (.putfield 30, 3) := by decide +kernel
theorem dX4_init_65 : decode cX4_init 65 = .ok (.aload_n 0, 1) := by decide +kernel
theorem dX4_init_66 : decode cX4_init 66 = .ok (.sipush 256, 3) := by decide +kernel
theorem dX4_init_69 : decode cX4_init 69 = .ok (.newarray .int, 2) := by decide +kernel
theorem dX4_init_71 : decode cX4_init 71 = .ok (.putfield 34, 3) := by decide +kernel
theorem dX4_init_74 : decode cX4_init 74 = .ok (.aload_n 0, 1) := by decide +kernel
theorem dX4_init_75 : decode cX4_init 75 = .ok (.bipush 11, 2) := by decide +kernel
theorem dX4_init_77 : decode cX4_init 77 = .ok (.bipush 11, 2) := by decide +kernel
theorem dX4_init_79 : decode cX4_init 79 = .ok (.multianewarray 37 2, 4) := by decide +kernel
theorem dX4_init_83 : decode cX4_init 83 = .ok (.putfield 39, 3) := by decide +kernel
theorem dX4_init_86 : decode cX4_init 86 = .ok (.aload_n 0, 1) := by decide +kernel
theorem dX4_init_87 : decode cX4_init 87 = .ok (.bipush 60, 2) := by decide +kernel
theorem dX4_init_89 : decode cX4_init 89 = .ok (.newarray .int, 2) := by decide +kernel
theorem dX4_init_91 : decode cX4_init 91 = .ok (.putfield 42, 3) := by decide +kernel
theorem dX4_init_94 : decode cX4_init 94 = .ok (.aload_n 0, 1) := by decide +kernel
theorem dX4_init_95 : decode cX4_init 95 = .ok (.bipush 12, 2) := by decide +kernel
theorem dX4_init_97 : decode cX4_init 97 = .ok (.newarray .int, 2) := by decide +kernel
theorem dX4_init_99 : decode cX4_init 99 = .ok (.putfield 45, 3) := by decide +kernel
theorem dX4_init_102 : decode cX4_init 102 = .ok (.aload_n 0, 1) := by decide +kernel
theorem dX4_init_103 : decode cX4_init 103 = .ok (.bipush 12, 2) := by decide +kernel
theorem dX4_init_105 : decode cX4_init 105 = .ok (.newarray .boolean, 2) := by decide +kernel
theorem dX4_init_107 : decode cX4_init 107 = .ok (.putfield 48, 3) := by decide +kernel
theorem dX4_init_110 : decode cX4_init 110 = .ok (.aload_n 0, 1) := by decide +kernel
theorem dX4_init_111 : decode cX4_init 111 = .ok (.bipush 60, 2) := by decide +kernel
theorem dX4_init_113 : decode cX4_init 113 = .ok (.newarray .boolean, 2) := by decide +kernel
theorem dX4_init_115 : decode cX4_init 115 = .ok (.putfield 52, 3) := by decide +kernel
theorem dX4_init_118 : decode cX4_init 118 = .ok (.return_, 1) := by decide +kernel
theorem dX4_gather_0 : decode cX4_gather 0 = .ok (.aload_n 0, 1) := by decide +kernel
theorem dX4_gather_1 : decode cX4_gather 1 = .ok (.iconst 0, 1) := by decide +kernel
theorem dX4_gather_2 : decode cX4_gather 2 = .ok (.putfield 55, 3) := by decide +kernel
theorem dX4_gather_5 : decode cX4_gather 5 = .ok (.iconst 0, 1) := by decide +kernel
theorem dX4_gather_6 : decode cX4_gather 6 = .ok (.istore 4, 2) := by decide +kernel
theorem dX4_gather_8 : decode cX4_gather 8 = .ok (.iload 4, 2) := by decide +kernel
theorem dX4_gather_10 : decode cX4_gather 10 = .ok (.bipush 8, 2) := by decide +kernel
theorem dX4_gather_12 : decode cX4_gather 12 = .ok (.if_icmp .ge 88, 3) := by decide +kernel
theorem dX4_gather_15 : decode cX4_gather 15 = .ok (.iload_n 3, 1) := by decide +kernel
theorem dX4_gather_16 : decode cX4_gather 16 = .ok (.iload 4, 2) := by decide +kernel
theorem dX4_gather_18 : decode cX4_gather 18 = .ok (.ishr, 1) := by decide +kernel
theorem dX4_gather_19 : decode cX4_gather 19 = .ok (.iconst 1, 1) := by decide +kernel
theorem dX4_gather_20 : decode cX4_gather 20 = .ok (.iand, 1) := by decide +kernel
theorem dX4_gather_21 : decode cX4_gather 21 = .ok (.iconst 1, 1) := by decide +kernel
theorem dX4_gather_22 : decode cX4_gather 22 = .ok (.if_icmp .ne 72, 3) := by decide +kernel
theorem dX4_gather_25 : decode cX4_gather 25 = .ok (.iload_n 2, 1) := by decide +kernel
theorem dX4_gather_26 : decode cX4_gather 26 = .ok (.iload 4, 2) := by decide +kernel
theorem dX4_gather_28 : decode cX4_gather 28 = .ok (.iadd, 1) := by decide +kernel
theorem dX4_gather_29 : decode cX4_gather 29 = .ok (.istore 5, 2) := by decide +kernel
theorem dX4_gather_31 : decode cX4_gather 31 = .ok (.aload_n 1, 1) := by decide +kernel
theorem dX4_gather_32 : decode cX4_gather 32 = .ok (.iload 5, 2) := by decide +kernel
theorem dX4_gather_34 : decode cX4_gather 34 = .ok (.invokevirtual 59, 3) := by decide +kernel
theorem dX4_gather_37 : decode cX4_gather 37 = .ok (.ifCond .ne 5, 3) := by decide +kernel
theorem dX4_gather_40 : decode cX4_gather 40 = .ok (.iconst 0, 1) := by decide +kernel
theorem dX4_gather_41 : decode cX4_gather 41 = .ok (.ireturn, 1) := by decide +kernel
theorem dX4_gather_42 : decode cX4_gather 42 = .ok (.aload_n 1, 1) := by decide +kernel
theorem dX4_gather_43 : decode cX4_gather 43 = .ok (.getfield 65, 3) := by decide +kernel
theorem dX4_gather_46 : decode cX4_gather 46 = .ok (.iload 5, 2) := by decide +kernel
theorem dX4_gather_48 : decode cX4_gather 48 = .ok (.aaload, 1) := by decide +kernel
theorem dX4_gather_49 : decode cX4_gather 49 = .ok (.astore 6, 2) := by decide +kernel
theorem dX4_gather_51 : decode cX4_gather 51 = .ok (.aload_n 1, 1) := by decide +kernel
theorem dX4_gather_52 : decode cX4_gather 52 = .ok (.aload 6, 2) := by decide +kernel
theorem dX4_gather_54 : decode cX4_gather 54 = .ok (.getfield 69, 3) := by decide +kernel
theorem dX4_gather_57 : decode cX4_gather 57 = .ok (.invokevirtual 74, 3) := by decide +kernel
theorem dX4_gather_60 : decode cX4_gather 60 = .ok (.ifCond .ne 5, 3) := by decide +kernel
theorem dX4_gather_63 : decode cX4_gather 63 = .ok (.iconst 0, 1) := by decide +kernel
theorem dX4_gather_64 : decode cX4_gather 64 = .ok (.ireturn, 1) := by decide +kernel
theorem dX4_gather_65 : decode cX4_gather 65 = .ok (.aload_n 0, 1) := by decide +kernel
theorem dX4_gather_66 : decode cX4_gather 66 = .ok (.aload_n 1, 1) := by decide +kernel
theorem dX4_gather_67 : decode cX4_gather 67 = .ok (.getfield 77, 3) := by decide +kernel
theorem dX4_gather_70 : decode cX4_gather 70 = .ok (.aload 6, 2) := by decide +kernel
theorem dX4_gather_72 : decode cX4_gather 72 = .ok (.getfield 81, 3) := by decide +kernel
theorem dX4_gather_75 : decode cX4_gather 75 = .ok (.aaload, 1) := by decide +kernel
theorem dX4_gather_76 : decode cX4_gather 76 = .ok (.getfield 84, 3) := by decide +kernel
theorem dX4_gather_79 : decode cX4_gather 79 = .ok (.aload_n 1, 1) := by decide +kernel
theorem dX4_gather_80 : decode cX4_gather 80 = .ok (.getfield 89, 3) := by decide +kernel
theorem dX4_gather_83 : decode cX4_gather 83 = .ok (.aload 6, 2) := by decide +kernel
theorem dX4_gather_85 : decode cX4_gather 85 = .ok (.getfield 69, 3) := by decide +kernel
theorem dX4_gather_88 : decode cX4_gather 88 = .ok (.aaload, 1) := by decide +kernel
theorem dX4_gather_89 : decode cX4_gather 89 = .ok (.iconst 1, 1) := by decide +kernel
theorem dX4_gather_90 : decode cX4_gather 90 = .ok (.iaload, 1) := by decide +kernel
theorem dX4_gather_91 : decode cX4_gather 91 = .ok (.invokevirtual 92, 3) := by decide +kernel
theorem dX4_gather_94 : decode cX4_gather 94 = .ok (.iinc 4 1, 3) := by decide +kernel
theorem dX4_gather_97 : decode cX4_gather 97 = .ok (.goto (-89), 3) := by decide +kernel
theorem dX4_gather_100 : decode cX4_gather 100 = .ok (.iconst 1, 1) := by decide +kernel
theorem dX4_gather_101 : decode cX4_gather 101 = .ok (.ireturn, 1) := by decide +kernel
theorem dX4_add_0 : decode cX4_add 0 = .ok (.aload_n 0, 1) := by decide +kernel
theorem dX4_add_1 : decode cX4_add 1 = .ok (.getfield 55, 3) := by decide +kernel
theorem dX4_add_4 : decode cX4_add 4 = .ok (.bipush 10, 2) := by decide +kernel
theorem dX4_add_6 : decode cX4_add 6 = .ok (.if_icmp .ge 33, 3) := by decide +kernel
theorem dX4_add_9 : decode cX4_add 9 = .ok (.aload_n 0, 1) := by decide +kernel
theorem dX4_add_10 : decode cX4_add 10 = .ok (.getfield 11, 3) := by decide +kernel
theorem dX4_add_13 : decode cX4_add 13 = .ok (.aload_n 0, 1) := by decide +kernel
theorem dX4_add_14 : decode cX4_add 14 = .ok (.getfield 55, 3) := by decide +kernel
theorem dX4_add_17 : decode cX4_add 17 = .ok (.iload_n 1, 1) := by decide +kernel
theorem dX4_add_18 : decode cX4_add 18 = .ok (.iastore, 1) := by decide +kernel
theorem dX4_add_19 : decode cX4_add 19 = .ok (.aload_n 0, 1) := by decide +kernel
theorem dX4_add_20 : decode cX4_add 20 = .ok (.getfield 15, 3) := by decide +kernel
theorem dX4_add_23 : decode cX4_add 23 = .ok (.aload_n 0, 1) := by decide +kernel
theorem dX4_add_24 : decode cX4_add 24 = .ok (.getfield 55, 3) := by decide +kernel
theorem dX4_add_27 : decode cX4_add 27 = .ok (.iload_n 2, 1) := by decide +kernel
theorem dX4_add_28 : decode cX4_add 28 = .ok (.iastore, 1) := by decide +kernel
theorem dX4_add_29 : decode cX4_add 29 = .ok (.aload_n 0, 1) := by decide +kernel
theorem dX4_add_30 : decode cX4_add 30 = .ok (.dup, 1) := by decide +kernel
theorem dX4_add_31 : decode cX4_add 31 = .ok (.getfield 55, 3) := by decide +kernel
theorem dX4_add_34 : decode cX4_add 34 = .ok (.iconst 1, 1) := by decide +kernel
theorem dX4_add_35 : decode cX4_add 35 = .ok (.iadd, 1) := by decide +kernel
theorem dX4_add_36 : decode cX4_add 36 = .ok (.putfield 55, 3) := by decide +kernel
theorem dX4_add_39 : decode cX4_add 39 = .ok (.return_, 1) := by decide +kernel
theorem dX4_stepsTogether_0 : decode cX4_stepsTogether 0 = .ok (.iconst 0, 1) := by decide +kernel
theorem dX4_stepsTogether_1 : decode cX4_stepsTogether 1 = .ok (.istore_n 1, 1) := by decide +kernel
theorem dX4_stepsTogether_2 : decode cX4_stepsTogether 2 = .ok (.iconst 0, 1) := by decide +kernel
theorem dX4_stepsTogether_3 : decode cX4_stepsTogether 3 = .ok (.istore_n 2, 1) := by decide +kernel
theorem dX4_stepsTogether_4 : decode cX4_stepsTogether 4 = .ok (.iload_n 2, 1) := by decide +kernel
theorem dX4_stepsTogether_5 : decode cX4_stepsTogether 5 = .ok (.aload_n 0, 1) := by decide +kernel
theorem dX4_stepsTogether_6 : decode cX4_stepsTogether 6 = .ok (.getfield 55, 3) := by decide +kernel
theorem dX4_stepsTogether_9 : decode cX4_stepsTogether 9 = .ok (.if_icmp .ge 20, 3) := by decide +kernel
theorem dX4_stepsTogether_12 : decode cX4_stepsTogether 12 = .ok (.iload_n 1, 1) := by decide +kernel
theorem dX4_stepsTogether_13 : decode cX4_stepsTogether 13 = .ok (.iconst 2, 1) := by decide +kernel
theorem dX4_stepsTogether_14 : decode cX4_stepsTogether 14 = .ok (.aload_n 0, 1) := by decide +kernel
theorem dX4_stepsTogether_15 : decode cX4_stepsTogether 15 = .ok (.getfield 15, 3) := by decide +kernel
theorem dX4_stepsTogether_18 : decode cX4_stepsTogether 18 = .ok (.iload_n 2, 1) := by decide +kernel
theorem dX4_stepsTogether_19 : decode cX4_stepsTogether 19 = .ok (.iaload, 1) := by decide +kernel
theorem dX4_stepsTogether_20 : decode cX4_stepsTogether 20 = .ok (.imul, 1) := by decide +kernel
theorem dX4_stepsTogether_21 : decode cX4_stepsTogether 21 = .ok (.iadd, 1) := by decide +kernel
theorem dX4_stepsTogether_22 : decode cX4_stepsTogether 22 = .ok (.istore_n 1, 1) := by decide +kernel
theorem dX4_stepsTogether_23 : decode cX4_stepsTogether 23 = .ok (.iinc 2 1, 3) := by decide +kernel
theorem dX4_stepsTogether_26 : decode cX4_stepsTogether 26 = .ok (.goto (-22), 3) := by decide +kernel
theorem dX4_stepsTogether_29 : decode cX4_stepsTogether 29 = .ok (.iload_n 1, 1) := by decide +kernel
theorem dX4_stepsTogether_30 : decode cX4_stepsTogether 30 = .ok (.ireturn, 1) := by decide +kernel
theorem dX4_gatherUnracked_0 : decode cX4_gatherUnracked 0 = .ok (.aload_n 0, 1) := by decide +kernel
theorem dX4_gatherUnracked_1 : decode cX4_gatherUnracked 1 = .ok (.iconst 0, 1) := by decide +kernel
theorem dX4_gatherUnracked_2 : decode cX4_gatherUnracked 2 = .ok (.putfield 55, 3) := by decide +kernel
theorem dX4_gatherUnracked_5 : decode cX4_gatherUnracked 5 = .ok (.iconst 0, 1) := by decide +kernel
theorem dX4_gatherUnracked_6 : decode cX4_gatherUnracked 6 = .ok (.istore_n 3, 1) := by decide +kernel
theorem dX4_gatherUnracked_7 : decode cX4_gatherUnracked 7 = .ok (.iload_n 3, 1) := by decide +kernel
theorem dX4_gatherUnracked_8 : decode cX4_gatherUnracked 8 = .ok (.aload_n 1, 1) := by decide +kernel
theorem dX4_gatherUnracked_9 : decode cX4_gatherUnracked 9 = .ok (.getfield 96, 3) := by decide +kernel
theorem dX4_gatherUnracked_12 : decode cX4_gatherUnracked 12 = .ok (.if_icmp .ge 60, 3) := by decide +kernel
theorem dX4_gatherUnracked_15 : decode cX4_gatherUnracked 15 = .ok (.aload_n 0, 1) := by decide +kernel
theorem dX4_gatherUnracked_16 : decode cX4_gatherUnracked 16 = .ok (.getfield 55, 3) := by decide +kernel
theorem dX4_gatherUnracked_19 : decode cX4_gatherUnracked 19 = .ok (.iload_n 2, 1) := by decide +kernel
theorem dX4_gatherUnracked_20 : decode cX4_gatherUnracked 20 = .ok (.if_icmp .ge 52, 3) := by decide +kernel
theorem dX4_gatherUnracked_23 : decode cX4_gatherUnracked 23 = .ok (.aload_n 1, 1) := by decide +kernel
theorem dX4_gatherUnracked_24 : decode cX4_gatherUnracked 24 = .ok (.getfield 65, 3) := by decide +kernel
theorem dX4_gatherUnracked_27 : decode cX4_gatherUnracked 27 = .ok (.iload_n 3, 1) := by decide +kernel
theorem dX4_gatherUnracked_28 : decode cX4_gatherUnracked 28 = .ok (.aaload, 1) := by decide +kernel
theorem dX4_gatherUnracked_29 : decode cX4_gatherUnracked 29 = .ok (.astore 4, 2) := by decide +kernel
theorem dX4_gatherUnracked_31 : decode cX4_gatherUnracked 31 = .ok (.aload 4, 2) := by decide +kernel
theorem dX4_gatherUnracked_33 : decode cX4_gatherUnracked 33 = .ok (.getfield 99, 3) := by decide +kernel
theorem dX4_gatherUnracked_36 : decode cX4_gatherUnracked 36 = .ok (.ifCond .ne 30, 3) := by decide +kernel
theorem dX4_gatherUnracked_39 : decode cX4_gatherUnracked 39 = .ok (.aload 4, 2) := by decide +kernel
theorem dX4_gatherUnracked_41 : decode cX4_gatherUnracked 41 = .ok (.getfield 69, 3) := by decide +kernel
theorem dX4_gatherUnracked_44 : decode cX4_gatherUnracked 44 = .ok (.iconst (-1), 1) := by decide +kernel
theorem dX4_gatherUnracked_45 : decode cX4_gatherUnracked 45 = .ok (.if_icmp .ne 21, 3) := by decide +kernel
theorem dX4_gatherUnracked_48 : decode cX4_gatherUnracked 48 = .ok (.aload_n 0, 1) := by decide +kernel
theorem dX4_gatherUnracked_49 : decode cX4_gatherUnracked 49 = .ok (.aload_n 1, 1) := by decide +kernel
theorem dX4_gatherUnracked_50 : decode cX4_gatherUnracked 50 = .ok (.getfield 77, 3) := by decide +kernel
theorem dX4_gatherUnracked_53 : decode cX4_gatherUnracked 53 = .ok (.aload 4, 2) := by decide +kernel
theorem dX4_gatherUnracked_55 : decode cX4_gatherUnracked 55 = .ok (.getfield 81, 3) := by decide +kernel
theorem dX4_gatherUnracked_58 : decode cX4_gatherUnracked 58 = .ok (.aaload, 1) := by decide +kernel
theorem dX4_gatherUnracked_59 : decode cX4_gatherUnracked 59 = .ok (.getfield 84, 3) := by decide +kernel
theorem dX4_gatherUnracked_62 : decode cX4_gatherUnracked 62 = .ok (.iconst 0, 1) := by decide +kernel
theorem dX4_gatherUnracked_63 : decode cX4_gatherUnracked 63 = .ok (.invokevirtual 92, 3) := by decide +kernel
theorem dX4_gatherUnracked_66 : decode cX4_gatherUnracked 66 = .ok (.iinc 3 1, 3) := by decide +kernel
theorem dX4_gatherUnracked_69 : decode cX4_gatherUnracked 69 = .ok (.goto (-62), 3) := by decide +kernel
theorem dX4_gatherUnracked_72 : decode cX4_gatherUnracked 72 = .ok (.aload_n 0, 1) := by decide +kernel
theorem dX4_gatherUnracked_73 : decode cX4_gatherUnracked 73 = .ok (.getfield 55, 3) := by decide +kernel
theorem dX4_gatherUnracked_76 : decode cX4_gatherUnracked 76 = .ok (.ireturn, 1) := by decide +kernel
theorem dX4_weigh_0 : decode cX4_weigh 0 = .ok (.iconst 0, 1) := by decide +kernel
theorem dX4_weigh_1 : decode cX4_weigh 1 = .ok (.istore_n 3, 1) := by decide +kernel
theorem dX4_weigh_2 : decode cX4_weigh 2 = .ok (.iload_n 3, 1) := by decide +kernel
theorem dX4_weigh_3 : decode cX4_weigh 3 = .ok (.iload_n 2, 1) := by decide +kernel
theorem dX4_weigh_4 : decode cX4_weigh 4 = .ok (.if_icmp .ge 43, 3) := by decide +kernel
theorem dX4_weigh_7 : decode cX4_weigh 7 = .ok (.aload_n 0, 1) := by decide +kernel
theorem dX4_weigh_8 : decode cX4_weigh 8 = .ok (.getfield 15, 3) := by decide +kernel
theorem dX4_weigh_11 : decode cX4_weigh 11 = .ok (.iload_n 3, 1) := by decide +kernel
theorem dX4_weigh_12 : decode cX4_weigh 12 = .ok (.aload_n 1, 1) := by decide +kernel
theorem dX4_weigh_13 : decode cX4_weigh 13 = .ok (.iload_n 3, 1) := by decide +kernel
theorem dX4_weigh_14 : decode cX4_weigh 14 = .ok (.invokevirtual 102, 3) := by decide +kernel
theorem dX4_weigh_17 : decode cX4_weigh 17 = .ok (.iastore, 1) := by decide +kernel
theorem dX4_weigh_18 : decode cX4_weigh 18 = .ok (.aload_n 0, 1) := by decide +kernel
theorem dX4_weigh_19 : decode cX4_weigh 19 = .ok (.getfield 15, 3) := by decide +kernel
theorem dX4_weigh_22 : decode cX4_weigh 22 = .ok (.iload_n 3, 1) := by decide +kernel
theorem dX4_weigh_23 : decode cX4_weigh 23 = .ok (.iaload, 1) := by decide +kernel
theorem dX4_weigh_24 : decode cX4_weigh 24 = .ok (.iconst (-1), 1) := by decide +kernel
theorem dX4_weigh_25 : decode cX4_weigh 25 = .ok (.if_icmp .eq 14, 3) := by decide +kernel
theorem dX4_weigh_28 : decode cX4_weigh 28 = .ok (.aload_n 0, 1) := by decide +kernel
theorem dX4_weigh_29 : decode cX4_weigh 29 = .ok (.getfield 15, 3) := by decide +kernel
theorem dX4_weigh_32 : decode cX4_weigh 32 = .ok (.iload_n 3, 1) := by decide +kernel
theorem dX4_weigh_33 : decode cX4_weigh 33 = .ok (.iaload, 1) := by decide +kernel
theorem dX4_weigh_34 : decode cX4_weigh 34 = .ok (.bipush 99, 2) := by decide +kernel
theorem dX4_weigh_36 : decode cX4_weigh 36 = .ok (.if_icmp .le 5, 3) := by decide +kernel
theorem dX4_weigh_39 : decode cX4_weigh 39 = .ok (.iconst 0, 1) := by decide +kernel
theorem dX4_weigh_40 : decode cX4_weigh 40 = .ok (.ireturn, 1) := by decide +kernel
theorem dX4_weigh_41 : decode cX4_weigh 41 = .ok (.iinc 3 1, 3) := by decide +kernel
theorem dX4_weigh_44 : decode cX4_weigh 44 = .ok (.goto (-42), 3) := by decide +kernel
theorem dX4_weigh_47 : decode cX4_weigh 47 = .ok (.iconst 1, 1) := by decide +kernel
theorem dX4_weigh_48 : decode cX4_weigh 48 = .ok (.ireturn, 1) := by decide +kernel
theorem dX4_placing_0 : decode cX4_placing 0 = .ok (.iconst 1, 1) := by decide +kernel
theorem dX4_placing_1 : decode cX4_placing 1 = .ok (.iload_n 2, 1) := by decide +kernel
theorem dX4_placing_2 : decode cX4_placing 2 = .ok (.ishl, 1) := by decide +kernel
theorem dX4_placing_3 : decode cX4_placing 3 = .ok (.iconst 1, 1) := by decide +kernel
theorem dX4_placing_4 : decode cX4_placing 4 = .ok (.isub, 1) := by decide +kernel
theorem dX4_placing_5 : decode cX4_placing 5 = .ok (.istore 4, 2) := by decide +kernel
theorem dX4_placing_7 : decode cX4_placing 7 = .ok (.aload_n 0, 1) := by decide +kernel
theorem dX4_placing_8 : decode cX4_placing 8 = .ok (.iload_n 2, 1) := by decide +kernel
theorem dX4_placing_9 : decode cX4_placing 9 = .ok (.invokevirtual 108, 3) := by decide +kernel
theorem dX4_placing_12 : decode cX4_placing 12 = .ok (.iconst 1, 1) := by decide +kernel
theorem dX4_placing_13 : decode cX4_placing 13 = .ok (.istore 5, 2) := by decide +kernel
theorem dX4_placing_15 : decode cX4_placing 15 = .ok (.iload 5, 2) := by decide +kernel
theorem dX4_placing_17 : decode cX4_placing 17 = .ok (.iload 4, 2) := by decide +kernel
theorem dX4_placing_19 : decode cX4_placing 19 = .ok (.if_icmp .gt 19, 3) := by decide +kernel
theorem dX4_placing_22 : decode cX4_placing 22 = .ok (.aload_n 0, 1) := by decide +kernel
theorem dX4_placing_23 : decode cX4_placing 23 = .ok (.getfield 30, 3) := by decide +kernel
theorem dX4_placing_26 : decode cX4_placing 26 = .ok (.iload 5, 2) := by decide +kernel
theorem dX4_placing_28 : decode cX4_placing 28 = .ok (.ldc2_w 112, 3) := by decide +kernel
theorem dX4_placing_31 : decode cX4_placing 31 = .ok (.lastore, 1) := by decide +kernel
theorem dX4_placing_32 : decode cX4_placing 32 = .ok (.iinc 5 1, 3) := by decide +kernel
theorem dX4_placing_35 : decode cX4_placing 35 = .ok (.goto (-20), 3) := by decide +kernel
theorem dX4_placing_38 : decode cX4_placing 38 = .ok (.aload_n 0, 1) := by decide +kernel
theorem dX4_placing_39 : decode cX4_placing 39 = .ok (.getfield 30, 3) := by decide +kernel
theorem dX4_placing_42 : decode cX4_placing 42 = .ok (.iconst 0, 1) := by decide +kernel
theorem dX4_placing_43 : decode cX4_placing 43 = .ok (.lconst 0, 1) := by decide +kernel
theorem dX4_placing_44 : decode cX4_placing 44 = .ok (.lastore, 1) := by decide +kernel
theorem dX4_placing_45 : decode cX4_placing 45 = .ok (.iconst 0, 1) := by decide +kernel
theorem dX4_placing_46 : decode cX4_placing 46 = .ok (.istore 5, 2) := by decide +kernel
theorem dX4_placing_48 : decode cX4_placing 48 = .ok (.iload 5, 2) := by decide +kernel
theorem dX4_placing_50 : decode cX4_placing 50 = .ok (.aload_n 1, 1) := by decide +kernel
theorem dX4_placing_51 : decode cX4_placing 51 = .ok (.getfield 114, 3) := by decide +kernel
theorem dX4_placing_54 : decode cX4_placing 54 = .ok (.if_icmp .ge 32, 3) := by decide +kernel
theorem dX4_placing_57 : decode cX4_placing 57 = .ok (.aload_n 0, 1) := by decide +kernel
theorem dX4_placing_58 : decode cX4_placing 58 = .ok (.iload 5, 2) := by decide +kernel
theorem dX4_placing_60 : decode cX4_placing 60 = .ok (.aload_n 1, 1) := by decide +kernel
theorem dX4_placing_61 : decode cX4_placing 61 = .ok (.iload 5, 2) := by decide +kernel
theorem dX4_placing_63 : decode cX4_placing 63 = .ok (.invokevirtual 117, 3) := by decide +kernel
theorem dX4_placing_66 : decode cX4_placing 66 = .ok (.aload_n 1, 1) := by decide +kernel
theorem dX4_placing_67 : decode cX4_placing 67 = .ok (.getfield 89, 3) := by decide +kernel
theorem dX4_placing_70 : decode cX4_placing 70 = .ok (.iload 5, 2) := by decide +kernel
theorem dX4_placing_72 : decode cX4_placing 72 = .ok (.aaload, 1) := by decide +kernel
theorem dX4_placing_73 : decode cX4_placing 73 = .ok (.iconst 1, 1) := by decide +kernel
theorem dX4_placing_74 : decode cX4_placing 74 = .ok (.iaload, 1) := by decide +kernel
theorem dX4_placing_75 : decode cX4_placing 75 = .ok (.iload 4, 2) := by decide +kernel
theorem dX4_placing_77 : decode cX4_placing 77 = .ok (.invokevirtual 120, 3) := by decide +kernel
theorem dX4_placing_80 : decode cX4_placing 80 = .ok (.iinc 5 1, 3) := by decide +kernel
theorem dX4_placing_83 : decode cX4_placing 83 = .ok (.goto (-35), 3) := by decide +kernel
theorem dX4_placing_86 : decode cX4_placing 86 = .ok (.aload_n 0, 1) := by decide +kernel
theorem dX4_placing_87 : decode cX4_placing 87 = .ok (.getfield 30, 3) := by decide +kernel
theorem dX4_placing_90 : decode cX4_placing 90 = .ok (.iload 4, 2) := by decide +kernel
theorem dX4_placing_92 : decode cX4_placing 92 = .ok (.laload, 1) := by decide +kernel
theorem dX4_placing_93 : decode cX4_placing 93 = .ok (.lstore 5, 2) := by decide +kernel
theorem dX4_placing_95 : decode cX4_placing 95 = .ok (.lload 5, 2) := by decide +kernel
theorem dX4_placing_97 : decode cX4_placing 97 = .ok (.ldc2_w 112, 3) := by decide +kernel
theorem dX4_placing_100 : decode cX4_placing 100 = .ok (.lcmp, 1) := by decide +kernel
theorem dX4_placing_101 : decode cX4_placing 101 = .ok (.ifCond .eq 13, 3) := by decide +kernel
theorem dX4_placing_104 : decode cX4_placing 104 = .ok (.iload_n 3, 1) := by decide +kernel
theorem dX4_placing_105 : decode cX4_placing 105 = .ok (.iconst (-1), 1) := by decide +kernel
theorem dX4_placing_106 : decode cX4_placing 106 = .ok (.if_icmp .lt 8, 3) := by decide +kernel
theorem dX4_placing_109 : decode cX4_placing 109 = .ok (.iload_n 3, 1) := by decide +kernel
theorem dX4_placing_110 : decode cX4_placing 110 = .ok (.iload_n 2, 1) := by decide +kernel
theorem dX4_placing_111 : decode cX4_placing 111 = .ok (.if_icmp .lt 5, 3) := by decide +kernel
theorem dX4_placing_114 : decode cX4_placing 114 = .ok (.iconst (-1), 1) := by decide +kernel
theorem dX4_placing_115 : decode cX4_placing 115 = .ok (.ireturn, 1) := by decide +kernel
theorem dX4_placing_116 : decode cX4_placing 116 = .ok (.iload_n 3, 1) := by decide +kernel
theorem dX4_placing_117 : decode cX4_placing 117 = .ok (.iconst (-1), 1) := by decide +kernel
theorem dX4_placing_118 : decode cX4_placing 118 = .ok (.if_icmp .ne 12, 3) := by decide +kernel
theorem dX4_placing_121 : decode cX4_placing 121 = .ok (.lload 5, 2) := by decide +kernel
theorem dX4_placing_123 : decode cX4_placing 123 = .ok (.ldc2_w 124, 3) := by decide +kernel
theorem dX4_placing_126 : decode cX4_placing 126 = .ok (.ldiv, 1) := by decide +kernel
theorem dX4_placing_127 : decode cX4_placing 127 = .ok (.goto 16, 3) := by decide +kernel
theorem dX4_placing_130 : decode cX4_placing 130 = .ok (.lload 5, 2) := by decide +kernel
theorem dX4_placing_132 : decode cX4_placing 132 = .ok (.getstatic 126, 3) := by decide +kernel
theorem dX4_placing_135 : decode cX4_placing 135 = .ok (.iload_n 3, 1) := by decide +kernel
theorem dX4_placing_136 : decode cX4_placing 136 = .ok (.iaload, 1) := by decide +kernel
theorem dX4_placing_137 : decode cX4_placing 137 = .ok (.i2l, 1) := by decide +kernel
theorem dX4_placing_138 : decode cX4_placing 138 = .ok (.ldiv, 1) := by decide +kernel
theorem dX4_placing_139 : decode cX4_placing 139 = .ok (.ldc2_w 129, 3) := by decide +kernel
theorem dX4_placing_142 : decode cX4_placing 142 = .ok (.lrem, 1) := by decide +kernel
theorem dX4_placing_143 : decode cX4_placing 143 = .ok (.l2i, 1) := by decide +kernel
theorem dX4_placing_144 : decode cX4_placing 144 = .ok (.ireturn, 1) := by decide +kernel
theorem dX4_sumSets_0 : decode cX4_sumSets 0 = .ok (.aload_n 0, 1) := by decide +kernel
theorem dX4_sumSets_1 : decode cX4_sumSets 1 = .ok (.getfield 18, 3) := by decide +kernel
theorem dX4_sumSets_4 : decode cX4_sumSets 4 = .ok (.iconst 0, 1) := by decide +kernel
theorem dX4_sumSets_5 : decode cX4_sumSets 5 = .ok (.iconst 0, 1) := by decide +kernel
theorem dX4_sumSets_6 : decode cX4_sumSets 6 = .ok (.iastore, 1) := by decide +kernel
theorem dX4_sumSets_7 : decode cX4_sumSets 7 = .ok (.aload_n 0, 1) := by decide +kernel
theorem dX4_sumSets_8 : decode cX4_sumSets 8 = .ok (.getfield 21, 3) := by decide +kernel
theorem dX4_sumSets_11 : decode cX4_sumSets 11 = .ok (.iconst 0, 1) := by decide +kernel
theorem dX4_sumSets_12 : decode cX4_sumSets 12 = .ok (.iconst 0, 1) := by decide +kernel
theorem dX4_sumSets_13 : decode cX4_sumSets 13 = .ok (.iastore, 1) := by decide +kernel
theorem dX4_sumSets_14 : decode cX4_sumSets 14 = .ok (.aload_n 0, 1) := by decide +kernel
theorem dX4_sumSets_15 : decode cX4_sumSets 15 = .ok (.getfield 24, 3) := by decide +kernel
theorem dX4_sumSets_18 : decode cX4_sumSets 18 = .ok (.iconst 0, 1) := by decide +kernel
theorem dX4_sumSets_19 : decode cX4_sumSets 19 = .ok (.iconst 0, 1) := by decide +kernel
theorem dX4_sumSets_20 : decode cX4_sumSets 20 = .ok (.iastore, 1) := by decide +kernel
theorem dX4_sumSets_21 : decode cX4_sumSets 21 = .ok (.aload_n 0, 1) := by decide +kernel
theorem dX4_sumSets_22 : decode cX4_sumSets 22 = .ok (.getfield 27, 3) := by decide +kernel
theorem dX4_sumSets_25 : decode cX4_sumSets 25 = .ok (.iconst 0, 1) := by decide +kernel
theorem dX4_sumSets_26 : decode cX4_sumSets 26 = .ok (.iconst 0, 1) := by decide +kernel
theorem dX4_sumSets_27 : decode cX4_sumSets 27 = .ok (.iastore, 1) := by decide +kernel
theorem dX4_sumSets_28 : decode cX4_sumSets 28 = .ok (.iconst 0, 1) := by decide +kernel
theorem dX4_sumSets_29 : decode cX4_sumSets 29 = .ok (.istore_n 2, 1) := by decide +kernel
theorem dX4_sumSets_30 : decode cX4_sumSets 30 = .ok (.iload_n 2, 1) := by decide +kernel
theorem dX4_sumSets_31 : decode cX4_sumSets 31 = .ok (.iload_n 1, 1) := by decide +kernel
theorem dX4_sumSets_32 : decode cX4_sumSets 32 = .ok (.if_icmp .ge 139, 3) := by decide +kernel
theorem dX4_sumSets_35 : decode cX4_sumSets 35 = .ok (.iconst 1, 1) := by decide +kernel
theorem dX4_sumSets_36 : decode cX4_sumSets 36 = .ok (.iload_n 2, 1) := by decide +kernel
theorem dX4_sumSets_37 : decode cX4_sumSets 37 = .ok (.ishl, 1) := by decide +kernel
theorem dX4_sumSets_38 : decode cX4_sumSets 38 = .ok (.istore_n 3, 1) := by decide +kernel
theorem dX4_sumSets_39 : decode cX4_sumSets 39 = .ok (.iload_n 2, 1) := by decide +kernel
theorem dX4_sumSets_40 : decode cX4_sumSets 40 = .ok (.getstatic 126, 3) := by decide +kernel
theorem dX4_sumSets_43 : decode cX4_sumSets 43 = .ok (.arraylength, 1) := by decide +kernel
theorem dX4_sumSets_44 : decode cX4_sumSets 44 = .ok (.if_icmp .ge 11, 3) := by decide +kernel
theorem dX4_sumSets_47 : decode cX4_sumSets 47 = .ok (.getstatic 126, 3) := by decide +kernel
theorem dX4_sumSets_50 : decode cX4_sumSets 50 = .ok (.iload_n 2, 1) := by decide +kernel
theorem dX4_sumSets_51 : decode cX4_sumSets 51 = .ok (.iaload, 1) := by decide +kernel
theorem dX4_sumSets_52 : decode cX4_sumSets 52 = .ok (.goto 4, 3) := by decide +kernel
theorem dX4_sumSets_55 : decode cX4_sumSets 55 = .ok (.iconst 0, 1) := by decide +kernel
theorem dX4_sumSets_56 : decode cX4_sumSets 56 = .ok (.istore 4, 2) := by decide +kernel
theorem dX4_sumSets_58 : decode cX4_sumSets 58 = .ok (.iload_n 3, 1) := by decide +kernel
theorem dX4_sumSets_59 : decode cX4_sumSets 59 = .ok (.istore 5, 2) := by decide +kernel
theorem dX4_sumSets_61 : decode cX4_sumSets 61 = .ok (.iload 5, 2) := by decide +kernel
theorem dX4_sumSets_63 : decode cX4_sumSets 63 = .ok (.iconst 2, 1) := by decide +kernel
theorem dX4_sumSets_64 : decode cX4_sumSets 64 = .ok (.iload_n 3, 1) := by decide +kernel
theorem dX4_sumSets_65 : decode cX4_sumSets 65 = .ok (.imul, 1) := by decide +kernel
theorem dX4_sumSets_66 : decode cX4_sumSets 66 = .ok (.if_icmp .ge 99, 3) := by decide +kernel
theorem dX4_sumSets_69 : decode cX4_sumSets 69 = .ok (.aload_n 0, 1) := by decide +kernel
theorem dX4_sumSets_70 : decode cX4_sumSets 70 = .ok (.getfield 18, 3) := by decide +kernel
theorem dX4_sumSets_73 : decode cX4_sumSets 73 = .ok (.iload 5, 2) := by decide +kernel
theorem dX4_sumSets_75 : decode cX4_sumSets 75 = .ok (.aload_n 0, 1) := by decide +kernel
theorem dX4_sumSets_76 : decode cX4_sumSets 76 = .ok (.getfield 18, 3) := by decide +kernel
theorem dX4_sumSets_79 : decode cX4_sumSets 79 = .ok (.iload 5, 2) := by decide +kernel
theorem dX4_sumSets_81 : decode cX4_sumSets 81 = .ok (.iload_n 3, 1) := by decide +kernel
theorem dX4_sumSets_82 : decode cX4_sumSets 82 = .ok (.isub, 1) := by decide +kernel
theorem dX4_sumSets_83 : decode cX4_sumSets 83 = .ok (.iaload, 1) := by decide +kernel
theorem dX4_sumSets_84 : decode cX4_sumSets 84 = .ok (.aload_n 0, 1) := by decide +kernel
theorem dX4_sumSets_85 : decode cX4_sumSets 85 = .ok (.getfield 11, 3) := by decide +kernel
theorem dX4_sumSets_88 : decode cX4_sumSets 88 = .ok (.iload_n 2, 1) := by decide +kernel
theorem dX4_sumSets_89 : decode cX4_sumSets 89 = .ok (.iaload, 1) := by decide +kernel
theorem dX4_sumSets_90 : decode cX4_sumSets 90 = .ok (.iadd, 1) := by decide +kernel
theorem dX4_sumSets_91 : decode cX4_sumSets 91 = .ok (.iastore, 1) := by decide +kernel
theorem dX4_sumSets_92 : decode cX4_sumSets 92 = .ok (.aload_n 0, 1) := by decide +kernel
theorem dX4_sumSets_93 : decode cX4_sumSets 93 = .ok (.getfield 21, 3) := by decide +kernel
theorem dX4_sumSets_96 : decode cX4_sumSets 96 = .ok (.iload 5, 2) := by decide +kernel
theorem dX4_sumSets_98 : decode cX4_sumSets 98 = .ok (.aload_n 0, 1) := by decide +kernel
theorem dX4_sumSets_99 : decode cX4_sumSets 99 = .ok (.getfield 21, 3) := by decide +kernel
theorem dX4_sumSets_102 : decode cX4_sumSets 102 = .ok (.iload 5, 2) := by decide +kernel
theorem dX4_sumSets_104 : decode cX4_sumSets 104 = .ok (.iload_n 3, 1) := by decide +kernel
theorem dX4_sumSets_105 : decode cX4_sumSets 105 = .ok (.isub, 1) := by decide +kernel
theorem dX4_sumSets_106 : decode cX4_sumSets 106 = .ok (.iaload, 1) := by decide +kernel
theorem dX4_sumSets_107 : decode cX4_sumSets 107 = .ok (.aload_n 0, 1) := by decide +kernel
theorem dX4_sumSets_108 : decode cX4_sumSets 108 = .ok (.getfield 15, 3) := by decide +kernel
theorem dX4_sumSets_111 : decode cX4_sumSets 111 = .ok (.iload_n 2, 1) := by decide +kernel
theorem dX4_sumSets_112 : decode cX4_sumSets 112 = .ok (.iaload, 1) := by decide +kernel
theorem dX4_sumSets_113 : decode cX4_sumSets 113 = .ok (.iadd, 1) := by decide +kernel
theorem dX4_sumSets_114 : decode cX4_sumSets 114 = .ok (.iastore, 1) := by decide +kernel
theorem dX4_sumSets_115 : decode cX4_sumSets 115 = .ok (.aload_n 0, 1) := by decide +kernel
theorem dX4_sumSets_116 : decode cX4_sumSets 116 = .ok (.getfield 24, 3) := by decide +kernel
theorem dX4_sumSets_119 : decode cX4_sumSets 119 = .ok (.iload 5, 2) := by decide +kernel
theorem dX4_sumSets_121 : decode cX4_sumSets 121 = .ok (.aload_n 0, 1) := by decide +kernel
theorem dX4_sumSets_122 : decode cX4_sumSets 122 = .ok (.getfield 24, 3) := by decide +kernel
theorem dX4_sumSets_125 : decode cX4_sumSets 125 = .ok (.iload 5, 2) := by decide +kernel
theorem dX4_sumSets_127 : decode cX4_sumSets 127 = .ok (.iload_n 3, 1) := by decide +kernel
theorem dX4_sumSets_128 : decode cX4_sumSets 128 = .ok (.isub, 1) := by decide +kernel
theorem dX4_sumSets_129 : decode cX4_sumSets 129 = .ok (.iaload, 1) := by decide +kernel
theorem dX4_sumSets_130 : decode cX4_sumSets 130 = .ok (.iload 4, 2) := by decide +kernel
theorem dX4_sumSets_132 : decode cX4_sumSets 132 = .ok (.iadd, 1) := by decide +kernel
theorem dX4_sumSets_133 : decode cX4_sumSets 133 = .ok (.iastore, 1) := by decide +kernel
theorem dX4_sumSets_134 : decode cX4_sumSets 134 = .ok (.aload_n 0, 1) := by decide +kernel
theorem dX4_sumSets_135 : decode cX4_sumSets 135 = .ok (.getfield 27, 3) := by decide +kernel
theorem dX4_sumSets_138 : decode cX4_sumSets 138 = .ok (.iload 5, 2) := by decide +kernel
theorem dX4_sumSets_140 : decode cX4_sumSets 140 = .ok (.aload_n 0, 1) := by decide +kernel
theorem dX4_sumSets_141 : decode cX4_sumSets 141 = .ok (.getfield 27, 3) := by decide +kernel
theorem dX4_sumSets_144 : decode cX4_sumSets 144 = .ok (.iload 5, 2) := by decide +kernel
theorem dX4_sumSets_146 : decode cX4_sumSets 146 = .ok (.iload_n 3, 1) := by decide +kernel
theorem dX4_sumSets_147 : decode cX4_sumSets 147 = .ok (.isub, 1) := by decide +kernel
theorem dX4_sumSets_148 : decode cX4_sumSets 148 = .ok (.iaload, 1) := by decide +kernel
theorem dX4_sumSets_149 : decode cX4_sumSets 149 = .ok (.aload_n 0, 1) := by decide +kernel
theorem dX4_sumSets_150 : decode cX4_sumSets 150 = .ok (.getfield 15, 3) := by decide +kernel
theorem dX4_sumSets_153 : decode cX4_sumSets 153 = .ok (.iload_n 2, 1) := by decide +kernel
theorem dX4_sumSets_154 : decode cX4_sumSets 154 = .ok (.iaload, 1) := by decide +kernel
theorem dX4_sumSets_155 : decode cX4_sumSets 155 = .ok (.invokestatic 131, 3) := by decide +kernel
theorem dX4_sumSets_158 : decode cX4_sumSets 158 = .ok (.iastore, 1) := by decide +kernel
theorem dX4_sumSets_159 : decode cX4_sumSets 159 = .ok (.iinc 5 1, 3) := by decide +kernel
theorem dX4_sumSets_162 : decode cX4_sumSets 162 = .ok (.goto (-101), 3) := by decide +kernel
theorem dX4_sumSets_165 : decode cX4_sumSets 165 = .ok (.iinc 2 1, 3) := by decide +kernel
theorem dX4_sumSets_168 : decode cX4_sumSets 168 = .ok (.goto (-138), 3) := by decide +kernel
theorem dX4_sumSets_171 : decode cX4_sumSets 171 = .ok (.return_, 1) := by decide +kernel
theorem dX4_placeOn_0 : decode cX4_placeOn 0 = .ok (.iload 4, 2) := by decide +kernel
theorem dX4_placeOn_2 : decode cX4_placeOn 2 = .ok (.istore 5, 2) := by decide +kernel
theorem dX4_placeOn_4 : decode cX4_placeOn 4 = .ok (.iload 5, 2) := by decide +kernel
theorem dX4_placeOn_6 : decode cX4_placeOn 6 = .ok (.ifCond .le 113, 3) := by decide +kernel
theorem dX4_placeOn_9 : decode cX4_placeOn 9 = .ok (.iload 5, 2) := by decide +kernel
theorem dX4_placeOn_11 : decode cX4_placeOn 11 = .ok (.istore 6, 2) := by decide +kernel
theorem dX4_placeOn_13 : decode cX4_placeOn 13 = .ok (.iload 6, 2) := by decide +kernel
theorem dX4_placeOn_15 : decode cX4_placeOn 15 = .ok (.ifCond .le 98, 3) := by decide +kernel
theorem dX4_placeOn_18 : decode cX4_placeOn 18 = .ok (.aload_n 0, 1) := by decide +kernel
theorem dX4_placeOn_19 : decode cX4_placeOn 19 = .ok (.getfield 30, 3) := by decide +kernel
theorem dX4_placeOn_22 : decode cX4_placeOn 22 = .ok (.iload 5, 2) := by decide +kernel
theorem dX4_placeOn_24 : decode cX4_placeOn 24 = .ok (.iload 6, 2) := by decide +kernel
theorem dX4_placeOn_26 : decode cX4_placeOn 26 = .ok (.isub, 1) := by decide +kernel
theorem dX4_placeOn_27 : decode cX4_placeOn 27 = .ok (.laload, 1) := by decide +kernel
theorem dX4_placeOn_28 : decode cX4_placeOn 28 = .ok (.lstore 7, 2) := by decide +kernel
theorem dX4_placeOn_30 : decode cX4_placeOn 30 = .ok (.aload_n 0, 1) := by decide +kernel
theorem dX4_placeOn_31 : decode cX4_placeOn 31 = .ok (.getfield 18, 3) := by decide +kernel
theorem dX4_placeOn_34 : decode cX4_placeOn 34 = .ok (.iload 6, 2) := by decide +kernel
theorem dX4_placeOn_36 : decode cX4_placeOn 36 = .ok (.iaload, 1) := by decide +kernel
theorem dX4_placeOn_37 : decode cX4_placeOn 37 = .ok (.iload_n 2, 1) := by decide +kernel
theorem dX4_placeOn_38 : decode cX4_placeOn 38 = .ok (.if_icmp .gt 63, 3) := by decide +kernel
theorem dX4_placeOn_41 : decode cX4_placeOn 41 = .ok (.lload 7, 2) := by decide +kernel
theorem dX4_placeOn_43 : decode cX4_placeOn 43 = .ok (.ldc2_w 112, 3) := by decide +kernel
theorem dX4_placeOn_46 : decode cX4_placeOn 46 = .ok (.lcmp, 1) := by decide +kernel
theorem dX4_placeOn_47 : decode cX4_placeOn 47 = .ok (.ifCond .eq 54, 3) := by decide +kernel
theorem dX4_placeOn_50 : decode cX4_placeOn 50 = .ok (.lload 7, 2) := by decide +kernel
theorem dX4_placeOn_52 : decode cX4_placeOn 52 = .ok (.ldc2_w 124, 3) := by decide +kernel
theorem dX4_placeOn_55 : decode cX4_placeOn 55 = .ok (.aload_n 0, 1) := by decide +kernel
theorem dX4_placeOn_56 : decode cX4_placeOn 56 = .ok (.getfield 21, 3) := by decide +kernel
theorem dX4_placeOn_59 : decode cX4_placeOn 59 = .ok (.iload 6, 2) := by decide +kernel
theorem dX4_placeOn_61 : decode cX4_placeOn 61 = .ok (.iaload, 1) := by decide +kernel
theorem dX4_placeOn_62 : decode cX4_placeOn 62 = .ok (.i2l, 1) := by decide +kernel
theorem dX4_placeOn_63 : decode cX4_placeOn 63 = .ok (.lmul, 1) := by decide +kernel
theorem dX4_placeOn_64 : decode cX4_placeOn 64 = .ok (.iload_n 3, 1) := by decide +kernel
theorem dX4_placeOn_65 : decode cX4_placeOn 65 = .ok (.i2l, 1) := by decide +kernel
theorem dX4_placeOn_66 : decode cX4_placeOn 66 = .ok (.lmul, 1) := by decide +kernel
theorem dX4_placeOn_67 : decode cX4_placeOn 67 = .ok (.ladd, 1) := by decide +kernel
theorem dX4_placeOn_68 : decode cX4_placeOn 68 = .ok (.iload_n 1, 1) := by decide +kernel
theorem dX4_placeOn_69 : decode cX4_placeOn 69 = .ok (.i2l, 1) := by decide +kernel
theorem dX4_placeOn_70 : decode cX4_placeOn 70 = .ok (.aload_n 0, 1) := by decide +kernel
theorem dX4_placeOn_71 : decode cX4_placeOn 71 = .ok (.getfield 24, 3) := by decide +kernel
theorem dX4_placeOn_74 : decode cX4_placeOn 74 = .ok (.iload 6, 2) := by decide +kernel
theorem dX4_placeOn_76 : decode cX4_placeOn 76 = .ok (.iaload, 1) := by decide +kernel
theorem dX4_placeOn_77 : decode cX4_placeOn 77 = .ok (.i2l, 1) := by decide +kernel
theorem dX4_placeOn_78 : decode cX4_placeOn 78 = .ok (.lmul, 1) := by decide +kernel
theorem dX4_placeOn_79 : decode cX4_placeOn 79 = .ok (.ladd, 1) := by decide +kernel
theorem dX4_placeOn_80 : decode cX4_placeOn 80 = .ok (.lstore 9, 2) := by decide +kernel
theorem dX4_placeOn_82 : decode cX4_placeOn 82 = .ok (.aload_n 0, 1) := by decide +kernel
theorem dX4_placeOn_83 : decode cX4_placeOn 83 = .ok (.getfield 30, 3) := by decide +kernel
theorem dX4_placeOn_86 : decode cX4_placeOn 86 = .ok (.iload 5, 2) := by decide +kernel
theorem dX4_placeOn_88 : decode cX4_placeOn 88 = .ok (.aload_n 0, 1) := by decide +kernel
theorem dX4_placeOn_89 : decode cX4_placeOn 89 = .ok (.getfield 30, 3) := by decide +kernel
theorem dX4_placeOn_92 : decode cX4_placeOn 92 = .ok (.iload 5, 2) := by decide +kernel
theorem dX4_placeOn_94 : decode cX4_placeOn 94 = .ok (.laload, 1) := by decide +kernel
theorem dX4_placeOn_95 : decode cX4_placeOn 95 = .ok (.lload 9, 2) := by decide +kernel
theorem dX4_placeOn_97 : decode cX4_placeOn 97 = .ok (.invokestatic 137, 3) := by decide +kernel
theorem dX4_placeOn_100 : decode cX4_placeOn 100 = .ok (.lastore, 1) := by decide +kernel
theorem dX4_placeOn_101 : decode cX4_placeOn 101 = .ok (.iload 6, 2) := by decide +kernel
theorem dX4_placeOn_103 : decode cX4_placeOn 103 = .ok (.iconst 1, 1) := by decide +kernel
theorem dX4_placeOn_104 : decode cX4_placeOn 104 = .ok (.isub, 1) := by decide +kernel
theorem dX4_placeOn_105 : decode cX4_placeOn 105 = .ok (.iload 5, 2) := by decide +kernel
theorem dX4_placeOn_107 : decode cX4_placeOn 107 = .ok (.iand, 1) := by decide +kernel
theorem dX4_placeOn_108 : decode cX4_placeOn 108 = .ok (.istore 6, 2) := by decide +kernel
theorem dX4_placeOn_110 : decode cX4_placeOn 110 = .ok (.goto (-97), 3) := by decide +kernel
theorem dX4_placeOn_113 : decode cX4_placeOn 113 = .ok (.iinc 5 (-1), 3) := by decide +kernel
theorem dX4_placeOn_116 : decode cX4_placeOn 116 = .ok (.goto (-112), 3) := by decide +kernel
theorem dX4_placeOn_119 : decode cX4_placeOn 119 = .ok (.return_, 1) := by decide +kernel
theorem dX4_leastTrips_0 : decode cX4_leastTrips 0 = .ok (.iconst 1, 1) := by decide +kernel
theorem dX4_leastTrips_1 : decode cX4_leastTrips 1 = .ok (.aload_n 0, 1) := by decide +kernel
theorem dX4_leastTrips_2 : decode cX4_leastTrips 2 = .ok (.getfield 55, 3) := by decide +kernel
theorem dX4_leastTrips_5 : decode cX4_leastTrips 5 = .ok (.ishl, 1) := by decide +kernel
theorem dX4_leastTrips_6 : decode cX4_leastTrips 6 = .ok (.iconst 1, 1) := by decide +kernel
theorem dX4_leastTrips_7 : decode cX4_leastTrips 7 = .ok (.isub, 1) := by decide +kernel
theorem dX4_leastTrips_8 : decode cX4_leastTrips 8 = .ok (.istore_n 2, 1) := by decide +kernel
theorem dX4_leastTrips_9 : decode cX4_leastTrips 9 = .ok (.aload_n 0, 1) := by decide +kernel
theorem dX4_leastTrips_10 : decode cX4_leastTrips 10 = .ok (.aload_n 0, 1) := by decide +kernel
theorem dX4_leastTrips_11 : decode cX4_leastTrips 11 = .ok (.getfield 55, 3) := by decide +kernel
theorem dX4_leastTrips_14 : decode cX4_leastTrips 14 = .ok (.invokevirtual 108, 3) := by decide +kernel
theorem dX4_leastTrips_17 : decode cX4_leastTrips 17 = .ok (.aload_n 0, 1) := by decide +kernel
theorem dX4_leastTrips_18 : decode cX4_leastTrips 18 = .ok (.getfield 34, 3) := by decide +kernel
theorem dX4_leastTrips_21 : decode cX4_leastTrips 21 = .ok (.iconst 0, 1) := by decide +kernel
theorem dX4_leastTrips_22 : decode cX4_leastTrips 22 = .ok (.iconst 0, 1) := by decide +kernel
theorem dX4_leastTrips_23 : decode cX4_leastTrips 23 = .ok (.iastore, 1) := by decide +kernel
theorem dX4_leastTrips_24 : decode cX4_leastTrips 24 = .ok (.iconst 1, 1) := by decide +kernel
theorem dX4_leastTrips_25 : decode cX4_leastTrips 25 = .ok (.istore_n 3, 1) := by decide +kernel
theorem dX4_leastTrips_26 : decode cX4_leastTrips 26 = .ok (.iload_n 3, 1) := by decide +kernel
theorem dX4_leastTrips_27 : decode cX4_leastTrips 27 = .ok (.iload_n 2, 1) := by decide +kernel
theorem dX4_leastTrips_28 : decode cX4_leastTrips 28 = .ok (.if_icmp .gt 106, 3) := by decide +kernel
theorem dX4_leastTrips_31 : decode cX4_leastTrips 31 = .ok (.aload_n 0, 1) := by decide +kernel
theorem dX4_leastTrips_32 : decode cX4_leastTrips 32 = .ok (.getfield 34, 3) := by decide +kernel
theorem dX4_leastTrips_35 : decode cX4_leastTrips 35 = .ok (.iload_n 3, 1) := by decide +kernel
theorem dX4_leastTrips_36 : decode cX4_leastTrips 36 = .ok (.ldc 141, 2) := by decide +kernel
theorem dX4_leastTrips_38 : decode cX4_leastTrips 38 = .ok (.iastore, 1) := by decide +kernel
theorem dX4_leastTrips_39 : decode cX4_leastTrips 39 = .ok (.iload_n 3, 1) := by decide +kernel
theorem dX4_leastTrips_40 : decode cX4_leastTrips 40 = .ok (.iload_n 3, 1) := by decide +kernel
theorem dX4_leastTrips_41 : decode cX4_leastTrips 41 = .ok (.ineg, 1) := by decide +kernel
theorem dX4_leastTrips_42 : decode cX4_leastTrips 42 = .ok (.iand, 1) := by decide +kernel
theorem dX4_leastTrips_43 : decode cX4_leastTrips 43 = .ok (.istore 4, 2) := by decide +kernel
theorem dX4_leastTrips_45 : decode cX4_leastTrips 45 = .ok (.iload_n 3, 1) := by decide +kernel
theorem dX4_leastTrips_46 : decode cX4_leastTrips 46 = .ok (.istore 5, 2) := by decide +kernel
theorem dX4_leastTrips_48 : decode cX4_leastTrips 48 = .ok (.iload 5, 2) := by decide +kernel
theorem dX4_leastTrips_50 : decode cX4_leastTrips 50 = .ok (.ifCond .le 78, 3) := by decide +kernel
theorem dX4_leastTrips_53 : decode cX4_leastTrips 53 = .ok (.aload_n 0, 1) := by decide +kernel
theorem dX4_leastTrips_54 : decode cX4_leastTrips 54 = .ok (.getfield 34, 3) := by decide +kernel
theorem dX4_leastTrips_57 : decode cX4_leastTrips 57 = .ok (.iload_n 3, 1) := by decide +kernel
theorem dX4_leastTrips_58 : decode cX4_leastTrips 58 = .ok (.iload 5, 2) := by decide +kernel
theorem dX4_leastTrips_60 : decode cX4_leastTrips 60 = .ok (.isub, 1) := by decide +kernel
theorem dX4_leastTrips_61 : decode cX4_leastTrips 61 = .ok (.iaload, 1) := by decide +kernel
theorem dX4_leastTrips_62 : decode cX4_leastTrips 62 = .ok (.istore 6, 2) := by decide +kernel
theorem dX4_leastTrips_64 : decode cX4_leastTrips 64 = .ok (.iload 5, 2) := by decide +kernel
theorem dX4_leastTrips_66 : decode cX4_leastTrips 66 = .ok (.iload 4, 2) := by decide +kernel
theorem dX4_leastTrips_68 : decode cX4_leastTrips 68 = .ok (.iand, 1) := by decide +kernel
theorem dX4_leastTrips_69 : decode cX4_leastTrips 69 = .ok (.ifCond .eq 48, 3) := by decide +kernel
theorem dX4_leastTrips_72 : decode cX4_leastTrips 72 = .ok (.iload 6, 2) := by decide +kernel
theorem dX4_leastTrips_74 : decode cX4_leastTrips 74 = .ok (.ldc 141, 2) := by decide +kernel
theorem dX4_leastTrips_76 : decode cX4_leastTrips 76 = .ok (.if_icmp .eq 41, 3) := by decide +kernel
theorem dX4_leastTrips_79 : decode cX4_leastTrips 79 = .ok (.aload_n 0, 1) := by decide +kernel
theorem dX4_leastTrips_80 : decode cX4_leastTrips 80 = .ok (.getfield 18, 3) := by decide +kernel
theorem dX4_leastTrips_83 : decode cX4_leastTrips 83 = .ok (.iload 5, 2) := by decide +kernel
theorem dX4_leastTrips_85 : decode cX4_leastTrips 85 = .ok (.iaload, 1) := by decide +kernel
theorem dX4_leastTrips_86 : decode cX4_leastTrips 86 = .ok (.iload_n 1, 1) := by decide +kernel
theorem dX4_leastTrips_87 : decode cX4_leastTrips 87 = .ok (.if_icmp .gt 30, 3) := by decide +kernel
theorem dX4_leastTrips_90 : decode cX4_leastTrips 90 = .ok (.aload_n 0, 1) := by decide +kernel
theorem dX4_leastTrips_91 : decode cX4_leastTrips 91 = .ok (.getfield 34, 3) := by decide +kernel
theorem dX4_leastTrips_94 : decode cX4_leastTrips 94 = .ok (.iload_n 3, 1) := by decide +kernel
theorem dX4_leastTrips_95 : decode cX4_leastTrips 95 = .ok (.aload_n 0, 1) := by decide +kernel
theorem dX4_leastTrips_96 : decode cX4_leastTrips 96 = .ok (.getfield 34, 3) := by decide +kernel
theorem dX4_leastTrips_99 : decode cX4_leastTrips 99 = .ok (.iload_n 3, 1) := by decide +kernel
theorem dX4_leastTrips_100 : decode cX4_leastTrips 100 = .ok (.iaload, 1) := by decide +kernel
theorem dX4_leastTrips_101 : decode cX4_leastTrips 101 = .ok (.iload 6, 2) := by decide +kernel
theorem dX4_leastTrips_103 : decode cX4_leastTrips 103 = .ok (.iconst 2, 1) := by decide +kernel
theorem dX4_leastTrips_104 : decode cX4_leastTrips 104 = .ok (.aload_n 0, 1) := by decide +kernel
theorem dX4_leastTrips_105 : decode cX4_leastTrips 105 = .ok (.getfield 27, 3) := by decide +kernel
theorem dX4_leastTrips_108 : decode cX4_leastTrips 108 = .ok (.iload 5, 2) := by decide +kernel
theorem dX4_leastTrips_110 : decode cX4_leastTrips 110 = .ok (.iaload, 1) := by decide +kernel
theorem dX4_leastTrips_111 : decode cX4_leastTrips 111 = .ok (.imul, 1) := by decide +kernel
theorem dX4_leastTrips_112 : decode cX4_leastTrips 112 = .ok (.iadd, 1) := by decide +kernel
theorem dX4_leastTrips_113 : decode cX4_leastTrips 113 = .ok (.invokestatic 142, 3) := by decide +kernel
theorem dX4_leastTrips_116 : decode cX4_leastTrips 116 = .ok (.iastore, 1) := by decide +kernel
theorem dX4_leastTrips_117 : decode cX4_leastTrips 117 = .ok (.iload 5, 2) := by decide +kernel
theorem dX4_leastTrips_119 : decode cX4_leastTrips 119 = .ok (.iconst 1, 1) := by decide +kernel
theorem dX4_leastTrips_120 : decode cX4_leastTrips 120 = .ok (.isub, 1) := by decide +kernel
theorem dX4_leastTrips_121 : decode cX4_leastTrips 121 = .ok (.iload_n 3, 1) := by decide +kernel
theorem dX4_leastTrips_122 : decode cX4_leastTrips 122 = .ok (.iand, 1) := by decide +kernel
theorem dX4_leastTrips_123 : decode cX4_leastTrips 123 = .ok (.istore 5, 2) := by decide +kernel
theorem dX4_leastTrips_125 : decode cX4_leastTrips 125 = .ok (.goto (-77), 3) := by decide +kernel
theorem dX4_leastTrips_128 : decode cX4_leastTrips 128 = .ok (.iinc 3 1, 3) := by decide +kernel
theorem dX4_leastTrips_131 : decode cX4_leastTrips 131 = .ok (.goto (-105), 3) := by decide +kernel
theorem dX4_leastTrips_134 : decode cX4_leastTrips 134 = .ok (.aload_n 0, 1) := by decide +kernel
theorem dX4_leastTrips_135 : decode cX4_leastTrips 135 = .ok (.getfield 34, 3) := by decide +kernel
theorem dX4_leastTrips_138 : decode cX4_leastTrips 138 = .ok (.iload_n 2, 1) := by decide +kernel
theorem dX4_leastTrips_139 : decode cX4_leastTrips 139 = .ok (.iaload, 1) := by decide +kernel
theorem dX4_leastTrips_140 : decode cX4_leastTrips 140 = .ok (.ldc 141, 2) := by decide +kernel
theorem dX4_leastTrips_142 : decode cX4_leastTrips 142 = .ok (.if_icmp .ne 7, 3) := by decide +kernel
theorem dX4_leastTrips_145 : decode cX4_leastTrips 145 = .ok (.iconst (-1), 1) := by decide +kernel
theorem dX4_leastTrips_146 : decode cX4_leastTrips 146 = .ok (.goto 9, 3) := by decide +kernel
theorem dX4_leastTrips_149 : decode cX4_leastTrips 149 = .ok (.aload_n 0, 1) := by decide +kernel
theorem dX4_leastTrips_150 : decode cX4_leastTrips 150 = .ok (.getfield 34, 3) := by decide +kernel
theorem dX4_leastTrips_153 : decode cX4_leastTrips 153 = .ok (.iload_n 2, 1) := by decide +kernel
theorem dX4_leastTrips_154 : decode cX4_leastTrips 154 = .ok (.iaload, 1) := by decide +kernel
theorem dX4_leastTrips_155 : decode cX4_leastTrips 155 = .ok (.ireturn, 1) := by decide +kernel
theorem dX4_gatherPassed_0 : decode cX4_gatherPassed 0 = .ok (.aload_n 0, 1) := by decide +kernel
theorem dX4_gatherPassed_1 : decode cX4_gatherPassed 1 = .ok (.iconst 0, 1) := by decide +kernel
theorem dX4_gatherPassed_2 : decode cX4_gatherPassed 2 = .ok (.putfield 55, 3) := by decide +kernel
theorem dX4_gatherPassed_5 : decode cX4_gatherPassed 5 = .ok (.iconst 0, 1) := by decide +kernel
theorem dX4_gatherPassed_6 : decode cX4_gatherPassed 6 = .ok (.istore_n 2, 1) := by decide +kernel
theorem dX4_gatherPassed_7 : decode cX4_gatherPassed 7 = .ok (.iload_n 2, 1) := by decide +kernel
theorem dX4_gatherPassed_8 : decode cX4_gatherPassed 8 = .ok (.aload_n 1, 1) := by decide +kernel
theorem dX4_gatherPassed_9 : decode cX4_gatherPassed 9 = .ok (.getfield 96, 3) := by decide +kernel
theorem dX4_gatherPassed_12 : decode cX4_gatherPassed 12 = .ok (.if_icmp .ge 32, 3) := by decide +kernel
theorem dX4_gatherPassed_15 : decode cX4_gatherPassed 15 = .ok (.aload_n 1, 1) := by decide +kernel
theorem dX4_gatherPassed_16 : decode cX4_gatherPassed 16 = .ok (.iload_n 2, 1) := by decide +kernel
theorem dX4_gatherPassed_17 : decode cX4_gatherPassed 17 = .ok (.invokevirtual 144, 3) := by decide +kernel
theorem dX4_gatherPassed_20 : decode cX4_gatherPassed 20 = .ok (.ifCond .eq 18, 3) := by decide +kernel
theorem dX4_gatherPassed_23 : decode cX4_gatherPassed 23 = .ok (.aload_n 0, 1) := by decide +kernel
theorem dX4_gatherPassed_24 : decode cX4_gatherPassed 24 = .ok (.iconst 0, 1) := by decide +kernel
theorem dX4_gatherPassed_25 : decode cX4_gatherPassed 25 = .ok (.aload_n 1, 1) := by decide +kernel
theorem dX4_gatherPassed_26 : decode cX4_gatherPassed 26 = .ok (.aload_n 1, 1) := by decide +kernel
theorem dX4_gatherPassed_27 : decode cX4_gatherPassed 27 = .ok (.getfield 65, 3) := by decide +kernel
theorem dX4_gatherPassed_30 : decode cX4_gatherPassed 30 = .ok (.iload_n 2, 1) := by decide +kernel
theorem dX4_gatherPassed_31 : decode cX4_gatherPassed 31 = .ok (.aaload, 1) := by decide +kernel
theorem dX4_gatherPassed_32 : decode cX4_gatherPassed 32 = .ok (.invokevirtual 147, 3) := by decide +kernel
theorem dX4_gatherPassed_35 : decode cX4_gatherPassed 35 = .ok (.invokevirtual 92, 3) := by decide +kernel
theorem dX4_gatherPassed_38 : decode cX4_gatherPassed 38 = .ok (.iinc 2 1, 3) := by decide +kernel
theorem dX4_gatherPassed_41 : decode cX4_gatherPassed 41 = .ok (.goto (-34), 3) := by decide +kernel
theorem dX4_gatherPassed_44 : decode cX4_gatherPassed 44 = .ok (.aload_n 0, 1) := by decide +kernel
theorem dX4_gatherPassed_45 : decode cX4_gatherPassed 45 = .ok (.getfield 55, 3) := by decide +kernel
theorem dX4_gatherPassed_48 : decode cX4_gatherPassed 48 = .ok (.ireturn, 1) := by decide +kernel
theorem dX4_cutLots_0 : decode cX4_cutLots 0 = .ok (.aload_n 0, 1) := by decide +kernel
theorem dX4_cutLots_1 : decode cX4_cutLots 1 = .ok (.iload_n 1, 1) := by decide +kernel
theorem dX4_cutLots_2 : decode cX4_cutLots 2 = .ok (.invokevirtual 151, 3) := by decide +kernel
theorem dX4_cutLots_5 : decode cX4_cutLots 5 = .ok (.aload_n 0, 1) := by decide +kernel
theorem dX4_cutLots_6 : decode cX4_cutLots 6 = .ok (.getfield 39, 3) := by decide +kernel
theorem dX4_cutLots_9 : decode cX4_cutLots 9 = .ok (.iload_n 1, 1) := by decide +kernel
theorem dX4_cutLots_10 : decode cX4_cutLots 10 = .ok (.aaload, 1) := by decide +kernel
theorem dX4_cutLots_11 : decode cX4_cutLots 11 = .ok (.iconst 0, 1) := by decide +kernel
theorem dX4_cutLots_12 : decode cX4_cutLots 12 = .ok (.iaload, 1) := by decide +kernel
theorem dX4_cutLots_13 : decode cX4_cutLots 13 = .ok (.istore_n 3, 1) := by decide +kernel
theorem dX4_cutLots_14 : decode cX4_cutLots 14 = .ok (.iload_n 2, 1) := by decide +kernel
theorem dX4_cutLots_15 : decode cX4_cutLots 15 = .ok (.iconst (-1), 1) := by decide +kernel
theorem dX4_cutLots_16 : decode cX4_cutLots 16 = .ok (.if_icmp .ne 5, 3) := by decide +kernel
theorem dX4_cutLots_19 : decode cX4_cutLots 19 = .ok (.iload_n 3, 1) := by decide +kernel
theorem dX4_cutLots_20 : decode cX4_cutLots 20 = .ok (.ireturn, 1) := by decide +kernel
theorem dX4_cutLots_21 : decode cX4_cutLots 21 = .ok (.iconst 0, 1) := by decide +kernel
theorem dX4_cutLots_22 : decode cX4_cutLots 22 = .ok (.istore 4, 2) := by decide +kernel
theorem dX4_cutLots_24 : decode cX4_cutLots 24 = .ok (.iconst 0, 1) := by decide +kernel
theorem dX4_cutLots_25 : decode cX4_cutLots 25 = .ok (.istore 5, 2) := by decide +kernel
theorem dX4_cutLots_27 : decode cX4_cutLots 27 = .ok (.iload 5, 2) := by decide +kernel
theorem dX4_cutLots_29 : decode cX4_cutLots 29 = .ok (.iload_n 1, 1) := by decide +kernel
theorem dX4_cutLots_30 : decode cX4_cutLots 30 = .ok (.if_icmp .ge 38, 3) := by decide +kernel
theorem dX4_cutLots_33 : decode cX4_cutLots 33 = .ok (.aload_n 0, 1) := by decide +kernel
theorem dX4_cutLots_34 : decode cX4_cutLots 34 = .ok (.iload 4, 2) := by decide +kernel
theorem dX4_cutLots_36 : decode cX4_cutLots 36 = .ok (.iload_n 1, 1) := by decide +kernel
theorem dX4_cutLots_37 : decode cX4_cutLots 37 = .ok (.iload 5, 2) := by decide +kernel
theorem dX4_cutLots_39 : decode cX4_cutLots 39 = .ok (.isub, 1) := by decide +kernel
theorem dX4_cutLots_40 : decode cX4_cutLots 40 = .ok (.iload_n 3, 1) := by decide +kernel
theorem dX4_cutLots_41 : decode cX4_cutLots 41 = .ok (.invokevirtual 154, 3) := by decide +kernel
theorem dX4_cutLots_44 : decode cX4_cutLots 44 = .ok (.istore 6, 2) := by decide +kernel
theorem dX4_cutLots_46 : decode cX4_cutLots 46 = .ok (.iload 5, 2) := by decide +kernel
theorem dX4_cutLots_48 : decode cX4_cutLots 48 = .ok (.iload_n 2, 1) := by decide +kernel
theorem dX4_cutLots_49 : decode cX4_cutLots 49 = .ok (.if_icmp .ne 9, 3) := by decide +kernel
theorem dX4_cutLots_52 : decode cX4_cutLots 52 = .ok (.iload 6, 2) := by decide +kernel
theorem dX4_cutLots_54 : decode cX4_cutLots 54 = .ok (.iload 4, 2) := by decide +kernel
theorem dX4_cutLots_56 : decode cX4_cutLots 56 = .ok (.isub, 1) := by decide +kernel
theorem dX4_cutLots_57 : decode cX4_cutLots 57 = .ok (.ireturn, 1) := by decide +kernel
theorem dX4_cutLots_58 : decode cX4_cutLots 58 = .ok (.iload 6, 2) := by decide +kernel
theorem dX4_cutLots_60 : decode cX4_cutLots 60 = .ok (.istore 4, 2) := by decide +kernel
theorem dX4_cutLots_62 : decode cX4_cutLots 62 = .ok (.iinc 5 1, 3) := by decide +kernel
theorem dX4_cutLots_65 : decode cX4_cutLots 65 = .ok (.goto (-38), 3) := by decide +kernel
theorem dX4_cutLots_68 : decode cX4_cutLots 68 = .ok (.iconst (-1), 1) := by decide +kernel
theorem dX4_cutLots_69 : decode cX4_cutLots 69 = .ok (.ireturn, 1) := by decide +kernel
theorem dX4_findLeastLots_0 : decode cX4_findLeastLots 0 = .ok (.iconst 0, 1) := by decide +kernel
theorem dX4_findLeastLots_1 : decode cX4_findLeastLots 1 = .ok (.istore_n 2, 1) := by decide +kernel
theorem dX4_findLeastLots_2 : decode cX4_findLeastLots 2 = .ok (.iload_n 2, 1) := by decide +kernel
theorem dX4_findLeastLots_3 : decode cX4_findLeastLots 3 = .ok (.iload_n 1, 1) := by decide +kernel
theorem dX4_findLeastLots_4 : decode cX4_findLeastLots 4 = .ok (.if_icmp .gt 51, 3) := by decide +kernel
theorem dX4_findLeastLots_7 : decode cX4_findLeastLots 7 = .ok (.iconst 0, 1) := by decide +kernel
theorem dX4_findLeastLots_8 : decode cX4_findLeastLots 8 = .ok (.istore_n 3, 1) := by decide +kernel
theorem dX4_findLeastLots_9 : decode cX4_findLeastLots 9 = .ok (.iload_n 3, 1) := by decide +kernel
theorem dX4_findLeastLots_10 : decode cX4_findLeastLots 10 = .ok (.aload_n 0, 1) := by decide +kernel
theorem dX4_findLeastLots_11 : decode cX4_findLeastLots 11 = .ok (.getfield 55, 3) := by decide +kernel
theorem dX4_findLeastLots_14 : decode cX4_findLeastLots 14 = .ok (.if_icmp .gt 35, 3) := by decide +kernel
theorem dX4_findLeastLots_17 : decode cX4_findLeastLots 17 = .ok (.aload_n 0, 1) := by decide +kernel
theorem dX4_findLeastLots_18 : decode cX4_findLeastLots 18 = .ok (.getfield 39, 3) := by decide +kernel
theorem dX4_findLeastLots_21 : decode cX4_findLeastLots 21 = .ok (.iload_n 2, 1) := by decide +kernel
theorem dX4_findLeastLots_22 : decode cX4_findLeastLots 22 = .ok (.aaload, 1) := by decide +kernel
theorem dX4_findLeastLots_23 : decode cX4_findLeastLots 23 = .ok (.iload_n 3, 1) := by decide +kernel
theorem dX4_findLeastLots_24 : decode cX4_findLeastLots 24 = .ok (.iload_n 2, 1) := by decide +kernel
theorem dX4_findLeastLots_25 : decode cX4_findLeastLots 25 = .ok (.ifCond .ne 15, 3) := by decide +kernel
theorem dX4_findLeastLots_28 : decode cX4_findLeastLots 28 = .ok (.iload_n 3, 1) := by decide +kernel
theorem dX4_findLeastLots_29 : decode cX4_findLeastLots 29 = .ok (.aload_n 0, 1) := by decide +kernel
theorem dX4_findLeastLots_30 : decode cX4_findLeastLots 30 = .ok (.getfield 55, 3) := by decide +kernel
theorem dX4_findLeastLots_33 : decode cX4_findLeastLots 33 = .ok (.if_icmp .ne 7, 3) := by decide +kernel
theorem dX4_findLeastLots_36 : decode cX4_findLeastLots 36 = .ok (.iconst 0, 1) := by decide +kernel
theorem dX4_findLeastLots_37 : decode cX4_findLeastLots 37 = .ok (.goto 5, 3) := by decide +kernel
theorem dX4_findLeastLots_40 : decode cX4_findLeastLots 40 = .ok (.ldc 141, 2) := by decide +kernel
theorem dX4_findLeastLots_42 : decode cX4_findLeastLots 42 = .ok (.iastore, 1) := by decide +kernel
theorem dX4_findLeastLots_43 : decode cX4_findLeastLots 43 = .ok (.iinc 3 1, 3) := by decide +kernel
theorem dX4_findLeastLots_46 : decode cX4_findLeastLots 46 = .ok (.goto (-37), 3) := by decide +kernel
theorem dX4_findLeastLots_49 : decode cX4_findLeastLots 49 = .ok (.iinc 2 1, 3) := by decide +kernel
theorem dX4_findLeastLots_52 : decode cX4_findLeastLots 52 = .ok (.goto (-50), 3) := by decide +kernel
theorem dX4_findLeastLots_55 : decode cX4_findLeastLots 55 = .ok (.iconst 1, 1) := by decide +kernel
theorem dX4_findLeastLots_56 : decode cX4_findLeastLots 56 = .ok (.istore_n 2, 1) := by decide +kernel
theorem dX4_findLeastLots_57 : decode cX4_findLeastLots 57 = .ok (.iload_n 2, 1) := by decide +kernel
theorem dX4_findLeastLots_58 : decode cX4_findLeastLots 58 = .ok (.iload_n 1, 1) := by decide +kernel
theorem dX4_findLeastLots_59 : decode cX4_findLeastLots 59 = .ok (.if_icmp .gt 97, 3) := by decide +kernel
theorem dX4_findLeastLots_62 : decode cX4_findLeastLots 62 = .ok (.iconst 0, 1) := by decide +kernel
theorem dX4_findLeastLots_63 : decode cX4_findLeastLots 63 = .ok (.istore_n 3, 1) := by decide +kernel
theorem dX4_findLeastLots_64 : decode cX4_findLeastLots 64 = .ok (.iload_n 3, 1) := by decide +kernel
theorem dX4_findLeastLots_65 : decode cX4_findLeastLots 65 = .ok (.aload_n 0, 1) := by decide +kernel
theorem dX4_findLeastLots_66 : decode cX4_findLeastLots 66 = .ok (.getfield 55, 3) := by decide +kernel
theorem dX4_findLeastLots_69 : decode cX4_findLeastLots 69 = .ok (.if_icmp .ge 81, 3) := by decide +kernel
theorem dX4_findLeastLots_72 : decode cX4_findLeastLots 72 = .ok (.iconst 0, 1) := by decide +kernel
theorem dX4_findLeastLots_73 : decode cX4_findLeastLots 73 = .ok (.istore 4, 2) := by decide +kernel
theorem dX4_findLeastLots_75 : decode cX4_findLeastLots 75 = .ok (.iload_n 3, 1) := by decide +kernel
theorem dX4_findLeastLots_76 : decode cX4_findLeastLots 76 = .ok (.iconst 1, 1) := by decide +kernel
theorem dX4_findLeastLots_77 : decode cX4_findLeastLots 77 = .ok (.iadd, 1) := by decide +kernel
theorem dX4_findLeastLots_78 : decode cX4_findLeastLots 78 = .ok (.istore 5, 2) := by decide +kernel
theorem dX4_findLeastLots_80 : decode cX4_findLeastLots 80 = .ok (.iload 5, 2) := by decide +kernel
theorem dX4_findLeastLots_82 : decode cX4_findLeastLots 82 = .ok (.aload_n 0, 1) := by decide +kernel
theorem dX4_findLeastLots_83 : decode cX4_findLeastLots 83 = .ok (.getfield 55, 3) := by decide +kernel
theorem dX4_findLeastLots_86 : decode cX4_findLeastLots 86 = .ok (.if_icmp .gt 58, 3) := by decide +kernel
theorem dX4_findLeastLots_89 : decode cX4_findLeastLots 89 = .ok (.iload 4, 2) := by decide +kernel
theorem dX4_findLeastLots_91 : decode cX4_findLeastLots 91 = .ok (.aload_n 0, 1) := by decide +kernel
theorem dX4_findLeastLots_92 : decode cX4_findLeastLots 92 = .ok (.getfield 15, 3) := by decide +kernel
theorem dX4_findLeastLots_95 : decode cX4_findLeastLots 95 = .ok (.iload 5, 2) := by decide +kernel
theorem dX4_findLeastLots_97 : decode cX4_findLeastLots 97 = .ok (.iconst 1, 1) := by decide +kernel
theorem dX4_findLeastLots_98 : decode cX4_findLeastLots 98 = .ok (.isub, 1) := by decide +kernel
theorem dX4_findLeastLots_99 : decode cX4_findLeastLots 99 = .ok (.iaload, 1) := by decide +kernel
theorem dX4_findLeastLots_100 : decode cX4_findLeastLots 100 = .ok (.iadd, 1) := by decide +kernel
theorem dX4_findLeastLots_101 : decode cX4_findLeastLots 101 = .ok (.istore 4, 2) := by decide +kernel
theorem dX4_findLeastLots_103 : decode cX4_findLeastLots 103 = .ok (.aload_n 0, 1) := by decide +kernel
theorem dX4_findLeastLots_104 : decode cX4_findLeastLots 104 = .ok (.getfield 39, 3) := by decide +kernel
theorem dX4_findLeastLots_107 : decode cX4_findLeastLots 107 = .ok (.iload_n 2, 1) := by decide +kernel
theorem dX4_findLeastLots_108 : decode cX4_findLeastLots 108 = .ok (.aaload, 1) := by decide +kernel
theorem dX4_findLeastLots_109 : decode cX4_findLeastLots 109 = .ok (.iload_n 3, 1) := by decide +kernel
theorem dX4_findLeastLots_110 : decode cX4_findLeastLots 110 = .ok (.aload_n 0, 1) := by decide +kernel
theorem dX4_findLeastLots_111 : decode cX4_findLeastLots 111 = .ok (.getfield 39, 3) := by decide +kernel
theorem dX4_findLeastLots_114 : decode cX4_findLeastLots 114 = .ok (.iload_n 2, 1) := by decide +kernel
theorem dX4_findLeastLots_115 : decode cX4_findLeastLots 115 = .ok (.aaload, 1) := by decide +kernel
theorem dX4_findLeastLots_116 : decode cX4_findLeastLots 116 = .ok (.iload_n 3, 1) := by decide +kernel
theorem dX4_findLeastLots_117 : decode cX4_findLeastLots 117 = .ok (.iaload, 1) := by decide +kernel
theorem dX4_findLeastLots_118 : decode cX4_findLeastLots 118 = .ok (.iload 4, 2) := by decide +kernel
theorem dX4_findLeastLots_120 : decode cX4_findLeastLots 120 = .ok (.aload_n 0, 1) := by decide +kernel
theorem dX4_findLeastLots_121 : decode cX4_findLeastLots 121 = .ok (.getfield 39, 3) := by decide +kernel
theorem dX4_findLeastLots_124 : decode cX4_findLeastLots 124 = .ok (.iload_n 2, 1) := by decide +kernel
theorem dX4_findLeastLots_125 : decode cX4_findLeastLots 125 = .ok (.iconst 1, 1) := by decide +kernel
theorem dX4_findLeastLots_126 : decode cX4_findLeastLots 126 = .ok (.isub, 1) := by decide +kernel
theorem dX4_findLeastLots_127 : decode cX4_findLeastLots 127 = .ok (.aaload, 1) := by decide +kernel
theorem dX4_findLeastLots_128 : decode cX4_findLeastLots 128 = .ok (.iload 5, 2) := by decide +kernel
theorem dX4_findLeastLots_130 : decode cX4_findLeastLots 130 = .ok (.iaload, 1) := by decide +kernel
theorem dX4_findLeastLots_131 : decode cX4_findLeastLots 131 = .ok (.invokestatic 131, 3) := by decide +kernel
theorem dX4_findLeastLots_134 : decode cX4_findLeastLots 134 = .ok (.invokestatic 142, 3) := by decide +kernel
theorem dX4_findLeastLots_137 : decode cX4_findLeastLots 137 = .ok (.iastore, 1) := by decide +kernel
theorem dX4_findLeastLots_138 : decode cX4_findLeastLots 138 = .ok (.iinc 5 1, 3) := by decide +kernel
theorem dX4_findLeastLots_141 : decode cX4_findLeastLots 141 = .ok (.goto (-61), 3) := by decide +kernel
theorem dX4_findLeastLots_144 : decode cX4_findLeastLots 144 = .ok (.iinc 3 1, 3) := by decide +kernel
theorem dX4_findLeastLots_147 : decode cX4_findLeastLots 147 = .ok (.goto (-83), 3) := by decide +kernel
theorem dX4_findLeastLots_150 : decode cX4_findLeastLots 150 = .ok (.iinc 2 1, 3) := by decide +kernel
theorem dX4_findLeastLots_153 : decode cX4_findLeastLots 153 = .ok (.goto (-96), 3) := by decide +kernel
theorem dX4_findLeastLots_156 : decode cX4_findLeastLots 156 = .ok (.return_, 1) := by decide +kernel
theorem dX4_lotEnd_0 : decode cX4_lotEnd 0 = .ok (.iload_n 1, 1) := by decide +kernel
theorem dX4_lotEnd_1 : decode cX4_lotEnd 1 = .ok (.iconst 1, 1) := by decide +kernel
theorem dX4_lotEnd_2 : decode cX4_lotEnd 2 = .ok (.iadd, 1) := by decide +kernel
theorem dX4_lotEnd_3 : decode cX4_lotEnd 3 = .ok (.istore 4, 2) := by decide +kernel
theorem dX4_lotEnd_5 : decode cX4_lotEnd 5 = .ok (.iload 4, 2) := by decide +kernel
theorem dX4_lotEnd_7 : decode cX4_lotEnd 7 = .ok (.aload_n 0, 1) := by decide +kernel
theorem dX4_lotEnd_8 : decode cX4_lotEnd 8 = .ok (.getfield 55, 3) := by decide +kernel
theorem dX4_lotEnd_11 : decode cX4_lotEnd 11 = .ok (.if_icmp .ge 27, 3) := by decide +kernel
theorem dX4_lotEnd_14 : decode cX4_lotEnd 14 = .ok (.aload_n 0, 1) := by decide +kernel
theorem dX4_lotEnd_15 : decode cX4_lotEnd 15 = .ok (.getfield 39, 3) := by decide +kernel
theorem dX4_lotEnd_18 : decode cX4_lotEnd 18 = .ok (.iload_n 2, 1) := by decide +kernel
theorem dX4_lotEnd_19 : decode cX4_lotEnd 19 = .ok (.iconst 1, 1) := by decide +kernel
theorem dX4_lotEnd_20 : decode cX4_lotEnd 20 = .ok (.isub, 1) := by decide +kernel
theorem dX4_lotEnd_21 : decode cX4_lotEnd 21 = .ok (.aaload, 1) := by decide +kernel
theorem dX4_lotEnd_22 : decode cX4_lotEnd 22 = .ok (.iload 4, 2) := by decide +kernel
theorem dX4_lotEnd_24 : decode cX4_lotEnd 24 = .ok (.iaload, 1) := by decide +kernel
theorem dX4_lotEnd_25 : decode cX4_lotEnd 25 = .ok (.iload_n 3, 1) := by decide +kernel
theorem dX4_lotEnd_26 : decode cX4_lotEnd 26 = .ok (.if_icmp .gt 6, 3) := by decide +kernel
theorem dX4_lotEnd_29 : decode cX4_lotEnd 29 = .ok (.iload 4, 2) := by decide +kernel
theorem dX4_lotEnd_31 : decode cX4_lotEnd 31 = .ok (.ireturn, 1) := by decide +kernel
theorem dX4_lotEnd_32 : decode cX4_lotEnd 32 = .ok (.iinc 4 1, 3) := by decide +kernel
theorem dX4_lotEnd_35 : decode cX4_lotEnd 35 = .ok (.goto (-30), 3) := by decide +kernel
theorem dX4_lotEnd_38 : decode cX4_lotEnd 38 = .ok (.aload_n 0, 1) := by decide +kernel
theorem dX4_lotEnd_39 : decode cX4_lotEnd 39 = .ok (.getfield 55, 3) := by decide +kernel
theorem dX4_lotEnd_42 : decode cX4_lotEnd 42 = .ok (.ireturn, 1) := by decide +kernel
theorem dX4_longestChain_0 : decode cX4_longestChain 0 = .ok (.iconst 0, 1) := by decide +kernel
theorem dX4_longestChain_1 : decode cX4_longestChain 1 = .ok (.istore_n 3, 1) := by decide +kernel
theorem dX4_longestChain_2 : decode cX4_longestChain 2 = .ok (.iconst 0, 1) := by decide +kernel
theorem dX4_longestChain_3 : decode cX4_longestChain 3 = .ok (.istore 4, 2) := by decide +kernel
theorem dX4_longestChain_5 : decode cX4_longestChain 5 = .ok (.iload 4, 2) := by decide +kernel
theorem dX4_longestChain_7 : decode cX4_longestChain 7 = .ok (.aload_n 1, 1) := by decide +kernel
theorem dX4_longestChain_8 : decode cX4_longestChain 8 = .ok (.getfield 96, 3) := by decide +kernel
theorem dX4_longestChain_11 : decode cX4_longestChain 11 = .ok (.if_icmp .ge 52, 3) := by decide +kernel
theorem dX4_longestChain_14 : decode cX4_longestChain 14 = .ok (.aload_n 1, 1) := by decide +kernel
theorem dX4_longestChain_15 : decode cX4_longestChain 15 = .ok (.getfield 65, 3) := by decide +kernel
theorem dX4_longestChain_18 : decode cX4_longestChain 18 = .ok (.iload 4, 2) := by decide +kernel
theorem dX4_longestChain_20 : decode cX4_longestChain 20 = .ok (.aaload, 1) := by decide +kernel
theorem dX4_longestChain_21 : decode cX4_longestChain 21 = .ok (.getfield 158, 3) := by decide +kernel
theorem dX4_longestChain_24 : decode cX4_longestChain 24 = .ok (.iload_n 2, 1) := by decide +kernel
theorem dX4_longestChain_25 : decode cX4_longestChain 25 = .ok (.if_icmp .ne 32, 3) := by decide +kernel
theorem dX4_longestChain_28 : decode cX4_longestChain 28 = .ok (.aload_n 0, 1) := by decide +kernel
theorem dX4_longestChain_29 : decode cX4_longestChain 29 = .ok (.getfield 42, 3) := by decide +kernel
theorem dX4_longestChain_32 : decode cX4_longestChain 32 = .ok (.iload 4, 2) := by decide +kernel
theorem dX4_longestChain_34 : decode cX4_longestChain 34 = .ok (.iconst 1, 1) := by decide +kernel
theorem dX4_longestChain_35 : decode cX4_longestChain 35 = .ok (.aload_n 0, 1) := by decide +kernel
theorem dX4_longestChain_36 : decode cX4_longestChain 36 = .ok (.aload_n 1, 1) := by decide +kernel
theorem dX4_longestChain_37 : decode cX4_longestChain 37 = .ok (.iload 4, 2) := by decide +kernel
theorem dX4_longestChain_39 : decode cX4_longestChain 39 = .ok (.iload_n 2, 1) := by decide +kernel
theorem dX4_longestChain_40 : decode cX4_longestChain 40 = .ok (.invokevirtual 161, 3) := by decide +kernel
theorem dX4_longestChain_43 : decode cX4_longestChain 43 = .ok (.iadd, 1) := by decide +kernel
theorem dX4_longestChain_44 : decode cX4_longestChain 44 = .ok (.iastore, 1) := by decide +kernel
theorem dX4_longestChain_45 : decode cX4_longestChain 45 = .ok (.iload_n 3, 1) := by decide +kernel
theorem dX4_longestChain_46 : decode cX4_longestChain 46 = .ok (.aload_n 0, 1) := by decide +kernel
theorem dX4_longestChain_47 : decode cX4_longestChain 47 = .ok (.getfield 42, 3) := by decide +kernel
theorem dX4_longestChain_50 : decode cX4_longestChain 50 = .ok (.iload 4, 2) := by decide +kernel
theorem dX4_longestChain_52 : decode cX4_longestChain 52 = .ok (.iaload, 1) := by decide +kernel
theorem dX4_longestChain_53 : decode cX4_longestChain 53 = .ok (.invokestatic 131, 3) := by decide +kernel
theorem dX4_longestChain_56 : decode cX4_longestChain 56 = .ok (.istore_n 3, 1) := by decide +kernel
theorem dX4_longestChain_57 : decode cX4_longestChain 57 = .ok (.iinc 4 1, 3) := by decide +kernel
theorem dX4_longestChain_60 : decode cX4_longestChain 60 = .ok (.goto (-55), 3) := by decide +kernel
theorem dX4_longestChain_63 : decode cX4_longestChain 63 = .ok (.iload_n 3, 1) := by decide +kernel
theorem dX4_longestChain_64 : decode cX4_longestChain 64 = .ok (.ireturn, 1) := by decide +kernel
theorem dX4_longestAhead_0 : decode cX4_longestAhead 0 = .ok (.iconst 0, 1) := by decide +kernel
theorem dX4_longestAhead_1 : decode cX4_longestAhead 1 = .ok (.istore 4, 2) := by decide +kernel
theorem dX4_longestAhead_3 : decode cX4_longestAhead 3 = .ok (.iconst 0, 1) := by decide +kernel
theorem dX4_longestAhead_4 : decode cX4_longestAhead 4 = .ok (.istore 5, 2) := by decide +kernel
theorem dX4_longestAhead_6 : decode cX4_longestAhead 6 = .ok (.iload 5, 2) := by decide +kernel
theorem dX4_longestAhead_8 : decode cX4_longestAhead 8 = .ok (.iload_n 2, 1) := by decide +kernel
theorem dX4_longestAhead_9 : decode cX4_longestAhead 9 = .ok (.if_icmp .ge 67, 3) := by decide +kernel
theorem dX4_longestAhead_12 : decode cX4_longestAhead 12 = .ok (.aload_n 1, 1) := by decide +kernel
theorem dX4_longestAhead_13 : decode cX4_longestAhead 13 = .ok (.getfield 65, 3) := by decide +kernel
theorem dX4_longestAhead_16 : decode cX4_longestAhead 16 = .ok (.iload 5, 2) := by decide +kernel
theorem dX4_longestAhead_18 : decode cX4_longestAhead 18 = .ok (.aaload, 1) := by decide +kernel
theorem dX4_longestAhead_19 : decode cX4_longestAhead 19 = .ok (.astore 6, 2) := by decide +kernel
theorem dX4_longestAhead_21 : decode cX4_longestAhead 21 = .ok (.aload 6, 2) := by decide +kernel
theorem dX4_longestAhead_23 : decode cX4_longestAhead 23 = .ok (.getfield 158, 3) := by decide +kernel
theorem dX4_longestAhead_26 : decode cX4_longestAhead 26 = .ok (.iload_n 3, 1) := by decide +kernel
theorem dX4_longestAhead_27 : decode cX4_longestAhead 27 = .ok (.if_icmp .ne 43, 3) := by decide +kernel
theorem dX4_longestAhead_30 : decode cX4_longestAhead 30 = .ok (.aload 6, 2) := by decide +kernel
theorem dX4_longestAhead_32 : decode cX4_longestAhead 32 = .ok (.getfield 99, 3) := by decide +kernel
theorem dX4_longestAhead_35 : decode cX4_longestAhead 35 = .ok (.iconst 1, 1) := by decide +kernel
theorem dX4_longestAhead_36 : decode cX4_longestAhead 36 = .ok (.if_icmp .ne 34, 3) := by decide +kernel
theorem dX4_longestAhead_39 : decode cX4_longestAhead 39 = .ok (.aload 6, 2) := by decide +kernel
theorem dX4_longestAhead_41 : decode cX4_longestAhead 41 = .ok (.getfield 165, 3) := by decide +kernel
theorem dX4_longestAhead_44 : decode cX4_longestAhead 44 = .ok (.aload_n 1, 1) := by decide +kernel
theorem dX4_longestAhead_45 : decode cX4_longestAhead 45 = .ok (.getfield 65, 3) := by decide +kernel
theorem dX4_longestAhead_48 : decode cX4_longestAhead 48 = .ok (.iload_n 2, 1) := by decide +kernel
theorem dX4_longestAhead_49 : decode cX4_longestAhead 49 = .ok (.aaload, 1) := by decide +kernel
theorem dX4_longestAhead_50 : decode cX4_longestAhead 50 = .ok (.getfield 168, 3) := by decide +kernel
theorem dX4_longestAhead_53 : decode cX4_longestAhead 53 = .ok (.if_icmp .ne 17, 3) := by decide +kernel
theorem dX4_longestAhead_56 : decode cX4_longestAhead 56 = .ok (.iload 4, 2) := by decide +kernel
theorem dX4_longestAhead_58 : decode cX4_longestAhead 58 = .ok (.aload_n 0, 1) := by decide +kernel
theorem dX4_longestAhead_59 : decode cX4_longestAhead 59 = .ok (.getfield 42, 3) := by decide +kernel
theorem dX4_longestAhead_62 : decode cX4_longestAhead 62 = .ok (.iload 5, 2) := by decide +kernel
theorem dX4_longestAhead_64 : decode cX4_longestAhead 64 = .ok (.iaload, 1) := by decide +kernel
theorem dX4_longestAhead_65 : decode cX4_longestAhead 65 = .ok (.invokestatic 131, 3) := by decide +kernel
theorem dX4_longestAhead_68 : decode cX4_longestAhead 68 = .ok (.istore 4, 2) := by decide +kernel
theorem dX4_longestAhead_70 : decode cX4_longestAhead 70 = .ok (.iinc 5 1, 3) := by decide +kernel
theorem dX4_longestAhead_73 : decode cX4_longestAhead 73 = .ok (.goto (-67), 3) := by decide +kernel
theorem dX4_longestAhead_76 : decode cX4_longestAhead 76 = .ok (.iload 4, 2) := by decide +kernel
theorem dX4_longestAhead_78 : decode cX4_longestAhead 78 = .ok (.ireturn, 1) := by decide +kernel
theorem dX4_matching_0 : decode cX4_matching 0 = .ok (.iconst 0, 1) := by decide +kernel
theorem dX4_matching_1 : decode cX4_matching 1 = .ok (.istore_n 3, 1) := by decide +kernel
theorem dX4_matching_2 : decode cX4_matching 2 = .ok (.iload_n 3, 1) := by decide +kernel
theorem dX4_matching_3 : decode cX4_matching 3 = .ok (.bipush 60, 2) := by decide +kernel
theorem dX4_matching_5 : decode cX4_matching 5 = .ok (.if_icmp .ge 16, 3) := by decide +kernel
theorem dX4_matching_8 : decode cX4_matching 8 = .ok (.aload_n 0, 1) := by decide +kernel
theorem dX4_matching_9 : decode cX4_matching 9 = .ok (.getfield 52, 3) := by decide +kernel
theorem dX4_matching_12 : decode cX4_matching 12 = .ok (.iload_n 3, 1) := by decide +kernel
theorem dX4_matching_13 : decode cX4_matching 13 = .ok (.iconst 0, 1) := by decide +kernel
theorem dX4_matching_14 : decode cX4_matching 14 = .ok (.bastore, 1) := by decide +kernel
theorem dX4_matching_15 : decode cX4_matching 15 = .ok (.iinc 3 1, 3) := by decide +kernel
theorem dX4_matching_18 : decode cX4_matching 18 = .ok (.goto (-16), 3) := by decide +kernel
theorem dX4_matching_21 : decode cX4_matching 21 = .ok (.iconst 0, 1) := by decide +kernel
theorem dX4_matching_22 : decode cX4_matching 22 = .ok (.istore_n 3, 1) := by decide +kernel
theorem dX4_matching_23 : decode cX4_matching 23 = .ok (.iconst 0, 1) := by decide +kernel
theorem dX4_matching_24 : decode cX4_matching 24 = .ok (.istore 4, 2) := by decide +kernel
theorem dX4_matching_26 : decode cX4_matching 26 = .ok (.iload 4, 2) := by decide +kernel
theorem dX4_matching_28 : decode cX4_matching 28 = .ok (.aload_n 1, 1) := by decide +kernel
theorem dX4_matching_29 : decode cX4_matching 29 = .ok (.getfield 171, 3) := by decide +kernel
theorem dX4_matching_32 : decode cX4_matching 32 = .ok (.if_icmp .ge 59, 3) := by decide +kernel
theorem dX4_matching_35 : decode cX4_matching 35 = .ok (.aload_n 0, 1) := by decide +kernel
theorem dX4_matching_36 : decode cX4_matching 36 = .ok (.getfield 45, 3) := by decide +kernel
theorem dX4_matching_39 : decode cX4_matching 39 = .ok (.iload 4, 2) := by decide +kernel
theorem dX4_matching_41 : decode cX4_matching 41 = .ok (.iconst (-1), 1) := by decide +kernel
theorem dX4_matching_42 : decode cX4_matching 42 = .ok (.iastore, 1) := by decide +kernel
theorem dX4_matching_43 : decode cX4_matching 43 = .ok (.aload_n 0, 1) := by decide +kernel
theorem dX4_matching_44 : decode cX4_matching 44 = .ok (.getfield 48, 3) := by decide +kernel
theorem dX4_matching_47 : decode cX4_matching 47 = .ok (.iload 4, 2) := by decide +kernel
theorem dX4_matching_49 : decode cX4_matching 49 = .ok (.iconst 1, 1) := by decide +kernel
theorem dX4_matching_50 : decode cX4_matching 50 = .ok (.bastore, 1) := by decide +kernel
theorem dX4_matching_51 : decode cX4_matching 51 = .ok (.aload_n 0, 1) := by decide +kernel
theorem dX4_matching_52 : decode cX4_matching 52 = .ok (.getfield 48, 3) := by decide +kernel
theorem dX4_matching_55 : decode cX4_matching 55 = .ok (.iload 4, 2) := by decide +kernel
theorem dX4_matching_57 : decode cX4_matching 57 = .ok (.aload_n 0, 1) := by decide +kernel
theorem dX4_matching_58 : decode cX4_matching 58 = .ok (.aload_n 1, 1) := by decide +kernel
theorem dX4_matching_59 : decode cX4_matching 59 = .ok (.iload 4, 2) := by decide +kernel
theorem dX4_matching_61 : decode cX4_matching 61 = .ok (.invokevirtual 174, 3) := by decide +kernel
theorem dX4_matching_64 : decode cX4_matching 64 = .ok (.bastore, 1) := by decide +kernel
theorem dX4_matching_65 : decode cX4_matching 65 = .ok (.aload_n 0, 1) := by decide +kernel
theorem dX4_matching_66 : decode cX4_matching 66 = .ok (.getfield 48, 3) := by decide +kernel
theorem dX4_matching_69 : decode cX4_matching 69 = .ok (.iload 4, 2) := by decide +kernel
theorem dX4_matching_71 : decode cX4_matching 71 = .ok (.baload, 1) := by decide +kernel
theorem dX4_matching_72 : decode cX4_matching 72 = .ok (.ifCond .eq 13, 3) := by decide +kernel
theorem dX4_matching_75 : decode cX4_matching 75 = .ok (.iinc 3 1, 3) := by decide +kernel
theorem dX4_matching_78 : decode cX4_matching 78 = .ok (.aload_n 0, 1) := by decide +kernel
theorem dX4_matching_79 : decode cX4_matching 79 = .ok (.aload_n 1, 1) := by decide +kernel
theorem dX4_matching_80 : decode cX4_matching 80 = .ok (.iload 4, 2) := by decide +kernel
theorem dX4_matching_82 : decode cX4_matching 82 = .ok (.invokevirtual 178, 3) := by decide +kernel
theorem dX4_matching_85 : decode cX4_matching 85 = .ok (.iinc 4 1, 3) := by decide +kernel
theorem dX4_matching_88 : decode cX4_matching 88 = .ok (.goto (-62), 3) := by decide +kernel
theorem dX4_matching_91 : decode cX4_matching 91 = .ok (.iload_n 2, 1) := by decide +kernel
theorem dX4_matching_92 : decode cX4_matching 92 = .ok (.iconst (-1), 1) := by decide +kernel
theorem dX4_matching_93 : decode cX4_matching 93 = .ok (.if_icmp .ne 7, 3) := by decide +kernel
theorem dX4_matching_96 : decode cX4_matching 96 = .ok (.iload_n 3, 1) := by decide +kernel
theorem dX4_matching_97 : decode cX4_matching 97 = .ok (.goto 9, 3) := by decide +kernel
theorem dX4_matching_100 : decode cX4_matching 100 = .ok (.aload_n 0, 1) := by decide +kernel
theorem dX4_matching_101 : decode cX4_matching 101 = .ok (.getfield 45, 3) := by decide +kernel
theorem dX4_matching_104 : decode cX4_matching 104 = .ok (.iload_n 2, 1) := by decide +kernel
theorem dX4_matching_105 : decode cX4_matching 105 = .ok (.iaload, 1) := by decide +kernel
theorem dX4_matching_106 : decode cX4_matching 106 = .ok (.ireturn, 1) := by decide +kernel
theorem dX4_isRoomTo_0 : decode cX4_isRoomTo 0 = .ok (.iconst 0, 1) := by decide +kernel
theorem dX4_isRoomTo_1 : decode cX4_isRoomTo 1 = .ok (.istore_n 3, 1) := by decide +kernel
theorem dX4_isRoomTo_2 : decode cX4_isRoomTo 2 = .ok (.iload_n 3, 1) := by decide +kernel
theorem dX4_isRoomTo_3 : decode cX4_isRoomTo 3 = .ok (.iload_n 2, 1) := by decide +kernel
theorem dX4_isRoomTo_4 : decode cX4_isRoomTo 4 = .ok (.if_icmp .gt 36, 3) := by decide +kernel
theorem dX4_isRoomTo_7 : decode cX4_isRoomTo 7 = .ok (.aload_n 0, 1) := by decide +kernel
theorem dX4_isRoomTo_8 : decode cX4_isRoomTo 8 = .ok (.getfield 48, 3) := by decide +kernel
theorem dX4_isRoomTo_11 : decode cX4_isRoomTo 11 = .ok (.iload_n 3, 1) := by decide +kernel
theorem dX4_isRoomTo_12 : decode cX4_isRoomTo 12 = .ok (.baload, 1) := by decide +kernel
theorem dX4_isRoomTo_13 : decode cX4_isRoomTo 13 = .ok (.ifCond .eq 21, 3) := by decide +kernel
theorem dX4_isRoomTo_16 : decode cX4_isRoomTo 16 = .ok (.aload_n 0, 1) := by decide +kernel
theorem dX4_isRoomTo_17 : decode cX4_isRoomTo 17 = .ok (.aload_n 1, 1) := by decide +kernel
theorem dX4_isRoomTo_18 : decode cX4_isRoomTo 18 = .ok (.iload_n 3, 1) := by decide +kernel
theorem dX4_isRoomTo_19 : decode cX4_isRoomTo 19 = .ok (.iload_n 2, 1) := by decide +kernel
theorem dX4_isRoomTo_20 : decode cX4_isRoomTo 20 = .ok (.invokevirtual 182, 3) := by decide +kernel
theorem dX4_isRoomTo_23 : decode cX4_isRoomTo 23 = .ok (.aload_n 0, 1) := by decide +kernel
theorem dX4_isRoomTo_24 : decode cX4_isRoomTo 24 = .ok (.aload_n 1, 1) := by decide +kernel
theorem dX4_isRoomTo_25 : decode cX4_isRoomTo 25 = .ok (.iload_n 3, 1) := by decide +kernel
theorem dX4_isRoomTo_26 : decode cX4_isRoomTo 26 = .ok (.invokevirtual 185, 3) := by decide +kernel
theorem dX4_isRoomTo_29 : decode cX4_isRoomTo 29 = .ok (.if_icmp .le 5, 3) := by decide +kernel
theorem dX4_isRoomTo_32 : decode cX4_isRoomTo 32 = .ok (.iconst 0, 1) := by decide +kernel
theorem dX4_isRoomTo_33 : decode cX4_isRoomTo 33 = .ok (.ireturn, 1) := by decide +kernel
theorem dX4_isRoomTo_34 : decode cX4_isRoomTo 34 = .ok (.iinc 3 1, 3) := by decide +kernel
theorem dX4_isRoomTo_37 : decode cX4_isRoomTo 37 = .ok (.goto (-35), 3) := by decide +kernel
theorem dX4_isRoomTo_40 : decode cX4_isRoomTo 40 = .ok (.iconst 1, 1) := by decide +kernel
theorem dX4_isRoomTo_41 : decode cX4_isRoomTo 41 = .ok (.ireturn, 1) := by decide +kernel
theorem dX4_laterThings_0 : decode cX4_laterThings 0 = .ok (.aload_n 1, 1) := by decide +kernel
theorem dX4_laterThings_1 : decode cX4_laterThings 1 = .ok (.getfield 189, 3) := by decide +kernel
theorem dX4_laterThings_4 : decode cX4_laterThings 4 = .ok (.iload_n 2, 1) := by decide +kernel
theorem dX4_laterThings_5 : decode cX4_laterThings 5 = .ok (.aaload, 1) := by decide +kernel
theorem dX4_laterThings_6 : decode cX4_laterThings 6 = .ok (.astore 4, 2) := by decide +kernel
theorem dX4_laterThings_8 : decode cX4_laterThings 8 = .ok (.iconst 0, 1) := by decide +kernel
theorem dX4_laterThings_9 : decode cX4_laterThings 9 = .ok (.istore 5, 2) := by decide +kernel
theorem dX4_laterThings_11 : decode cX4_laterThings 11 = .ok (.iconst 0, 1) := by decide +kernel
theorem dX4_laterThings_12 : decode cX4_laterThings 12 = .ok (.istore 6, 2) := by decide +kernel
theorem dX4_laterThings_14 : decode cX4_laterThings 14 = .ok (.iload 6, 2) := by decide +kernel
theorem dX4_laterThings_16 : decode cX4_laterThings 16 = .ok (.iload_n 3, 1) := by decide +kernel
theorem dX4_laterThings_17 : decode cX4_laterThings 17 = .ok (.if_icmp .gt 53, 3) := by decide +kernel
theorem dX4_laterThings_20 : decode cX4_laterThings 20 = .ok (.aload_n 1, 1) := by decide +kernel
theorem dX4_laterThings_21 : decode cX4_laterThings 21 = .ok (.getfield 189, 3) := by decide +kernel
theorem dX4_laterThings_24 : decode cX4_laterThings 24 = .ok (.iload 6, 2) := by decide +kernel
theorem dX4_laterThings_26 : decode cX4_laterThings 26 = .ok (.aaload, 1) := by decide +kernel
theorem dX4_laterThings_27 : decode cX4_laterThings 27 = .ok (.astore 7, 2) := by decide +kernel
theorem dX4_laterThings_29 : decode cX4_laterThings 29 = .ok (.aload_n 0, 1) := by decide +kernel
theorem dX4_laterThings_30 : decode cX4_laterThings 30 = .ok (.getfield 48, 3) := by decide +kernel
theorem dX4_laterThings_33 : decode cX4_laterThings 33 = .ok (.iload 6, 2) := by decide +kernel
theorem dX4_laterThings_35 : decode cX4_laterThings 35 = .ok (.baload, 1) := by decide +kernel
theorem dX4_laterThings_36 : decode cX4_laterThings 36 = .ok (.ifCond .eq 28, 3) := by decide +kernel
theorem dX4_laterThings_39 : decode cX4_laterThings 39 = .ok (.aload 7, 2) := by decide +kernel
theorem dX4_laterThings_41 : decode cX4_laterThings 41 = .ok (.iconst 0, 1) := by decide +kernel
theorem dX4_laterThings_42 : decode cX4_laterThings 42 = .ok (.iaload, 1) := by decide +kernel
theorem dX4_laterThings_43 : decode cX4_laterThings 43 = .ok (.aload 4, 2) := by decide +kernel
theorem dX4_laterThings_45 : decode cX4_laterThings 45 = .ok (.iconst 0, 1) := by decide +kernel
theorem dX4_laterThings_46 : decode cX4_laterThings 46 = .ok (.iaload, 1) := by decide +kernel
theorem dX4_laterThings_47 : decode cX4_laterThings 47 = .ok (.if_icmp .ne 17, 3) := by decide +kernel
theorem dX4_laterThings_50 : decode cX4_laterThings 50 = .ok (.aload 7, 2) := by decide +kernel
theorem dX4_laterThings_52 : decode cX4_laterThings 52 = .ok (.iconst 1, 1) := by decide +kernel
theorem dX4_laterThings_53 : decode cX4_laterThings 53 = .ok (.iaload, 1) := by decide +kernel
theorem dX4_laterThings_54 : decode cX4_laterThings 54 = .ok (.aload 4, 2) := by decide +kernel
theorem dX4_laterThings_56 : decode cX4_laterThings 56 = .ok (.iconst 1, 1) := by decide +kernel
theorem dX4_laterThings_57 : decode cX4_laterThings 57 = .ok (.iaload, 1) := by decide +kernel
theorem dX4_laterThings_58 : decode cX4_laterThings 58 = .ok (.if_icmp .lt 6, 3) := by decide +kernel
theorem dX4_laterThings_61 : decode cX4_laterThings 61 = .ok (.iinc 5 1, 3) := by decide +kernel
theorem dX4_laterThings_64 : decode cX4_laterThings 64 = .ok (.iinc 6 1, 3) := by decide +kernel
theorem dX4_laterThings_67 : decode cX4_laterThings 67 = .ok (.goto (-53), 3) := by decide +kernel
theorem dX4_laterThings_70 : decode cX4_laterThings 70 = .ok (.iload 5, 2) := by decide +kernel
theorem dX4_laterThings_72 : decode cX4_laterThings 72 = .ok (.ireturn, 1) := by decide +kernel
theorem dX4_candidates_0 : decode cX4_candidates 0 = .ok (.iconst 0, 1) := by decide +kernel
theorem dX4_candidates_1 : decode cX4_candidates 1 = .ok (.istore_n 3, 1) := by decide +kernel
theorem dX4_candidates_2 : decode cX4_candidates 2 = .ok (.iconst 0, 1) := by decide +kernel
theorem dX4_candidates_3 : decode cX4_candidates 3 = .ok (.istore 4, 2) := by decide +kernel
theorem dX4_candidates_5 : decode cX4_candidates 5 = .ok (.iload 4, 2) := by decide +kernel
theorem dX4_candidates_7 : decode cX4_candidates 7 = .ok (.aload_n 1, 1) := by decide +kernel
theorem dX4_candidates_8 : decode cX4_candidates 8 = .ok (.getfield 96, 3) := by decide +kernel
theorem dX4_candidates_11 : decode cX4_candidates 11 = .ok (.if_icmp .ge 22, 3) := by decide +kernel
theorem dX4_candidates_14 : decode cX4_candidates 14 = .ok (.aload_n 1, 1) := by decide +kernel
theorem dX4_candidates_15 : decode cX4_candidates 15 = .ok (.iload_n 2, 1) := by decide +kernel
theorem dX4_candidates_16 : decode cX4_candidates 16 = .ok (.iload 4, 2) := by decide +kernel
theorem dX4_candidates_18 : decode cX4_candidates 18 = .ok (.invokestatic 192, 3) := by decide +kernel
theorem dX4_candidates_21 : decode cX4_candidates 21 = .ok (.ifCond .eq 6, 3) := by decide +kernel
theorem dX4_candidates_24 : decode cX4_candidates 24 = .ok (.iinc 3 1, 3) := by decide +kernel
theorem dX4_candidates_27 : decode cX4_candidates 27 = .ok (.iinc 4 1, 3) := by decide +kernel
theorem dX4_candidates_30 : decode cX4_candidates 30 = .ok (.goto (-25), 3) := by decide +kernel
theorem dX4_candidates_33 : decode cX4_candidates 33 = .ok (.iload_n 3, 1) := by decide +kernel
theorem dX4_candidates_34 : decode cX4_candidates 34 = .ok (.ireturn, 1) := by decide +kernel
theorem dX4_mayBe_0 : decode cX4_mayBe 0 = .ok (.aload_n 0, 1) := by decide +kernel
theorem dX4_mayBe_1 : decode cX4_mayBe 1 = .ok (.getfield 65, 3) := by decide +kernel
theorem dX4_mayBe_4 : decode cX4_mayBe 4 = .ok (.iload_n 2, 1) := by decide +kernel
theorem dX4_mayBe_5 : decode cX4_mayBe 5 = .ok (.aaload, 1) := by decide +kernel
theorem dX4_mayBe_6 : decode cX4_mayBe 6 = .ok (.astore_n 3, 1) := by decide +kernel
theorem dX4_mayBe_7 : decode cX4_mayBe 7 = .ok (.aload_n 3, 1) := by decide +kernel
theorem dX4_mayBe_8 : decode cX4_mayBe 8 = .ok (.getfield 99, 3) := by decide +kernel
theorem dX4_mayBe_11 : decode cX4_mayBe 11 = .ok (.ifCond .ne 37, 3) := by decide +kernel
theorem dX4_mayBe_14 : decode cX4_mayBe 14 = .ok (.aload_n 3, 1) := by decide +kernel
theorem dX4_mayBe_15 : decode cX4_mayBe 15 = .ok (.getfield 81, 3) := by decide +kernel
theorem dX4_mayBe_18 : decode cX4_mayBe 18 = .ok (.aload_n 0, 1) := by decide +kernel
theorem dX4_mayBe_19 : decode cX4_mayBe 19 = .ok (.getfield 189, 3) := by decide +kernel
theorem dX4_mayBe_22 : decode cX4_mayBe 22 = .ok (.iload_n 1, 1) := by decide +kernel
theorem dX4_mayBe_23 : decode cX4_mayBe 23 = .ok (.aaload, 1) := by decide +kernel
theorem dX4_mayBe_24 : decode cX4_mayBe 24 = .ok (.iconst 0, 1) := by decide +kernel
theorem dX4_mayBe_25 : decode cX4_mayBe 25 = .ok (.iaload, 1) := by decide +kernel
theorem dX4_mayBe_26 : decode cX4_mayBe 26 = .ok (.if_icmp .ne 22, 3) := by decide +kernel
theorem dX4_mayBe_29 : decode cX4_mayBe 29 = .ok (.aload_n 3, 1) := by decide +kernel
theorem dX4_mayBe_30 : decode cX4_mayBe 30 = .ok (.getfield 168, 3) := by decide +kernel
theorem dX4_mayBe_33 : decode cX4_mayBe 33 = .ok (.aload_n 0, 1) := by decide +kernel
theorem dX4_mayBe_34 : decode cX4_mayBe 34 = .ok (.getfield 189, 3) := by decide +kernel
theorem dX4_mayBe_37 : decode cX4_mayBe 37 = .ok (.iload_n 1, 1) := by decide +kernel
theorem dX4_mayBe_38 : decode cX4_mayBe 38 = .ok (.aaload, 1) := by decide +kernel
theorem dX4_mayBe_39 : decode cX4_mayBe 39 = .ok (.iconst 1, 1) := by decide +kernel
theorem dX4_mayBe_40 : decode cX4_mayBe 40 = .ok (.iaload, 1) := by decide +kernel
theorem dX4_mayBe_41 : decode cX4_mayBe 41 = .ok (.if_icmp .lt 7, 3) := by decide +kernel
theorem dX4_mayBe_44 : decode cX4_mayBe 44 = .ok (.iconst 1, 1) := by decide +kernel
theorem dX4_mayBe_45 : decode cX4_mayBe 45 = .ok (.goto 4, 3) := by decide +kernel
theorem dX4_mayBe_48 : decode cX4_mayBe 48 = .ok (.iconst 0, 1) := by decide +kernel
theorem dX4_mayBe_49 : decode cX4_mayBe 49 = .ok (.ireturn, 1) := by decide +kernel
theorem dX4_takeLeast_0 : decode cX4_takeLeast 0 = .ok (.iconst 0, 1) := by decide +kernel
theorem dX4_takeLeast_1 : decode cX4_takeLeast 1 = .ok (.istore_n 3, 1) := by decide +kernel
theorem dX4_takeLeast_2 : decode cX4_takeLeast 2 = .ok (.iload_n 3, 1) := by decide +kernel
theorem dX4_takeLeast_3 : decode cX4_takeLeast 3 = .ok (.aload_n 1, 1) := by decide +kernel
theorem dX4_takeLeast_4 : decode cX4_takeLeast 4 = .ok (.getfield 96, 3) := by decide +kernel
theorem dX4_takeLeast_7 : decode cX4_takeLeast 7 = .ok (.if_icmp .ge 42, 3) := by decide +kernel
theorem dX4_takeLeast_10 : decode cX4_takeLeast 10 = .ok (.aload_n 0, 1) := by decide +kernel
theorem dX4_takeLeast_11 : decode cX4_takeLeast 11 = .ok (.getfield 52, 3) := by decide +kernel
theorem dX4_takeLeast_14 : decode cX4_takeLeast 14 = .ok (.iload_n 3, 1) := by decide +kernel
theorem dX4_takeLeast_15 : decode cX4_takeLeast 15 = .ok (.baload, 1) := by decide +kernel
theorem dX4_takeLeast_16 : decode cX4_takeLeast 16 = .ok (.ifCond .ne 27, 3) := by decide +kernel
theorem dX4_takeLeast_19 : decode cX4_takeLeast 19 = .ok (.aload_n 1, 1) := by decide +kernel
theorem dX4_takeLeast_20 : decode cX4_takeLeast 20 = .ok (.iload_n 2, 1) := by decide +kernel
theorem dX4_takeLeast_21 : decode cX4_takeLeast 21 = .ok (.iload_n 3, 1) := by decide +kernel
theorem dX4_takeLeast_22 : decode cX4_takeLeast 22 = .ok (.invokestatic 192, 3) := by decide +kernel
theorem dX4_takeLeast_25 : decode cX4_takeLeast 25 = .ok (.ifCond .eq 18, 3) := by decide +kernel
theorem dX4_takeLeast_28 : decode cX4_takeLeast 28 = .ok (.aload_n 0, 1) := by decide +kernel
theorem dX4_takeLeast_29 : decode cX4_takeLeast 29 = .ok (.getfield 52, 3) := by decide +kernel
theorem dX4_takeLeast_32 : decode cX4_takeLeast 32 = .ok (.iload_n 3, 1) := by decide +kernel
theorem dX4_takeLeast_33 : decode cX4_takeLeast 33 = .ok (.iconst 1, 1) := by decide +kernel
theorem dX4_takeLeast_34 : decode cX4_takeLeast 34 = .ok (.bastore, 1) := by decide +kernel
theorem dX4_takeLeast_35 : decode cX4_takeLeast 35 = .ok (.aload_n 0, 1) := by decide +kernel
theorem dX4_takeLeast_36 : decode cX4_takeLeast 36 = .ok (.getfield 45, 3) := by decide +kernel
theorem dX4_takeLeast_39 : decode cX4_takeLeast 39 = .ok (.iload_n 2, 1) := by decide +kernel
theorem dX4_takeLeast_40 : decode cX4_takeLeast 40 = .ok (.iload_n 3, 1) := by decide +kernel
theorem dX4_takeLeast_41 : decode cX4_takeLeast 41 = .ok (.iastore, 1) := by decide +kernel
theorem dX4_takeLeast_42 : decode cX4_takeLeast 42 = .ok (.return_, 1) := by decide +kernel
theorem dX4_takeLeast_43 : decode cX4_takeLeast 43 = .ok (.iinc 3 1, 3) := by decide +kernel
theorem dX4_takeLeast_46 : decode cX4_takeLeast 46 = .ok (.goto (-44), 3) := by decide +kernel
theorem dX4_takeLeast_49 : decode cX4_takeLeast 49 = .ok (.return_, 1) := by decide +kernel
theorem dX8_init_0 : decode cX8_init 0 = .ok (.aload_n 0, 1) := by decide +kernel
theorem dX8_init_1 : decode cX8_init 1 = .ok (.invokespecial 3, 3) := by decide +kernel
theorem dX8_init_4 : decode cX8_init 4 = .ok (.aload_n 0, 1) := by decide +kernel
theorem dX8_init_5 : decode cX8_init 5 = .ok (.new 9, 3) := by decide +kernel
theorem dX8_init_8 : decode cX8_init 8 = .ok (.dup, 1) := by decide +kernel
theorem dX8_init_9 : decode cX8_init 9 = .ok (.invokespecial 11, 3) := by decide +kernel
theorem dX8_init_12 : decode cX8_init 12 = .ok (.putfield 12, 3) := by decide +kernel
theorem dX8_init_15 : decode cX8_init 15 = .ok (.aload_n 0, 1) := by decide +kernel
theorem dX8_init_16 : decode cX8_init 16 = .ok (.new 9, 3) := by decide +kernel
theorem dX8_init_19 : decode cX8_init 19 = .ok (.dup, 1) := by decide +kernel
theorem dX8_init_20 : decode cX8_init 20 = .ok (.invokespecial 11, 3) := by decide +kernel
theorem dX8_init_23 : decode cX8_init 23 = .ok (.putfield 18, 3) := by decide +kernel
theorem dX8_init_26 : decode cX8_init 26 = .ok (.aload_n 0, 1) := by decide +kernel
theorem dX8_init_27 : decode cX8_init 27 = .ok (.new 21, 3) := by decide +kernel
theorem dX8_init_30 : decode cX8_init 30 = .ok (.dup, 1) := by decide +kernel
theorem dX8_init_31 : decode cX8_init 31 = .ok (.invokespecial 23, 3) := by decide +kernel
theorem dX8_init_34 : decode cX8_init 34 = .ok (.putfield 24, 3) := by decide +kernel
theorem dX8_init_37 : decode cX8_init 37 = .ok (.aload_n 0, 1) := by decide +kernel
theorem dX8_init_38 : decode cX8_init 38 = .ok (.bipush 12, 2) := by decide +kernel
theorem dX8_init_40 : decode cX8_init 40 = .ok (.anewarray 28, 3) := by decide +kernel
theorem dX8_init_43 : decode cX8_init 43 = .ok (.putfield 30, 3) := by decide +kernel
theorem dX8_init_46 : decode cX8_init 46 = .ok (.aload_n 0, 1) := by decide +kernel
theorem dX8_init_47 : decode cX8_init 47 = .ok (.bipush 16, 2) := by decide +kernel
theorem dX8_init_49 : decode cX8_init 49 = .ok (.anewarray 34, 3) := by decide +kernel
theorem dX8_init_52 : decode cX8_init 52 = .ok (.putfield 36, 3) := by decide +kernel
theorem dX8_init_55 : decode cX8_init 55 = .ok (.aload_n 0, 1) := by decide +kernel
theorem dX8_init_56 : decode cX8_init 56 = .ok (.bipush 60, 2) := by decide +kernel
theorem dX8_init_58 : decode cX8_init 58 = .ok (.anewarray 40, 3) := by decide +kernel
theorem dX8_init_61 : decode cX8_init 61 = .ok (.putfield 42, 3) := by decide +kernel
theorem dX8_init_64 : decode cX8_init 64 = .ok (.aload_n 0, 1) := by decide +kernel
theorem dX8_init_65 : decode cX8_init 65 = .ok (.sipush 150, 3) := by decide +kernel
theorem dX8_init_68 : decode cX8_init 68 = .ok (.anewarray 46, 3) := by decide +kernel
theorem dX8_init_71 : decode cX8_init 71 = .ok (.putfield 48, 3) := by decide +kernel
theorem dX8_init_74 : decode cX8_init 74 = .ok (.aload_n 0, 1) := by decide +kernel
theorem dX8_init_75 : decode cX8_init 75 = .ok (.bipush 10, 2) := by decide +kernel
theorem dX8_init_77 : decode cX8_init 77 = .ok (.iconst 2, 1) := by decide +kernel
theorem dX8_init_78 : decode cX8_init 78 = .ok (.multianewarray 52 2, 4) := by decide +kernel
theorem dX8_init_82 : decode cX8_init 82 = .ok (.putfield 54, 3) := by decide +kernel
theorem dX8_init_85 : decode cX8_init 85 = .ok (.aload_n 0, 1) := by decide +kernel
theorem dX8_init_86 : decode cX8_init 86 = .ok (.bipush 6, 2) := by decide +kernel
theorem dX8_init_88 : decode cX8_init 88 = .ok (.sipush 301, 3) := by decide +kernel
theorem dX8_init_91 : decode cX8_init 91 = .ok (.multianewarray 52 2, 4) := by decide +kernel
theorem dX8_init_95 : decode cX8_init 95 = .ok (.putfield 57, 3) := by decide +kernel
theorem dX8_init_98 : decode cX8_init 98 = .ok (.aload_n 0, 1) := by decide +kernel
theorem dX8_init_99 : decode cX8_init 99 = .ok (.iconst 4, 1) := by decide +kernel
theorem dX8_init_100 : decode cX8_init 100 = .ok (.iconst 5, 1) := by decide +kernel
theorem dX8_init_101 : decode cX8_init 101 = .ok (.multianewarray 52 2, 4) := by decide +kernel
theorem dX8_init_105 : decode cX8_init 105 = .ok (.putfield 60, 3) := by decide +kernel
theorem dX8_init_108 : decode cX8_init 108 = .ok (.aload_n 0, 1) := by decide +kernel
theorem dX8_init_109 : decode cX8_init 109 = .ok (.bipush 12, 2) := by decide +kernel
theorem dX8_init_111 : decode cX8_init 111 = .ok (.iconst 2, 1) := by decide +kernel
theorem dX8_init_112 : decode cX8_init 112 = .ok (.multianewarray 52 2, 4) := by decide +kernel
theorem dX8_init_116 : decode cX8_init 116 = .ok (.putfield 63, 3) := by decide +kernel
theorem dX8_init_119 : decode cX8_init 119 = .ok (.iconst 0, 1) := by decide +kernel
theorem dX8_init_120 : decode cX8_init 120 = .ok (.istore_n 1, 1) := by decide +kernel
theorem dX8_init_121 : decode cX8_init 121 = .ok (.iload_n 1, 1) := by decide +kernel
theorem dX8_init_122 : decode cX8_init 122 = .ok (.bipush 12, 2) := by decide +kernel
theorem dX8_init_124 : decode cX8_init 124 = .ok (.if_icmp .ge 22, 3) := by decide +kernel
theorem dX8_init_127 : decode cX8_init 127 = .ok (.aload_n 0, 1) := by decide +kernel
theorem dX8_init_128 : decode cX8_init 128 = .ok (.getfield 30, 3) := by decide +kernel
theorem dX8_init_131 : decode cX8_init 131 = .ok (.iload_n 1, 1) := by decide +kernel
theorem dX8_init_132 : decode cX8_init 132 = .ok (.new 28, 3) := by decide +kernel
theorem dX8_init_135 : decode cX8_init 135 = .ok (.dup, 1) := by decide +kernel
theorem dX8_init_136 : decode cX8_init 136 = .ok (.invokespecial 66, 3) := by decide +kernel
theorem dX8_init_139 : decode cX8_init 139 = .ok (.aastore, 1) := by decide +kernel
theorem dX8_init_140 : decode cX8_init 140 = .ok (.iinc 1 1, 3) := by decide +kernel
theorem dX8_init_143 : decode cX8_init 143 = .ok (.goto (-22), 3) := by decide +kernel
theorem dX8_init_146 : decode cX8_init 146 = .ok (.iconst 0, 1) := by decide +kernel
theorem dX8_init_147 : decode cX8_init 147 = .ok (.istore_n 1, 1) := by decide +kernel
theorem dX8_init_148 : decode cX8_init 148 = .ok (.iload_n 1, 1) := by decide +kernel
theorem dX8_init_149 : decode cX8_init 149 = .ok (.bipush 16, 2) := by decide +kernel
theorem dX8_init_151 : decode cX8_init 151 = .ok (.if_icmp .ge 22, 3) := by decide +kernel
theorem dX8_init_154 : decode cX8_init 154 = .ok (.aload_n 0, 1) := by decide +kernel
theorem dX8_init_155 : decode cX8_init 155 = .ok (.getfield 36, 3) := by decide +kernel
theorem dX8_init_158 : decode cX8_init 158 = .ok (.iload_n 1, 1) := by decide +kernel
theorem dX8_init_159 : decode cX8_init 159 = .ok (.new 34, 3) := by decide +kernel
theorem dX8_init_162 : decode cX8_init 162 = .ok (.dup, 1) := by decide +kernel
theorem dX8_init_163 : decode cX8_init 163 = .ok (.invokespecial 67, 3) := by decide +kernel
theorem dX8_init_166 : decode cX8_init 166 = .ok (.aastore, 1) := by decide +kernel
theorem dX8_init_167 : decode cX8_init 167 = .ok (.iinc 1 1, 3) := by decide +kernel
theorem dX8_init_170 : decode cX8_init 170 = .ok (.goto (-22), 3) := by decide +kernel
theorem dX8_init_173 : decode cX8_init 173 = .ok (.iconst 0, 1) := by decide +kernel
theorem dX8_init_174 : decode cX8_init 174 = .ok (.istore_n 1, 1) := by decide +kernel
theorem dX8_init_175 : decode cX8_init 175 = .ok (.iload_n 1, 1) := by decide +kernel
theorem dX8_init_176 : decode cX8_init 176 = .ok (.bipush 60, 2) := by decide +kernel
theorem dX8_init_178 : decode cX8_init 178 = .ok (.if_icmp .ge 22, 3) := by decide +kernel
theorem dX8_init_181 : decode cX8_init 181 = .ok (.aload_n 0, 1) := by decide +kernel
theorem dX8_init_182 : decode cX8_init 182 = .ok (.getfield 42, 3) := by decide +kernel
theorem dX8_init_185 : decode cX8_init 185 = .ok (.iload_n 1, 1) := by decide +kernel
theorem dX8_init_186 : decode cX8_init 186 = .ok (.new 40, 3) := by decide +kernel
theorem dX8_init_189 : decode cX8_init 189 = .ok (.dup, 1) := by decide +kernel
theorem dX8_init_190 : decode cX8_init 190 = .ok (.invokespecial 68, 3) := by decide +kernel
theorem dX8_init_193 : decode cX8_init 193 = .ok (.aastore, 1) := by decide +kernel
theorem dX8_init_194 : decode cX8_init 194 = .ok (.iinc 1 1, 3) := by decide +kernel
theorem dX8_init_197 : decode cX8_init 197 = .ok (.goto (-22), 3) := by decide +kernel
theorem dX8_init_200 : decode cX8_init 200 = .ok (.iconst 0, 1) := by decide +kernel
theorem dX8_init_201 : decode cX8_init 201 = .ok (.istore_n 1, 1) := by decide +kernel
theorem dX8_init_202 : decode cX8_init 202 = .ok (.iload_n 1, 1) := by decide +kernel
theorem dX8_init_203 : decode cX8_init 203 = .ok (.sipush 150, 3) := by decide +kernel
theorem dX8_init_206 : decode cX8_init 206 = .ok (.if_icmp .ge 22, 3) := by decide +kernel
theorem dX8_init_209 : decode cX8_init 209 = .ok (.aload_n 0, 1) := by decide +kernel
theorem dX8_init_210 : decode cX8_init 210 = .ok (.getfield 48, 3) := by decide +kernel
theorem dX8_init_213 : decode cX8_init 213 = .ok (.iload_n 1, 1) := by decide +kernel
theorem dX8_init_214 : decode cX8_init 214 = .ok (.new 46, 3) := by decide +kernel
theorem dX8_init_217 : decode cX8_init 217 = .ok (.dup, 1) := by decide +kernel
theorem dX8_init_218 : decode cX8_init 218 = .ok (.invokespecial 69, 3) := by decide +kernel
theorem dX8_init_221 : decode cX8_init 221 = .ok (.aastore, 1) := by decide +kernel
theorem dX8_init_222 : decode cX8_init 222 = .ok (.iinc 1 1, 3) := by decide +kernel
theorem dX8_init_225 : decode cX8_init 225 = .ok (.goto (-23), 3) := by decide +kernel
theorem dX8_init_228 : decode cX8_init 228 = .ok (.return_, 1) := by decide +kernel
theorem dX8_copyFrom_0 : decode cX8_copyFrom 0 = .ok (.aload_n 0, 1) := by decide +kernel
theorem dX8_copyFrom_1 : decode cX8_copyFrom 1 = .ok (.getfield 12, 3) := by decide +kernel
theorem dX8_copyFrom_4 : decode cX8_copyFrom 4 = .ok (.aload_n 1, 1) := by decide +kernel
theorem dX8_copyFrom_5 : decode cX8_copyFrom 5 = .ok (.getfield 12, 3) := by decide +kernel
theorem dX8_copyFrom_8 : decode cX8_copyFrom 8 = .ok (.invokevirtual 70, 3) := by decide +kernel
theorem dX8_copyFrom_11 : decode cX8_copyFrom 11 = .ok (.aload_n 0, 1) := by decide +kernel
theorem dX8_copyFrom_12 : decode cX8_copyFrom 12 = .ok (.getfield 18, 3) := by decide +kernel
theorem dX8_copyFrom_15 : decode cX8_copyFrom 15 = .ok (.aload_n 1, 1) := by decide +kernel
theorem dX8_copyFrom_16 : decode cX8_copyFrom 16 = .ok (.getfield 18, 3) := by decide +kernel
theorem dX8_copyFrom_19 : decode cX8_copyFrom 19 = .ok (.invokevirtual 70, 3) := by decide +kernel
theorem dX8_copyFrom_22 : decode cX8_copyFrom 22 = .ok (.aload_n 0, 1) := by decide +kernel
theorem dX8_copyFrom_23 : decode cX8_copyFrom 23 = .ok (.aload_n 1, 1) := by decide +kernel
theorem dX8_copyFrom_24 : decode cX8_copyFrom 24 = .ok (.getfield 74, 3) := by decide +kernel
theorem dX8_copyFrom_27 : decode cX8_copyFrom 27 = .ok (.putfield 74, 3) := by decide +kernel
theorem dX8_copyFrom_30 : decode cX8_copyFrom 30 = .ok (.aload_n 0, 1) := by decide +kernel
theorem dX8_copyFrom_31 : decode cX8_copyFrom 31 = .ok (.getfield 24, 3) := by decide +kernel
theorem dX8_copyFrom_34 : decode cX8_copyFrom 34 = .ok (.aload_n 1, 1) := by decide +kernel
theorem dX8_copyFrom_35 : decode cX8_copyFrom 35 = .ok (.getfield 24, 3) := by decide +kernel
theorem dX8_copyFrom_38 : decode cX8_copyFrom 38 = .ok (.invokevirtual 78, 3) := by decide +kernel
theorem dX8_copyFrom_41 : decode cX8_copyFrom 41 = .ok (.aload_n 0, 1) := by decide +kernel
theorem dX8_copyFrom_42 : decode cX8_copyFrom 42 = .ok (.aload_n 1, 1) := by decide +kernel
theorem dX8_copyFrom_43 : decode cX8_copyFrom 43 = .ok (.getfield 81, 3) := by decide +kernel
theorem dX8_copyFrom_46 : decode cX8_copyFrom 46 = .ok (.putfield 81, 3) := by decide +kernel
theorem dX8_copyFrom_49 : decode cX8_copyFrom 49 = .ok (.aload_n 0, 1) := by decide +kernel
theorem dX8_copyFrom_50 : decode cX8_copyFrom 50 = .ok (.aload_n 1, 1) := by decide +kernel
theorem dX8_copyFrom_51 : decode cX8_copyFrom 51 = .ok (.invokevirtual 85, 3) := by decide +kernel
theorem dX8_copyFrom_54 : decode cX8_copyFrom 54 = .ok (.aload_n 0, 1) := by decide +kernel
theorem dX8_copyFrom_55 : decode cX8_copyFrom 55 = .ok (.aload_n 1, 1) := by decide +kernel
theorem dX8_copyFrom_56 : decode cX8_copyFrom 56 = .ok (.invokevirtual 89, 3) := by decide +kernel
theorem dX8_copyFrom_59 : decode cX8_copyFrom 59 = .ok (.aload_n 1, 1) := by decide +kernel
theorem dX8_copyFrom_60 : decode cX8_copyFrom 60 = .ok (.getfield 57, 3) := by decide +kernel
theorem dX8_copyFrom_63 : decode cX8_copyFrom 63 = .ok (.aload_n 0, 1) := by decide +kernel
theorem dX8_copyFrom_64 : decode cX8_copyFrom 64 = .ok (.getfield 57, 3) := by decide +kernel
theorem dX8_copyFrom_67 : decode cX8_copyFrom 67 = .ok (.invokestatic 92, 3) := by decide +kernel
theorem dX8_copyFrom_70 : decode cX8_copyFrom 70 = .ok (.aload_n 1, 1) := by decide +kernel
theorem dX8_copyFrom_71 : decode cX8_copyFrom 71 = .ok (.getfield 60, 3) := by decide +kernel
theorem dX8_copyFrom_74 : decode cX8_copyFrom 74 = .ok (.aload_n 0, 1) := by decide +kernel
theorem dX8_copyFrom_75 : decode cX8_copyFrom 75 = .ok (.getfield 60, 3) := by decide +kernel
theorem dX8_copyFrom_78 : decode cX8_copyFrom 78 = .ok (.invokestatic 92, 3) := by decide +kernel
theorem dX8_copyFrom_81 : decode cX8_copyFrom 81 = .ok (.aload_n 0, 1) := by decide +kernel
theorem dX8_copyFrom_82 : decode cX8_copyFrom 82 = .ok (.aload_n 1, 1) := by decide +kernel
theorem dX8_copyFrom_83 : decode cX8_copyFrom 83 = .ok (.getfield 96, 3) := by decide +kernel
theorem dX8_copyFrom_86 : decode cX8_copyFrom 86 = .ok (.putfield 96, 3) := by decide +kernel
theorem dX8_copyFrom_89 : decode cX8_copyFrom 89 = .ok (.return_, 1) := by decide +kernel
theorem dX8_copyThings_0 : decode cX8_copyThings 0 = .ok (.aload_n 0, 1) := by decide +kernel
theorem dX8_copyThings_1 : decode cX8_copyThings 1 = .ok (.aload_n 1, 1) := by decide +kernel
theorem dX8_copyThings_2 : decode cX8_copyThings 2 = .ok (.getfield 99, 3) := by decide +kernel
theorem dX8_copyThings_5 : decode cX8_copyThings 5 = .ok (.putfield 99, 3) := by decide +kernel
theorem dX8_copyThings_8 : decode cX8_copyThings 8 = .ok (.iconst 0, 1) := by decide +kernel
theorem dX8_copyThings_9 : decode cX8_copyThings 9 = .ok (.istore_n 2, 1) := by decide +kernel
theorem dX8_copyThings_10 : decode cX8_copyThings 10 = .ok (.iload_n 2, 1) := by decide +kernel
theorem dX8_copyThings_11 : decode cX8_copyThings 11 = .ok (.aload_n 0, 1) := by decide +kernel
theorem dX8_copyThings_12 : decode cX8_copyThings 12 = .ok (.getfield 99, 3) := by decide +kernel
theorem dX8_copyThings_15 : decode cX8_copyThings 15 = .ok (.if_icmp .ge 24, 3) := by decide +kernel
theorem dX8_copyThings_18 : decode cX8_copyThings 18 = .ok (.aload_n 0, 1) := by decide +kernel
theorem dX8_copyThings_19 : decode cX8_copyThings 19 = .ok (.getfield 30, 3) := by decide +kernel
theorem dX8_copyThings_22 : decode cX8_copyThings 22 = .ok (.iload_n 2, 1) := by decide +kernel
theorem dX8_copyThings_23 : decode cX8_copyThings 23 = .ok (.aaload, 1) := by decide +kernel
theorem dX8_copyThings_24 : decode cX8_copyThings 24 = .ok (.aload_n 1, 1) := by decide +kernel
theorem dX8_copyThings_25 : decode cX8_copyThings 25 = .ok (.getfield 30, 3) := by decide +kernel
theorem dX8_copyThings_28 : decode cX8_copyThings 28 = .ok (.iload_n 2, 1) := by decide +kernel
theorem dX8_copyThings_29 : decode cX8_copyThings 29 = .ok (.aaload, 1) := by decide +kernel
theorem dX8_copyThings_30 : decode cX8_copyThings 30 = .ok (.invokevirtual 102, 3) := by decide +kernel
theorem dX8_copyThings_33 : decode cX8_copyThings 33 = .ok (.iinc 2 1, 3) := by decide +kernel
theorem dX8_copyThings_36 : decode cX8_copyThings 36 = .ok (.goto (-26), 3) := by decide +kernel
theorem dX8_copyThings_39 : decode cX8_copyThings 39 = .ok (.aload_n 0, 1) := by decide +kernel
theorem dX8_copyThings_40 : decode cX8_copyThings 40 = .ok (.aload_n 1, 1) := by decide +kernel
theorem dX8_copyThings_41 : decode cX8_copyThings 41 = .ok (.getfield 105, 3) := by decide +kernel
theorem dX8_copyThings_44 : decode cX8_copyThings 44 = .ok (.putfield 105, 3) := by decide +kernel
theorem dX8_copyThings_47 : decode cX8_copyThings 47 = .ok (.iconst 0, 1) := by decide +kernel
theorem dX8_copyThings_48 : decode cX8_copyThings 48 = .ok (.istore_n 2, 1) := by decide +kernel
theorem dX8_copyThings_49 : decode cX8_copyThings 49 = .ok (.iload_n 2, 1) := by decide +kernel
theorem dX8_copyThings_50 : decode cX8_copyThings 50 = .ok (.aload_n 0, 1) := by decide +kernel
theorem dX8_copyThings_51 : decode cX8_copyThings 51 = .ok (.getfield 105, 3) := by decide +kernel
theorem dX8_copyThings_54 : decode cX8_copyThings 54 = .ok (.if_icmp .ge 24, 3) := by decide +kernel
theorem dX8_copyThings_57 : decode cX8_copyThings 57 = .ok (.aload_n 0, 1) := by decide +kernel
theorem dX8_copyThings_58 : decode cX8_copyThings 58 = .ok (.getfield 36, 3) := by decide +kernel
theorem dX8_copyThings_61 : decode cX8_copyThings 61 = .ok (.iload_n 2, 1) := by decide +kernel
theorem dX8_copyThings_62 : decode cX8_copyThings 62 = .ok (.aaload, 1) := by decide +kernel
theorem dX8_copyThings_63 : decode cX8_copyThings 63 = .ok (.aload_n 1, 1) := by decide +kernel
theorem dX8_copyThings_64 : decode cX8_copyThings 64 = .ok (.getfield 36, 3) := by decide +kernel
theorem dX8_copyThings_67 : decode cX8_copyThings 67 = .ok (.iload_n 2, 1) := by decide +kernel
theorem dX8_copyThings_68 : decode cX8_copyThings 68 = .ok (.aaload, 1) := by decide +kernel
theorem dX8_copyThings_69 : decode cX8_copyThings 69 = .ok (.invokevirtual 108, 3) := by decide +kernel
theorem dX8_copyThings_72 : decode cX8_copyThings 72 = .ok (.iinc 2 1, 3) := by decide +kernel
theorem dX8_copyThings_75 : decode cX8_copyThings 75 = .ok (.goto (-26), 3) := by decide +kernel
theorem dX8_copyThings_78 : decode cX8_copyThings 78 = .ok (.aload_n 0, 1) := by decide +kernel
theorem dX8_copyThings_79 : decode cX8_copyThings 79 = .ok (.aload_n 1, 1) := by decide +kernel
theorem dX8_copyThings_80 : decode cX8_copyThings 80 = .ok (.getfield 111, 3) := by decide +kernel
theorem dX8_copyThings_83 : decode cX8_copyThings 83 = .ok (.putfield 111, 3) := by decide +kernel
theorem dX8_copyThings_86 : decode cX8_copyThings 86 = .ok (.iconst 0, 1) := by decide +kernel
theorem dX8_copyThings_87 : decode cX8_copyThings 87 = .ok (.istore_n 2, 1) := by decide +kernel
theorem dX8_copyThings_88 : decode cX8_copyThings 88 = .ok (.iload_n 2, 1) := by decide +kernel
theorem dX8_copyThings_89 : decode cX8_copyThings 89 = .ok (.aload_n 0, 1) := by decide +kernel
theorem dX8_copyThings_90 : decode cX8_copyThings 90 = .ok (.getfield 111, 3) := by decide +kernel
theorem dX8_copyThings_93 : decode cX8_copyThings 93 = .ok (.if_icmp .ge 24, 3) := by decide +kernel
theorem dX8_copyThings_96 : decode cX8_copyThings 96 = .ok (.aload_n 0, 1) := by decide +kernel
theorem dX8_copyThings_97 : decode cX8_copyThings 97 = .ok (.getfield 42, 3) := by decide +kernel
theorem dX8_copyThings_100 : decode cX8_copyThings 100 = .ok (.iload_n 2, 1) := by decide +kernel
theorem dX8_copyThings_101 : decode cX8_copyThings 101 = .ok (.aaload, 1) := by decide +kernel
theorem dX8_copyThings_102 : decode cX8_copyThings 102 = .ok (.aload_n 1, 1) := by decide +kernel
theorem dX8_copyThings_103 : decode cX8_copyThings 103 = .ok (.getfield 42, 3) := by decide +kernel
theorem dX8_copyThings_106 : decode cX8_copyThings 106 = .ok (.iload_n 2, 1) := by decide +kernel
theorem dX8_copyThings_107 : decode cX8_copyThings 107 = .ok (.aaload, 1) := by decide +kernel
theorem dX8_copyThings_108 : decode cX8_copyThings 108 = .ok (.invokevirtual 114, 3) := by decide +kernel
theorem dX8_copyThings_111 : decode cX8_copyThings 111 = .ok (.iinc 2 1, 3) := by decide +kernel
theorem dX8_copyThings_114 : decode cX8_copyThings 114 = .ok (.goto (-26), 3) := by decide +kernel
theorem dX8_copyThings_117 : decode cX8_copyThings 117 = .ok (.aload_n 0, 1) := by decide +kernel
theorem dX8_copyThings_118 : decode cX8_copyThings 118 = .ok (.aload_n 1, 1) := by decide +kernel
theorem dX8_copyThings_119 : decode cX8_copyThings 119 = .ok (.getfield 117, 3) := by decide +kernel
theorem dX8_copyThings_122 : decode cX8_copyThings 122 = .ok (.putfield 117, 3) := by decide +kernel
theorem dX8_copyThings_125 : decode cX8_copyThings 125 = .ok (.iconst 0, 1) := by decide +kernel
theorem dX8_copyThings_126 : decode cX8_copyThings 126 = .ok (.istore_n 2, 1) := by decide +kernel
theorem dX8_copyThings_127 : decode cX8_copyThings 127 = .ok (.iload_n 2, 1) := by decide +kernel
theorem dX8_copyThings_128 : decode cX8_copyThings 128 = .ok (.aload_n 0, 1) := by decide +kernel
theorem dX8_copyThings_129 : decode cX8_copyThings 129 = .ok (.getfield 117, 3) := by decide +kernel
theorem dX8_copyThings_132 : decode cX8_copyThings 132 = .ok (.if_icmp .ge 24, 3) := by decide +kernel
theorem dX8_copyThings_135 : decode cX8_copyThings 135 = .ok (.aload_n 0, 1) := by decide +kernel
theorem dX8_copyThings_136 : decode cX8_copyThings 136 = .ok (.getfield 48, 3) := by decide +kernel
theorem dX8_copyThings_139 : decode cX8_copyThings 139 = .ok (.iload_n 2, 1) := by decide +kernel
theorem dX8_copyThings_140 : decode cX8_copyThings 140 = .ok (.aaload, 1) := by decide +kernel
theorem dX8_copyThings_141 : decode cX8_copyThings 141 = .ok (.aload_n 1, 1) := by decide +kernel
theorem dX8_copyThings_142 : decode cX8_copyThings 142 = .ok (.getfield 48, 3) := by decide +kernel
theorem dX8_copyThings_145 : decode cX8_copyThings 145 = .ok (.iload_n 2, 1) := by decide +kernel
theorem dX8_copyThings_146 : decode cX8_copyThings 146 = .ok (.aaload, 1) := by decide +kernel
theorem dX8_copyThings_147 : decode cX8_copyThings 147 = .ok (.invokevirtual 120, 3) := by decide +kernel
theorem dX8_copyThings_150 : decode cX8_copyThings 150 = .ok (.iinc 2 1, 3) := by decide +kernel
theorem dX8_copyThings_153 : decode cX8_copyThings 153 = .ok (.goto (-26), 3) := by decide +kernel
theorem dX8_copyThings_156 : decode cX8_copyThings 156 = .ok (.return_, 1) := by decide +kernel
theorem dX8_copyRacksAndLists_0 : decode cX8_copyRacksAndLists 0 = .ok (.aload_n 0, 1) := by decide +kernel
theorem dX8_copyRacksAndLists_1 : decode cX8_copyRacksAndLists 1 = .ok (.aload_n 1, 1) := by decide +kernel
theorem dX8_copyRacksAndLists_2 : decode cX8_copyRacksAndLists 2 = .ok (.getfield 123, 3) := by decide +kernel
theorem dX8_copyRacksAndLists_5 : decode cX8_copyRacksAndLists 5 = .ok (.putfield 123, 3) := by decide +kernel
theorem dX8_copyRacksAndLists_8 : decode cX8_copyRacksAndLists 8 = .ok (.aload_n 1, 1) := by decide +kernel
theorem dX8_copyRacksAndLists_9 : decode cX8_copyRacksAndLists 9 = .ok (.getfield 54, 3) := by decide +kernel
theorem dX8_copyRacksAndLists_12 : decode cX8_copyRacksAndLists 12 = .ok (.aload_n 0, 1) := by decide +kernel
theorem dX8_copyRacksAndLists_13 : decode cX8_copyRacksAndLists 13 = .ok (.getfield 54, 3) := by decide +kernel
theorem dX8_copyRacksAndLists_16 : decode cX8_copyRacksAndLists 16 = .ok (.invokestatic 92, 3) := by decide +kernel
theorem dX8_copyRacksAndLists_19 : decode cX8_copyRacksAndLists 19 = .ok (.aload_n 0, 1) := by decide +kernel
theorem dX8_copyRacksAndLists_20 : decode cX8_copyRacksAndLists 20 = .ok (.aload_n 1, 1) := by decide +kernel
theorem dX8_copyRacksAndLists_21 : decode cX8_copyRacksAndLists 21 = .ok (.getfield 126, 3) := by decide +kernel
theorem dX8_copyRacksAndLists_24 : decode cX8_copyRacksAndLists 24 = .ok (.putfield 126, 3) := by decide +kernel
theorem dX8_copyRacksAndLists_27 : decode cX8_copyRacksAndLists 27 = .ok (.aload_n 1, 1) := by decide +kernel
theorem dX8_copyRacksAndLists_28 : decode cX8_copyRacksAndLists 28 = .ok (.getfield 63, 3) := by decide +kernel
theorem dX8_copyRacksAndLists_31 : decode cX8_copyRacksAndLists 31 = .ok (.aload_n 0, 1) := by decide +kernel
theorem dX8_copyRacksAndLists_32 : decode cX8_copyRacksAndLists 32 = .ok (.getfield 63, 3) := by decide +kernel
theorem dX8_copyRacksAndLists_35 : decode cX8_copyRacksAndLists 35 = .ok (.invokestatic 92, 3) := by decide +kernel
theorem dX8_copyRacksAndLists_38 : decode cX8_copyRacksAndLists 38 = .ok (.return_, 1) := by decide +kernel
theorem dX8_copyRows_0 : decode cX8_copyRows 0 = .ok (.iconst 0, 1) := by decide +kernel
theorem dX8_copyRows_1 : decode cX8_copyRows 1 = .ok (.istore_n 2, 1) := by decide +kernel
theorem dX8_copyRows_2 : decode cX8_copyRows 2 = .ok (.iload_n 2, 1) := by decide +kernel
theorem dX8_copyRows_3 : decode cX8_copyRows 3 = .ok (.aload_n 1, 1) := by decide +kernel
theorem dX8_copyRows_4 : decode cX8_copyRows 4 = .ok (.arraylength, 1) := by decide +kernel
theorem dX8_copyRows_5 : decode cX8_copyRows 5 = .ok (.if_icmp .ge 24, 3) := by decide +kernel
theorem dX8_copyRows_8 : decode cX8_copyRows 8 = .ok (.aload_n 0, 1) := by decide +kernel
theorem dX8_copyRows_9 : decode cX8_copyRows 9 = .ok (.iload_n 2, 1) := by decide +kernel
theorem dX8_copyRows_10 : decode cX8_copyRows 10 = .ok (.aaload, 1) := by decide +kernel
theorem dX8_copyRows_11 : decode cX8_copyRows 11 = .ok (.iconst 0, 1) := by decide +kernel
theorem dX8_copyRows_12 : decode cX8_copyRows 12 = .ok (.aload_n 1, 1) := by decide +kernel
theorem dX8_copyRows_13 : decode cX8_copyRows 13 = .ok (.iload_n 2, 1) := by decide +kernel
theorem dX8_copyRows_14 : decode cX8_copyRows 14 = .ok (.aaload, 1) := by decide +kernel
theorem dX8_copyRows_15 : decode cX8_copyRows 15 = .ok (.iconst 0, 1) := by decide +kernel
theorem dX8_copyRows_16 : decode cX8_copyRows 16 = .ok (.aload_n 1, 1) := by decide +kernel
theorem dX8_copyRows_17 : decode cX8_copyRows 17 = .ok (.iload_n 2, 1) := by decide +kernel
theorem dX8_copyRows_18 : decode cX8_copyRows 18 = .ok (.aaload, 1) := by decide +kernel
theorem dX8_copyRows_19 : decode cX8_copyRows 19 = .ok (.arraylength, 1) := by decide +kernel
theorem dX8_copyRows_20 : decode cX8_copyRows 20 = .ok (.invokestatic 129, 3) := by decide +kernel
theorem dX8_copyRows_23 : decode cX8_copyRows 23 = .ok (.iinc 2 1, 3) := by decide +kernel
theorem dX8_copyRows_26 : decode cX8_copyRows 26 = .ok (.goto (-24), 3) := by decide +kernel
theorem dX8_copyRows_29 : decode cX8_copyRows 29 = .ok (.return_, 1) := by decide +kernel
theorem dX8_hasKind_0 : decode cX8_hasKind 0 = .ok (.iconst 0, 1) := by decide +kernel
theorem dX8_hasKind_1 : decode cX8_hasKind 1 = .ok (.iload_n 1, 1) := by decide +kernel
theorem dX8_hasKind_2 : decode cX8_hasKind 2 = .ok (.if_icmp .gt 15, 3) := by decide +kernel
theorem dX8_hasKind_5 : decode cX8_hasKind 5 = .ok (.iload_n 1, 1) := by decide +kernel
theorem dX8_hasKind_6 : decode cX8_hasKind 6 = .ok (.aload_n 0, 1) := by decide +kernel
theorem dX8_hasKind_7 : decode cX8_hasKind 7 = .ok (.getfield 99, 3) := by decide +kernel
theorem dX8_hasKind_10 : decode cX8_hasKind 10 = .ok (.if_icmp .ge 7, 3) := by decide +kernel
theorem dX8_hasKind_13 : decode cX8_hasKind 13 = .ok (.iconst 1, 1) := by decide +kernel
theorem dX8_hasKind_14 : decode cX8_hasKind 14 = .ok (.goto 4, 3) := by decide +kernel
theorem dX8_hasKind_17 : decode cX8_hasKind 17 = .ok (.iconst 0, 1) := by decide +kernel
theorem dX8_hasKind_18 : decode cX8_hasKind 18 = .ok (.ireturn, 1) := by decide +kernel
theorem dX8_hasPerson_0 : decode cX8_hasPerson 0 = .ok (.iconst 0, 1) := by decide +kernel
theorem dX8_hasPerson_1 : decode cX8_hasPerson 1 = .ok (.iload_n 1, 1) := by decide +kernel
theorem dX8_hasPerson_2 : decode cX8_hasPerson 2 = .ok (.if_icmp .gt 15, 3) := by decide +kernel
theorem dX8_hasPerson_5 : decode cX8_hasPerson 5 = .ok (.iload_n 1, 1) := by decide +kernel
theorem dX8_hasPerson_6 : decode cX8_hasPerson 6 = .ok (.aload_n 0, 1) := by decide +kernel
theorem dX8_hasPerson_7 : decode cX8_hasPerson 7 = .ok (.getfield 105, 3) := by decide +kernel
theorem dX8_hasPerson_10 : decode cX8_hasPerson 10 = .ok (.if_icmp .ge 7, 3) := by decide +kernel
theorem dX8_hasPerson_13 : decode cX8_hasPerson 13 = .ok (.iconst 1, 1) := by decide +kernel
theorem dX8_hasPerson_14 : decode cX8_hasPerson 14 = .ok (.goto 4, 3) := by decide +kernel
theorem dX8_hasPerson_17 : decode cX8_hasPerson 17 = .ok (.iconst 0, 1) := by decide +kernel
theorem dX8_hasPerson_18 : decode cX8_hasPerson 18 = .ok (.ireturn, 1) := by decide +kernel
theorem dX8_hasPledge_0 : decode cX8_hasPledge 0 = .ok (.iconst 0, 1) := by decide +kernel
theorem dX8_hasPledge_1 : decode cX8_hasPledge 1 = .ok (.iload_n 1, 1) := by decide +kernel
theorem dX8_hasPledge_2 : decode cX8_hasPledge 2 = .ok (.if_icmp .gt 15, 3) := by decide +kernel
theorem dX8_hasPledge_5 : decode cX8_hasPledge 5 = .ok (.iload_n 1, 1) := by decide +kernel
theorem dX8_hasPledge_6 : decode cX8_hasPledge 6 = .ok (.aload_n 0, 1) := by decide +kernel
theorem dX8_hasPledge_7 : decode cX8_hasPledge 7 = .ok (.getfield 111, 3) := by decide +kernel
theorem dX8_hasPledge_10 : decode cX8_hasPledge 10 = .ok (.if_icmp .ge 7, 3) := by decide +kernel
theorem dX8_hasPledge_13 : decode cX8_hasPledge 13 = .ok (.iconst 1, 1) := by decide +kernel
theorem dX8_hasPledge_14 : decode cX8_hasPledge 14 = .ok (.goto 4, 3) := by decide +kernel
theorem dX8_hasPledge_17 : decode cX8_hasPledge 17 = .ok (.iconst 0, 1) := by decide +kernel
theorem dX8_hasPledge_18 : decode cX8_hasPledge 18 = .ok (.ireturn, 1) := by decide +kernel
theorem dX8_hasRack_0 : decode cX8_hasRack 0 = .ok (.iconst 0, 1) := by decide +kernel
theorem dX8_hasRack_1 : decode cX8_hasRack 1 = .ok (.iload_n 1, 1) := by decide +kernel
theorem dX8_hasRack_2 : decode cX8_hasRack 2 = .ok (.if_icmp .gt 15, 3) := by decide +kernel
theorem dX8_hasRack_5 : decode cX8_hasRack 5 = .ok (.iload_n 1, 1) := by decide +kernel
theorem dX8_hasRack_6 : decode cX8_hasRack 6 = .ok (.aload_n 0, 1) := by decide +kernel
theorem dX8_hasRack_7 : decode cX8_hasRack 7 = .ok (.getfield 123, 3) := by decide +kernel
theorem dX8_hasRack_10 : decode cX8_hasRack 10 = .ok (.if_icmp .ge 7, 3) := by decide +kernel
theorem dX8_hasRack_13 : decode cX8_hasRack 13 = .ok (.iconst 1, 1) := by decide +kernel
theorem dX8_hasRack_14 : decode cX8_hasRack 14 = .ok (.goto 4, 3) := by decide +kernel
theorem dX8_hasRack_17 : decode cX8_hasRack 17 = .ok (.iconst 0, 1) := by decide +kernel
theorem dX8_hasRack_18 : decode cX8_hasRack 18 = .ok (.ireturn, 1) := by decide +kernel
theorem dX8_countHere_0 : decode cX8_countHere 0 = .ok (.iconst 0, 1) := by decide +kernel
theorem dX8_countHere_1 : decode cX8_countHere 1 = .ok (.istore_n 1, 1) := by decide +kernel
theorem dX8_countHere_2 : decode cX8_countHere 2 = .ok (.iconst 0, 1) := by decide +kernel
theorem dX8_countHere_3 : decode cX8_countHere 3 = .ok (.istore_n 2, 1) := by decide +kernel
theorem dX8_countHere_4 : decode cX8_countHere 4 = .ok (.iload_n 2, 1) := by decide +kernel
theorem dX8_countHere_5 : decode cX8_countHere 5 = .ok (.aload_n 0, 1) := by decide +kernel
theorem dX8_countHere_6 : decode cX8_countHere 6 = .ok (.getfield 111, 3) := by decide +kernel
theorem dX8_countHere_9 : decode cX8_countHere 9 = .ok (.if_icmp .ge 24, 3) := by decide +kernel
theorem dX8_countHere_12 : decode cX8_countHere 12 = .ok (.aload_n 0, 1) := by decide +kernel
theorem dX8_countHere_13 : decode cX8_countHere 13 = .ok (.getfield 42, 3) := by decide +kernel
theorem dX8_countHere_16 : decode cX8_countHere 16 = .ok (.iload_n 2, 1) := by decide +kernel
theorem dX8_countHere_17 : decode cX8_countHere 17 = .ok (.aaload, 1) := by decide +kernel
theorem dX8_countHere_18 : decode cX8_countHere 18 = .ok (.getfield 135, 3) := by decide +kernel
theorem dX8_countHere_21 : decode cX8_countHere 21 = .ok (.ifCond .ne 6, 3) := by decide +kernel
theorem dX8_countHere_24 : decode cX8_countHere 24 = .ok (.iinc 1 1, 3) := by decide +kernel
theorem dX8_countHere_27 : decode cX8_countHere 27 = .ok (.iinc 2 1, 3) := by decide +kernel
theorem dX8_countHere_30 : decode cX8_countHere 30 = .ok (.goto (-26), 3) := by decide +kernel
theorem dX8_countHere_33 : decode cX8_countHere 33 = .ok (.iload_n 1, 1) := by decide +kernel
theorem dX8_countHere_34 : decode cX8_countHere 34 = .ok (.ireturn, 1) := by decide +kernel
theorem dX8_roomLeft_0 : decode cX8_roomLeft 0 = .ok (.aload_n 0, 1) := by decide +kernel
theorem dX8_roomLeft_1 : decode cX8_roomLeft 1 = .ok (.getfield 54, 3) := by decide +kernel
theorem dX8_roomLeft_4 : decode cX8_roomLeft 4 = .ok (.iload_n 1, 1) := by decide +kernel
theorem dX8_roomLeft_5 : decode cX8_roomLeft 5 = .ok (.aaload, 1) := by decide +kernel
theorem dX8_roomLeft_6 : decode cX8_roomLeft 6 = .ok (.iconst 0, 1) := by decide +kernel
theorem dX8_roomLeft_7 : decode cX8_roomLeft 7 = .ok (.iaload, 1) := by decide +kernel
theorem dX8_roomLeft_8 : decode cX8_roomLeft 8 = .ok (.istore_n 2, 1) := by decide +kernel
theorem dX8_roomLeft_9 : decode cX8_roomLeft 9 = .ok (.iconst 0, 1) := by decide +kernel
theorem dX8_roomLeft_10 : decode cX8_roomLeft 10 = .ok (.istore_n 3, 1) := by decide +kernel
theorem dX8_roomLeft_11 : decode cX8_roomLeft 11 = .ok (.iload_n 3, 1) := by decide +kernel
theorem dX8_roomLeft_12 : decode cX8_roomLeft 12 = .ok (.aload_n 0, 1) := by decide +kernel
theorem dX8_roomLeft_13 : decode cX8_roomLeft 13 = .ok (.getfield 111, 3) := by decide +kernel
theorem dX8_roomLeft_16 : decode cX8_roomLeft 16 = .ok (.if_icmp .ge 42, 3) := by decide +kernel
theorem dX8_roomLeft_19 : decode cX8_roomLeft 19 = .ok (.aload_n 0, 1) := by decide +kernel
theorem dX8_roomLeft_20 : decode cX8_roomLeft 20 = .ok (.getfield 42, 3) := by decide +kernel
theorem dX8_roomLeft_23 : decode cX8_roomLeft 23 = .ok (.iload_n 3, 1) := by decide +kernel
theorem dX8_roomLeft_24 : decode cX8_roomLeft 24 = .ok (.aaload, 1) := by decide +kernel
theorem dX8_roomLeft_25 : decode cX8_roomLeft 25 = .ok (.getfield 138, 3) := by decide +kernel
theorem dX8_roomLeft_28 : decode cX8_roomLeft 28 = .ok (.iload_n 1, 1) := by decide +kernel
theorem dX8_roomLeft_29 : decode cX8_roomLeft 29 = .ok (.if_icmp .ne 23, 3) := by decide +kernel
theorem dX8_roomLeft_32 : decode cX8_roomLeft 32 = .ok (.iload_n 2, 1) := by decide +kernel
theorem dX8_roomLeft_33 : decode cX8_roomLeft 33 = .ok (.aload_n 0, 1) := by decide +kernel
theorem dX8_roomLeft_34 : decode cX8_roomLeft 34 = .ok (.getfield 30, 3) := by decide +kernel
theorem dX8_roomLeft_37 : decode cX8_roomLeft 37 = .ok (.aload_n 0, 1) := by decide +kernel
theorem dX8_roomLeft_38 : decode cX8_roomLeft 38 = .ok (.getfield 42, 3) := by decide +kernel
theorem dX8_roomLeft_41 : decode cX8_roomLeft 41 = .ok (.iload_n 3, 1) := by decide +kernel
theorem dX8_roomLeft_42 : decode cX8_roomLeft 42 = .ok (.aaload, 1) := by decide +kernel
theorem dX8_roomLeft_43 : decode cX8_roomLeft 43 = .ok (.getfield 141, 3) := by decide +kernel
theorem dX8_roomLeft_46 : decode cX8_roomLeft 46 = .ok (.aaload, 1) := by decide +kernel
theorem dX8_roomLeft_47 : decode cX8_roomLeft 47 = .ok (.getfield 144, 3) := by decide +kernel
theorem dX8_roomLeft_50 : decode cX8_roomLeft 50 = .ok (.isub, 1) := by decide +kernel
theorem dX8_roomLeft_51 : decode cX8_roomLeft 51 = .ok (.istore_n 2, 1) := by decide +kernel
theorem dX8_roomLeft_52 : decode cX8_roomLeft 52 = .ok (.iinc 3 1, 3) := by decide +kernel
theorem dX8_roomLeft_55 : decode cX8_roomLeft 55 = .ok (.goto (-44), 3) := by decide +kernel
theorem dX8_roomLeft_58 : decode cX8_roomLeft 58 = .ok (.iload_n 2, 1) := by decide +kernel
theorem dX8_roomLeft_59 : decode cX8_roomLeft 59 = .ok (.ireturn, 1) := by decide +kernel
theorem dX8_lendOn_0 : decode cX8_lendOn 0 = .ok (.aload_n 0, 1) := by decide +kernel
theorem dX8_lendOn_1 : decode cX8_lendOn 1 = .ok (.iload_n 1, 1) := by decide +kernel
theorem dX8_lendOn_2 : decode cX8_lendOn 2 = .ok (.invokevirtual 147, 3) := by decide +kernel
theorem dX8_lendOn_5 : decode cX8_lendOn 5 = .ok (.ifCond .eq 11, 3) := by decide +kernel
theorem dX8_lendOn_8 : decode cX8_lendOn 8 = .ok (.aload_n 0, 1) := by decide +kernel
theorem dX8_lendOn_9 : decode cX8_lendOn 9 = .ok (.iload_n 2, 1) := by decide +kernel
theorem dX8_lendOn_10 : decode cX8_lendOn 10 = .ok (.invokevirtual 151, 3) := by decide +kernel
theorem dX8_lendOn_13 : decode cX8_lendOn 13 = .ok (.ifCond .ne 6, 3) := by decide +kernel
theorem dX8_lendOn_16 : decode cX8_lendOn 16 = .ok (.bipush (-2), 2) := by decide +kernel
theorem dX8_lendOn_18 : decode cX8_lendOn 18 = .ok (.ireturn, 1) := by decide +kernel
theorem dX8_lendOn_19 : decode cX8_lendOn 19 = .ok (.iload_n 3, 1) := by decide +kernel
theorem dX8_lendOn_20 : decode cX8_lendOn 20 = .ok (.invokestatic 154, 3) := by decide +kernel
theorem dX8_lendOn_23 : decode cX8_lendOn 23 = .ok (.ifCond .ne 6, 3) := by decide +kernel
theorem dX8_lendOn_26 : decode cX8_lendOn 26 = .ok (.bipush (-3), 2) := by decide +kernel
theorem dX8_lendOn_28 : decode cX8_lendOn 28 = .ok (.ireturn, 1) := by decide +kernel
theorem dX8_lendOn_29 : decode cX8_lendOn 29 = .ok (.aload_n 0, 1) := by decide +kernel
theorem dX8_lendOn_30 : decode cX8_lendOn 30 = .ok (.getfield 111, 3) := by decide +kernel
theorem dX8_lendOn_33 : decode cX8_lendOn 33 = .ok (.bipush 60, 2) := by decide +kernel
theorem dX8_lendOn_35 : decode cX8_lendOn 35 = .ok (.if_icmp .ge 13, 3) := by decide +kernel
theorem dX8_lendOn_38 : decode cX8_lendOn 38 = .ok (.aload_n 0, 1) := by decide +kernel
theorem dX8_lendOn_39 : decode cX8_lendOn 39 = .ok (.getfield 117, 3) := by decide +kernel
theorem dX8_lendOn_42 : decode cX8_lendOn 42 = .ok (.sipush 150, 3) := by decide +kernel
theorem dX8_lendOn_45 : decode cX8_lendOn 45 = .ok (.if_icmp .lt 6, 3) := by decide +kernel
theorem dX8_lendOn_48 : decode cX8_lendOn 48 = .ok (.bipush (-4), 2) := by decide +kernel
theorem dX8_lendOn_50 : decode cX8_lendOn 50 = .ok (.ireturn, 1) := by decide +kernel
theorem dX8_lendOn_51 : decode cX8_lendOn 51 = .ok (.aload_n 0, 1) := by decide +kernel
theorem dX8_lendOn_52 : decode cX8_lendOn 52 = .ok (.getfield 12, 3) := by decide +kernel
theorem dX8_lendOn_55 : decode cX8_lendOn 55 = .ok (.iload_n 3, 1) := by decide +kernel
theorem dX8_lendOn_56 : decode cX8_lendOn 56 = .ok (.invokevirtual 157, 3) := by decide +kernel
theorem dX8_lendOn_59 : decode cX8_lendOn 59 = .ok (.ifCond .ne 6, 3) := by decide +kernel
theorem dX8_lendOn_62 : decode cX8_lendOn 62 = .ok (.bipush (-5), 2) := by decide +kernel
theorem dX8_lendOn_64 : decode cX8_lendOn 64 = .ok (.ireturn, 1) := by decide +kernel
theorem dX8_lendOn_65 : decode cX8_lendOn 65 = .ok (.aload_n 0, 1) := by decide +kernel
theorem dX8_lendOn_66 : decode cX8_lendOn 66 = .ok (.getfield 42, 3) := by decide +kernel
theorem dX8_lendOn_69 : decode cX8_lendOn 69 = .ok (.aload_n 0, 1) := by decide +kernel
theorem dX8_lendOn_70 : decode cX8_lendOn 70 = .ok (.getfield 111, 3) := by decide +kernel
theorem dX8_lendOn_73 : decode cX8_lendOn 73 = .ok (.aaload, 1) := by decide +kernel
theorem dX8_lendOn_74 : decode cX8_lendOn 74 = .ok (.iload_n 1, 1) := by decide +kernel
theorem dX8_lendOn_75 : decode cX8_lendOn 75 = .ok (.iload_n 2, 1) := by decide +kernel
theorem dX8_lendOn_76 : decode cX8_lendOn 76 = .ok (.iload_n 3, 1) := by decide +kernel
theorem dX8_lendOn_77 : decode cX8_lendOn 77 = .ok (.aload_n 0, 1) := by decide +kernel
theorem dX8_lendOn_78 : decode cX8_lendOn 78 = .ok (.getfield 81, 3) := by decide +kernel
theorem dX8_lendOn_81 : decode cX8_lendOn 81 = .ok (.invokevirtual 160, 3) := by decide +kernel
theorem dX8_lendOn_84 : decode cX8_lendOn 84 = .ok (.aload_n 0, 1) := by decide +kernel
theorem dX8_lendOn_85 : decode cX8_lendOn 85 = .ok (.dup, 1) := by decide +kernel
theorem dX8_lendOn_86 : decode cX8_lendOn 86 = .ok (.getfield 111, 3) := by decide +kernel
theorem dX8_lendOn_89 : decode cX8_lendOn 89 = .ok (.iconst 1, 1) := by decide +kernel
theorem dX8_lendOn_90 : decode cX8_lendOn 90 = .ok (.iadd, 1) := by decide +kernel
theorem dX8_lendOn_91 : decode cX8_lendOn 91 = .ok (.putfield 111, 3) := by decide +kernel
theorem dX8_lendOn_94 : decode cX8_lendOn 94 = .ok (.aload_n 0, 1) := by decide +kernel
theorem dX8_lendOn_95 : decode cX8_lendOn 95 = .ok (.getfield 36, 3) := by decide +kernel
theorem dX8_lendOn_98 : decode cX8_lendOn 98 = .ok (.iload_n 2, 1) := by decide +kernel
theorem dX8_lendOn_99 : decode cX8_lendOn 99 = .ok (.aaload, 1) := by decide +kernel
theorem dX8_lendOn_100 : decode cX8_lendOn 100 = .ok (.dup, 1) := by decide +kernel
theorem dX8_lendOn_101 : decode cX8_lendOn 101 = .ok (.getfield 164, 3) := by decide +kernel
theorem dX8_lendOn_104 : decode cX8_lendOn 104 = .ok (.iconst 2, 1) := by decide +kernel
theorem dX8_lendOn_105 : decode cX8_lendOn 105 = .ok (.iload_n 3, 1) := by decide +kernel
theorem dX8_lendOn_106 : decode cX8_lendOn 106 = .ok (.imul, 1) := by decide +kernel
theorem dX8_lendOn_107 : decode cX8_lendOn 107 = .ok (.aload_n 0, 1) := by decide +kernel
theorem dX8_lendOn_108 : decode cX8_lendOn 108 = .ok (.getfield 12, 3) := by decide +kernel
theorem dX8_lendOn_111 : decode cX8_lendOn 111 = .ok (.getfield 167, 3) := by decide +kernel
theorem dX8_lendOn_114 : decode cX8_lendOn 114 = .ok (.iconst 1, 1) := by decide +kernel
theorem dX8_lendOn_115 : decode cX8_lendOn 115 = .ok (.iaload, 1) := by decide +kernel
theorem dX8_lendOn_116 : decode cX8_lendOn 116 = .ok (.isub, 1) := by decide +kernel
theorem dX8_lendOn_117 : decode cX8_lendOn 117 = .ok (.iadd, 1) := by decide +kernel
theorem dX8_lendOn_118 : decode cX8_lendOn 118 = .ok (.putfield 164, 3) := by decide +kernel
theorem dX8_lendOn_121 : decode cX8_lendOn 121 = .ok (.aload_n 0, 1) := by decide +kernel
theorem dX8_lendOn_122 : decode cX8_lendOn 122 = .ok (.iconst 0, 1) := by decide +kernel
theorem dX8_lendOn_123 : decode cX8_lendOn 123 = .ok (.iconst 2, 1) := by decide +kernel
theorem dX8_lendOn_124 : decode cX8_lendOn 124 = .ok (.iload_n 3, 1) := by decide +kernel
theorem dX8_lendOn_125 : decode cX8_lendOn 125 = .ok (.imul, 1) := by decide +kernel
theorem dX8_lendOn_126 : decode cX8_lendOn 126 = .ok (.invokevirtual 171, 3) := by decide +kernel
theorem dX8_lendOn_129 : decode cX8_lendOn 129 = .ok (.aload_n 0, 1) := by decide +kernel
theorem dX8_lendOn_130 : decode cX8_lendOn 130 = .ok (.iconst 2, 1) := by decide +kernel
theorem dX8_lendOn_131 : decode cX8_lendOn 131 = .ok (.iconst 1, 1) := by decide +kernel
theorem dX8_lendOn_132 : decode cX8_lendOn 132 = .ok (.invokevirtual 171, 3) := by decide +kernel
theorem dX8_lendOn_135 : decode cX8_lendOn 135 = .ok (.aload_n 0, 1) := by decide +kernel
theorem dX8_lendOn_136 : decode cX8_lendOn 136 = .ok (.aload_n 0, 1) := by decide +kernel
theorem dX8_lendOn_137 : decode cX8_lendOn 137 = .ok (.getfield 111, 3) := by decide +kernel
theorem dX8_lendOn_140 : decode cX8_lendOn 140 = .ok (.iconst 1, 1) := by decide +kernel
theorem dX8_lendOn_141 : decode cX8_lendOn 141 = .ok (.isub, 1) := by decide +kernel
theorem dX8_lendOn_142 : decode cX8_lendOn 142 = .ok (.iload_n 2, 1) := by decide +kernel
theorem dX8_lendOn_143 : decode cX8_lendOn 143 = .ok (.invokevirtual 175, 3) := by decide +kernel
theorem dX8_lendOn_146 : decode cX8_lendOn 146 = .ok (.ireturn, 1) := by decide +kernel
theorem dX8_issue_0 : decode cX8_issue 0 = .ok (.aload_n 0, 1) := by decide +kernel
theorem dX8_issue_1 : decode cX8_issue 1 = .ok (.getfield 117, 3) := by decide +kernel
theorem dX8_issue_4 : decode cX8_issue 4 = .ok (.sipush 150, 3) := by decide +kernel
theorem dX8_issue_7 : decode cX8_issue 7 = .ok (.if_icmp .lt 6, 3) := by decide +kernel
theorem dX8_issue_10 : decode cX8_issue 10 = .ok (.bipush (-4), 2) := by decide +kernel
theorem dX8_issue_12 : decode cX8_issue 12 = .ok (.ireturn, 1) := by decide +kernel
theorem dX8_issue_13 : decode cX8_issue 13 = .ok (.aload_n 0, 1) := by decide +kernel
theorem dX8_issue_14 : decode cX8_issue 14 = .ok (.getfield 48, 3) := by decide +kernel
theorem dX8_issue_17 : decode cX8_issue 17 = .ok (.aload_n 0, 1) := by decide +kernel
theorem dX8_issue_18 : decode cX8_issue 18 = .ok (.getfield 117, 3) := by decide +kernel
theorem dX8_issue_21 : decode cX8_issue 21 = .ok (.aaload, 1) := by decide +kernel
theorem dX8_issue_22 : decode cX8_issue 22 = .ok (.astore_n 3, 1) := by decide +kernel
theorem dX8_issue_23 : decode cX8_issue 23 = .ok (.aload_n 3, 1) := by decide +kernel
theorem dX8_issue_24 : decode cX8_issue 24 = .ok (.iload_n 1, 1) := by decide +kernel
theorem dX8_issue_25 : decode cX8_issue 25 = .ok (.putfield 179, 3) := by decide +kernel
theorem dX8_issue_28 : decode cX8_issue 28 = .ok (.aload_n 3, 1) := by decide +kernel
theorem dX8_issue_29 : decode cX8_issue 29 = .ok (.iload_n 2, 1) := by decide +kernel
theorem dX8_issue_30 : decode cX8_issue 30 = .ok (.putfield 182, 3) := by decide +kernel
theorem dX8_issue_33 : decode cX8_issue 33 = .ok (.aload_n 3, 1) := by decide +kernel
theorem dX8_issue_34 : decode cX8_issue 34 = .ok (.aload_n 0, 1) := by decide +kernel
theorem dX8_issue_35 : decode cX8_issue 35 = .ok (.getfield 96, 3) := by decide +kernel
theorem dX8_issue_38 : decode cX8_issue 38 = .ok (.putfield 185, 3) := by decide +kernel
theorem dX8_issue_41 : decode cX8_issue 41 = .ok (.aload_n 3, 1) := by decide +kernel
theorem dX8_issue_42 : decode cX8_issue 42 = .ok (.iconst 1, 1) := by decide +kernel
theorem dX8_issue_43 : decode cX8_issue 43 = .ok (.putfield 188, 3) := by decide +kernel
theorem dX8_issue_46 : decode cX8_issue 46 = .ok (.aload_n 0, 1) := by decide +kernel
theorem dX8_issue_47 : decode cX8_issue 47 = .ok (.dup, 1) := by decide +kernel
theorem dX8_issue_48 : decode cX8_issue 48 = .ok (.getfield 117, 3) := by decide +kernel
theorem dX8_issue_51 : decode cX8_issue 51 = .ok (.iconst 1, 1) := by decide +kernel
theorem dX8_issue_52 : decode cX8_issue 52 = .ok (.iadd, 1) := by decide +kernel
theorem dX8_issue_53 : decode cX8_issue 53 = .ok (.putfield 117, 3) := by decide +kernel
theorem dX8_issue_56 : decode cX8_issue 56 = .ok (.bipush 100, 2) := by decide +kernel
theorem dX8_issue_58 : decode cX8_issue 58 = .ok (.aload_n 0, 1) := by decide +kernel
theorem dX8_issue_59 : decode cX8_issue 59 = .ok (.getfield 117, 3) := by decide +kernel
theorem dX8_issue_62 : decode cX8_issue 62 = .ok (.imul, 1) := by decide +kernel
theorem dX8_issue_63 : decode cX8_issue 63 = .ok (.aload_n 0, 1) := by decide +kernel
theorem dX8_issue_64 : decode cX8_issue 64 = .ok (.getfield 117, 3) := by decide +kernel
theorem dX8_issue_67 : decode cX8_issue 67 = .ok (.invokestatic 191, 3) := by decide +kernel
theorem dX8_issue_70 : decode cX8_issue 70 = .ok (.iadd, 1) := by decide +kernel
theorem dX8_issue_71 : decode cX8_issue 71 = .ok (.ireturn, 1) := by decide +kernel
theorem dX8_lastFigures_0 : decode cX8_lastFigures 0 = .ok (.bipush 31, 2) := by decide +kernel
theorem dX8_lastFigures_2 : decode cX8_lastFigures 2 = .ok (.iload_n 0, 1) := by decide +kernel
theorem dX8_lastFigures_3 : decode cX8_lastFigures 3 = .ok (.imul, 1) := by decide +kernel
theorem dX8_lastFigures_4 : decode cX8_lastFigures 4 = .ok (.bipush 17, 2) := by decide +kernel
theorem dX8_lastFigures_6 : decode cX8_lastFigures 6 = .ok (.iadd, 1) := by decide +kernel
theorem dX8_lastFigures_7 : decode cX8_lastFigures 7 = .ok (.bipush 97, 2) := by decide +kernel
theorem dX8_lastFigures_9 : decode cX8_lastFigures 9 = .ok (.irem, 1) := by decide +kernel
theorem dX8_lastFigures_10 : decode cX8_lastFigures 10 = .ok (.ireturn, 1) := by decide +kernel
theorem dX8_standing_0 : decode cX8_standing 0 = .ok (.iload_n 1, 1) := by decide +kernel
theorem dX8_standing_1 : decode cX8_standing 1 = .ok (.bipush 100, 2) := by decide +kernel
theorem dX8_standing_3 : decode cX8_standing 3 = .ok (.if_icmp .lt 17, 3) := by decide +kernel
theorem dX8_standing_6 : decode cX8_standing 6 = .ok (.iload_n 1, 1) := by decide +kernel
theorem dX8_standing_7 : decode cX8_standing 7 = .ok (.bipush 100, 2) := by decide +kernel
theorem dX8_standing_9 : decode cX8_standing 9 = .ok (.irem, 1) := by decide +kernel
theorem dX8_standing_10 : decode cX8_standing 10 = .ok (.iload_n 1, 1) := by decide +kernel
theorem dX8_standing_11 : decode cX8_standing 11 = .ok (.bipush 100, 2) := by decide +kernel
theorem dX8_standing_13 : decode cX8_standing 13 = .ok (.idiv, 1) := by decide +kernel
theorem dX8_standing_14 : decode cX8_standing 14 = .ok (.invokestatic 191, 3) := by decide +kernel
theorem dX8_standing_17 : decode cX8_standing 17 = .ok (.if_icmp .eq 5, 3) := by decide +kernel
theorem dX8_standing_20 : decode cX8_standing 20 = .ok (.iconst 2, 1) := by decide +kernel
theorem dX8_standing_21 : decode cX8_standing 21 = .ok (.ireturn, 1) := by decide +kernel
theorem dX8_standing_22 : decode cX8_standing 22 = .ok (.iload_n 1, 1) := by decide +kernel
theorem dX8_standing_23 : decode cX8_standing 23 = .ok (.bipush 100, 2) := by decide +kernel
theorem dX8_standing_25 : decode cX8_standing 25 = .ok (.idiv, 1) := by decide +kernel
theorem dX8_standing_26 : decode cX8_standing 26 = .ok (.aload_n 0, 1) := by decide +kernel
theorem dX8_standing_27 : decode cX8_standing 27 = .ok (.getfield 117, 3) := by decide +kernel
theorem dX8_standing_30 : decode cX8_standing 30 = .ok (.if_icmp .le 5, 3) := by decide +kernel
theorem dX8_standing_33 : decode cX8_standing 33 = .ok (.iconst 3, 1) := by decide +kernel
theorem dX8_standing_34 : decode cX8_standing 34 = .ok (.ireturn, 1) := by decide +kernel
theorem dX8_standing_35 : decode cX8_standing 35 = .ok (.aload_n 0, 1) := by decide +kernel
theorem dX8_standing_36 : decode cX8_standing 36 = .ok (.getfield 48, 3) := by decide +kernel
theorem dX8_standing_39 : decode cX8_standing 39 = .ok (.iload_n 1, 1) := by decide +kernel
theorem dX8_standing_40 : decode cX8_standing 40 = .ok (.bipush 100, 2) := by decide +kernel
theorem dX8_standing_42 : decode cX8_standing 42 = .ok (.idiv, 1) := by decide +kernel
theorem dX8_standing_43 : decode cX8_standing 43 = .ok (.iconst 1, 1) := by decide +kernel
theorem dX8_standing_44 : decode cX8_standing 44 = .ok (.isub, 1) := by decide +kernel
theorem dX8_standing_45 : decode cX8_standing 45 = .ok (.aaload, 1) := by decide +kernel
theorem dX8_standing_46 : decode cX8_standing 46 = .ok (.getfield 188, 3) := by decide +kernel
theorem dX8_standing_49 : decode cX8_standing 49 = .ok (.ifCond .eq 7, 3) := by decide +kernel
theorem dX8_standing_52 : decode cX8_standing 52 = .ok (.iconst 0, 1) := by decide +kernel
theorem dX8_standing_53 : decode cX8_standing 53 = .ok (.goto 4, 3) := by decide +kernel
theorem dX8_standing_56 : decode cX8_standing 56 = .ok (.iconst 1, 1) := by decide +kernel
theorem dX8_standing_57 : decode cX8_standing 57 = .ok (.ireturn, 1) := by decide +kernel
theorem dX8_serial_0 : decode cX8_serial 0 = .ok (.aload_n 0, 1) := by decide +kernel
theorem dX8_serial_1 : decode cX8_serial 1 = .ok (.iload_n 1, 1) := by decide +kernel
theorem dX8_serial_2 : decode cX8_serial 2 = .ok (.invokevirtual 195, 3) := by decide +kernel
theorem dX8_serial_5 : decode cX8_serial 5 = .ok (.istore_n 2, 1) := by decide +kernel
theorem dX8_serial_6 : decode cX8_serial 6 = .ok (.iload_n 2, 1) := by decide +kernel
theorem dX8_serial_7 : decode cX8_serial 7 = .ok (.ifCond .eq 8, 3) := by decide +kernel
theorem dX8_serial_10 : decode cX8_serial 10 = .ok (.iload_n 2, 1) := by decide +kernel
theorem dX8_serial_11 : decode cX8_serial 11 = .ok (.iconst 1, 1) := by decide +kernel
theorem dX8_serial_12 : decode cX8_serial 12 = .ok (.if_icmp .ne 12, 3) := by decide +kernel
theorem dX8_serial_15 : decode cX8_serial 15 = .ok (.iload_n 1, 1) := by decide +kernel
theorem dX8_serial_16 : decode cX8_serial 16 = .ok (.bipush 100, 2) := by decide +kernel
theorem dX8_serial_18 : decode cX8_serial 18 = .ok (.idiv, 1) := by decide +kernel
theorem dX8_serial_19 : decode cX8_serial 19 = .ok (.iconst 1, 1) := by decide +kernel
theorem dX8_serial_20 : decode cX8_serial 20 = .ok (.isub, 1) := by decide +kernel
theorem dX8_serial_21 : decode cX8_serial 21 = .ok (.goto 4, 3) := by decide +kernel
theorem dX8_serial_24 : decode cX8_serial 24 = .ok (.iconst (-1), 1) := by decide +kernel
theorem dX8_serial_25 : decode cX8_serial 25 = .ok (.ireturn, 1) := by decide +kernel
theorem dX8_living_0 : decode cX8_living 0 = .ok (.aload_n 0, 1) := by decide +kernel
theorem dX8_living_1 : decode cX8_living 1 = .ok (.iload_n 1, 1) := by decide +kernel
theorem dX8_living_2 : decode cX8_living 2 = .ok (.invokevirtual 195, 3) := by decide +kernel
theorem dX8_living_5 : decode cX8_living 5 = .ok (.ifCond .ne 12, 3) := by decide +kernel
theorem dX8_living_8 : decode cX8_living 8 = .ok (.iload_n 1, 1) := by decide +kernel
theorem dX8_living_9 : decode cX8_living 9 = .ok (.bipush 100, 2) := by decide +kernel
theorem dX8_living_11 : decode cX8_living 11 = .ok (.idiv, 1) := by decide +kernel
theorem dX8_living_12 : decode cX8_living 12 = .ok (.iconst 1, 1) := by decide +kernel
theorem dX8_living_13 : decode cX8_living 13 = .ok (.isub, 1) := by decide +kernel
theorem dX8_living_14 : decode cX8_living 14 = .ok (.goto 4, 3) := by decide +kernel
theorem dX8_living_17 : decode cX8_living 17 = .ok (.iconst (-1), 1) := by decide +kernel
theorem dX8_living_18 : decode cX8_living 18 = .ok (.ireturn, 1) := by decide +kernel
theorem dX8_killTickets_0 : decode cX8_killTickets 0 = .ok (.iconst 0, 1) := by decide +kernel
theorem dX8_killTickets_1 : decode cX8_killTickets 1 = .ok (.istore_n 2, 1) := by decide +kernel
theorem dX8_killTickets_2 : decode cX8_killTickets 2 = .ok (.iload_n 2, 1) := by decide +kernel
theorem dX8_killTickets_3 : decode cX8_killTickets 3 = .ok (.aload_n 0, 1) := by decide +kernel
theorem dX8_killTickets_4 : decode cX8_killTickets 4 = .ok (.getfield 117, 3) := by decide +kernel
theorem dX8_killTickets_7 : decode cX8_killTickets 7 = .ok (.if_icmp .ge 32, 3) := by decide +kernel
theorem dX8_killTickets_10 : decode cX8_killTickets 10 = .ok (.aload_n 0, 1) := by decide +kernel
theorem dX8_killTickets_11 : decode cX8_killTickets 11 = .ok (.getfield 48, 3) := by decide +kernel
theorem dX8_killTickets_14 : decode cX8_killTickets 14 = .ok (.iload_n 2, 1) := by decide +kernel
theorem dX8_killTickets_15 : decode cX8_killTickets 15 = .ok (.aaload, 1) := by decide +kernel
theorem dX8_killTickets_16 : decode cX8_killTickets 16 = .ok (.getfield 179, 3) := by decide +kernel
theorem dX8_killTickets_19 : decode cX8_killTickets 19 = .ok (.iload_n 1, 1) := by decide +kernel
theorem dX8_killTickets_20 : decode cX8_killTickets 20 = .ok (.if_icmp .ne 13, 3) := by decide +kernel
theorem dX8_killTickets_23 : decode cX8_killTickets 23 = .ok (.aload_n 0, 1) := by decide +kernel
theorem dX8_killTickets_24 : decode cX8_killTickets 24 = .ok (.getfield 48, 3) := by decide +kernel
theorem dX8_killTickets_27 : decode cX8_killTickets 27 = .ok (.iload_n 2, 1) := by decide +kernel
theorem dX8_killTickets_28 : decode cX8_killTickets 28 = .ok (.aaload, 1) := by decide +kernel
theorem dX8_killTickets_29 : decode cX8_killTickets 29 = .ok (.iconst 0, 1) := by decide +kernel
theorem dX8_killTickets_30 : decode cX8_killTickets 30 = .ok (.putfield 188, 3) := by decide +kernel
theorem dX8_killTickets_33 : decode cX8_killTickets 33 = .ok (.iinc 2 1, 3) := by decide +kernel
theorem dX8_killTickets_36 : decode cX8_killTickets 36 = .ok (.goto (-34), 3) := by decide +kernel
theorem dX8_killTickets_39 : decode cX8_killTickets 39 = .ok (.return_, 1) := by decide +kernel
theorem dX8_leave_0 : decode cX8_leave 0 = .ok (.aload_n 0, 1) := by decide +kernel
theorem dX8_leave_1 : decode cX8_leave 1 = .ok (.getfield 42, 3) := by decide +kernel
theorem dX8_leave_4 : decode cX8_leave 4 = .ok (.iload_n 1, 1) := by decide +kernel
theorem dX8_leave_5 : decode cX8_leave 5 = .ok (.aaload, 1) := by decide +kernel
theorem dX8_leave_6 : decode cX8_leave 6 = .ok (.iload_n 2, 1) := by decide +kernel
theorem dX8_leave_7 : decode cX8_leave 7 = .ok (.putfield 135, 3) := by decide +kernel
theorem dX8_leave_10 : decode cX8_leave 10 = .ok (.aload_n 0, 1) := by decide +kernel
theorem dX8_leave_11 : decode cX8_leave 11 = .ok (.getfield 42, 3) := by decide +kernel
theorem dX8_leave_14 : decode cX8_leave 14 = .ok (.iload_n 1, 1) := by decide +kernel
theorem dX8_leave_15 : decode cX8_leave 15 = .ok (.aaload, 1) := by decide +kernel
theorem dX8_leave_16 : decode cX8_leave 16 = .ok (.iconst (-1), 1) := by decide +kernel
theorem dX8_leave_17 : decode cX8_leave 17 = .ok (.putfield 138, 3) := by decide +kernel
theorem dX8_leave_20 : decode cX8_leave 20 = .ok (.iload_n 2, 1) := by decide +kernel
theorem dX8_leave_21 : decode cX8_leave 21 = .ok (.iconst 1, 1) := by decide +kernel
theorem dX8_leave_22 : decode cX8_leave 22 = .ok (.if_icmp .ne 16, 3) := by decide +kernel
theorem dX8_leave_25 : decode cX8_leave 25 = .ok (.aload_n 0, 1) := by decide +kernel
theorem dX8_leave_26 : decode cX8_leave 26 = .ok (.getfield 42, 3) := by decide +kernel
theorem dX8_leave_29 : decode cX8_leave 29 = .ok (.iload_n 1, 1) := by decide +kernel
theorem dX8_leave_30 : decode cX8_leave 30 = .ok (.aaload, 1) := by decide +kernel
theorem dX8_leave_31 : decode cX8_leave 31 = .ok (.aload_n 0, 1) := by decide +kernel
theorem dX8_leave_32 : decode cX8_leave 32 = .ok (.getfield 81, 3) := by decide +kernel
theorem dX8_leave_35 : decode cX8_leave 35 = .ok (.putfield 198, 3) := by decide +kernel
theorem dX8_leave_38 : decode cX8_leave 38 = .ok (.aload_n 0, 1) := by decide +kernel
theorem dX8_leave_39 : decode cX8_leave 39 = .ok (.iload_n 1, 1) := by decide +kernel
theorem dX8_leave_40 : decode cX8_leave 40 = .ok (.invokevirtual 201, 3) := by decide +kernel
theorem dX8_leave_43 : decode cX8_leave 43 = .ok (.return_, 1) := by decide +kernel
theorem dX8_enter_0 : decode cX8_enter 0 = .ok (.aload_n 0, 1) := by decide +kernel
theorem dX8_enter_1 : decode cX8_enter 1 = .ok (.getfield 57, 3) := by decide +kernel
theorem dX8_enter_4 : decode cX8_enter 4 = .ok (.iload_n 1, 1) := by decide +kernel
theorem dX8_enter_5 : decode cX8_enter 5 = .ok (.aaload, 1) := by decide +kernel
theorem dX8_enter_6 : decode cX8_enter 6 = .ok (.aload_n 0, 1) := by decide +kernel
theorem dX8_enter_7 : decode cX8_enter 7 = .ok (.getfield 81, 3) := by decide +kernel
theorem dX8_enter_10 : decode cX8_enter 10 = .ok (.dup2, 1) := by decide +kernel
theorem dX8_enter_11 : decode cX8_enter 11 = .ok (.iaload, 1) := by decide +kernel
theorem dX8_enter_12 : decode cX8_enter 12 = .ok (.iload_n 2, 1) := by decide +kernel
theorem dX8_enter_13 : decode cX8_enter 13 = .ok (.iadd, 1) := by decide +kernel
theorem dX8_enter_14 : decode cX8_enter 14 = .ok (.iastore, 1) := by decide +kernel
theorem dX8_enter_15 : decode cX8_enter 15 = .ok (.return_, 1) := by decide +kernel
theorem dX8_lentLessBack_0 : decode cX8_lentLessBack 0 = .ok (.aload_n 0, 1) := by decide +kernel
theorem dX8_lentLessBack_1 : decode cX8_lentLessBack 1 = .ok (.getfield 57, 3) := by decide +kernel
theorem dX8_lentLessBack_4 : decode cX8_lentLessBack 4 = .ok (.iconst 0, 1) := by decide +kernel
theorem dX8_lentLessBack_5 : decode cX8_lentLessBack 5 = .ok (.aaload, 1) := by decide +kernel
theorem dX8_lentLessBack_6 : decode cX8_lentLessBack 6 = .ok (.iload_n 1, 1) := by decide +kernel
theorem dX8_lentLessBack_7 : decode cX8_lentLessBack 7 = .ok (.iaload, 1) := by decide +kernel
theorem dX8_lentLessBack_8 : decode cX8_lentLessBack 8 = .ok (.aload_n 0, 1) := by decide +kernel
theorem dX8_lentLessBack_9 : decode cX8_lentLessBack 9 = .ok (.getfield 57, 3) := by decide +kernel
theorem dX8_lentLessBack_12 : decode cX8_lentLessBack 12 = .ok (.iconst 5, 1) := by decide +kernel
theorem dX8_lentLessBack_13 : decode cX8_lentLessBack 13 = .ok (.aaload, 1) := by decide +kernel
theorem dX8_lentLessBack_14 : decode cX8_lentLessBack 14 = .ok (.iload_n 1, 1) := by decide +kernel
theorem dX8_lentLessBack_15 : decode cX8_lentLessBack 15 = .ok (.iaload, 1) := by decide +kernel
theorem dX8_lentLessBack_16 : decode cX8_lentLessBack 16 = .ok (.isub, 1) := by decide +kernel
theorem dX8_lentLessBack_17 : decode cX8_lentLessBack 17 = .ok (.ireturn, 1) := by decide +kernel
theorem dX8_interestOf_0 : decode cX8_interestOf 0 = .ok (.aload_n 0, 1) := by decide +kernel
theorem dX8_interestOf_1 : decode cX8_interestOf 1 = .ok (.getfield 12, 3) := by decide +kernel
theorem dX8_interestOf_4 : decode cX8_interestOf 4 = .ok (.aload_n 1, 1) := by decide +kernel
theorem dX8_interestOf_5 : decode cX8_interestOf 5 = .ok (.getfield 205, 3) := by decide +kernel
theorem dX8_interestOf_8 : decode cX8_interestOf 8 = .ok (.aload_n 1, 1) := by decide +kernel
theorem dX8_interestOf_9 : decode cX8_interestOf 9 = .ok (.getfield 208, 3) := by decide +kernel
theorem dX8_interestOf_12 : decode cX8_interestOf 12 = .ok (.aload_n 0, 1) := by decide +kernel
theorem dX8_interestOf_13 : decode cX8_interestOf 13 = .ok (.getfield 81, 3) := by decide +kernel
theorem dX8_interestOf_16 : decode cX8_interestOf 16 = .ok (.invokestatic 209, 3) := by decide +kernel
theorem dX8_interestOf_19 : decode cX8_interestOf 19 = .ok (.invokevirtual 212, 3) := by decide +kernel
theorem dX8_interestOf_22 : decode cX8_interestOf 22 = .ok (.ireturn, 1) := by decide +kernel
theorem dX8_due_0 : decode cX8_due 0 = .ok (.iconst 2, 1) := by decide +kernel
theorem dX8_due_1 : decode cX8_due 1 = .ok (.aload_n 1, 1) := by decide +kernel
theorem dX8_due_2 : decode cX8_due 2 = .ok (.getfield 205, 3) := by decide +kernel
theorem dX8_due_5 : decode cX8_due 5 = .ok (.imul, 1) := by decide +kernel
theorem dX8_due_6 : decode cX8_due 6 = .ok (.aload_n 0, 1) := by decide +kernel
theorem dX8_due_7 : decode cX8_due 7 = .ok (.aload_n 1, 1) := by decide +kernel
theorem dX8_due_8 : decode cX8_due 8 = .ok (.invokevirtual 215, 3) := by decide +kernel
theorem dX8_due_11 : decode cX8_due 11 = .ok (.iadd, 1) := by decide +kernel
theorem dX8_due_12 : decode cX8_due 12 = .ok (.ireturn, 1) := by decide +kernel
theorem dX8_isHeld_0 : decode cX8_isHeld 0 = .ok (.aload_n 0, 1) := by decide +kernel
theorem dX8_isHeld_1 : decode cX8_isHeld 1 = .ok (.getfield 81, 3) := by decide +kernel
theorem dX8_isHeld_4 : decode cX8_isHeld 4 = .ok (.aload_n 1, 1) := by decide +kernel
theorem dX8_isHeld_5 : decode cX8_isHeld 5 = .ok (.getfield 219, 3) := by decide +kernel
theorem dX8_isHeld_8 : decode cX8_isHeld 8 = .ok (.if_icmp .ge 7, 3) := by decide +kernel
theorem dX8_isHeld_11 : decode cX8_isHeld 11 = .ok (.iconst 1, 1) := by decide +kernel
theorem dX8_isHeld_12 : decode cX8_isHeld 12 = .ok (.goto 4, 3) := by decide +kernel
theorem dX8_isHeld_15 : decode cX8_isHeld 15 = .ok (.iconst 0, 1) := by decide +kernel
theorem dX8_isHeld_16 : decode cX8_isHeld 16 = .ok (.ireturn, 1) := by decide +kernel
theorem dX8_isPassed_0 : decode cX8_isPassed 0 = .ok (.aload_n 0, 1) := by decide +kernel
theorem dX8_isPassed_1 : decode cX8_isPassed 1 = .ok (.iload_n 1, 1) := by decide +kernel
theorem dX8_isPassed_2 : decode cX8_isPassed 2 = .ok (.invokevirtual 222, 3) := by decide +kernel
theorem dX8_isPassed_5 : decode cX8_isPassed 5 = .ok (.ifCond .eq 45, 3) := by decide +kernel
theorem dX8_isPassed_8 : decode cX8_isPassed 8 = .ok (.aload_n 0, 1) := by decide +kernel
theorem dX8_isPassed_9 : decode cX8_isPassed 9 = .ok (.getfield 42, 3) := by decide +kernel
theorem dX8_isPassed_12 : decode cX8_isPassed 12 = .ok (.iload_n 1, 1) := by decide +kernel
theorem dX8_isPassed_13 : decode cX8_isPassed 13 = .ok (.aaload, 1) := by decide +kernel
theorem dX8_isPassed_14 : decode cX8_isPassed 14 = .ok (.getfield 135, 3) := by decide +kernel
theorem dX8_isPassed_17 : decode cX8_isPassed 17 = .ok (.ifCond .ne 33, 3) := by decide +kernel
theorem dX8_isPassed_20 : decode cX8_isPassed 20 = .ok (.aload_n 0, 1) := by decide +kernel
theorem dX8_isPassed_21 : decode cX8_isPassed 21 = .ok (.getfield 81, 3) := by decide +kernel
theorem dX8_isPassed_24 : decode cX8_isPassed 24 = .ok (.aload_n 0, 1) := by decide +kernel
theorem dX8_isPassed_25 : decode cX8_isPassed 25 = .ok (.getfield 42, 3) := by decide +kernel
theorem dX8_isPassed_28 : decode cX8_isPassed 28 = .ok (.iload_n 1, 1) := by decide +kernel
theorem dX8_isPassed_29 : decode cX8_isPassed 29 = .ok (.aaload, 1) := by decide +kernel
theorem dX8_isPassed_30 : decode cX8_isPassed 30 = .ok (.getfield 208, 3) := by decide +kernel
theorem dX8_isPassed_33 : decode cX8_isPassed 33 = .ok (.isub, 1) := by decide +kernel
theorem dX8_isPassed_34 : decode cX8_isPassed 34 = .ok (.aload_n 0, 1) := by decide +kernel
theorem dX8_isPassed_35 : decode cX8_isPassed 35 = .ok (.getfield 12, 3) := by decide +kernel
theorem dX8_isPassed_38 : decode cX8_isPassed 38 = .ok (.getfield 167, 3) := by decide +kernel
theorem dX8_isPassed_41 : decode cX8_isPassed 41 = .ok (.iconst 3, 1) := by decide +kernel
theorem dX8_isPassed_42 : decode cX8_isPassed 42 = .ok (.iaload, 1) := by decide +kernel
theorem dX8_isPassed_43 : decode cX8_isPassed 43 = .ok (.if_icmp .lt 7, 3) := by decide +kernel
theorem dX8_isPassed_46 : decode cX8_isPassed 46 = .ok (.iconst 1, 1) := by decide +kernel
theorem dX8_isPassed_47 : decode cX8_isPassed 47 = .ok (.goto 4, 3) := by decide +kernel
theorem dX8_isPassed_50 : decode cX8_isPassed 50 = .ok (.iconst 0, 1) := by decide +kernel
theorem dX8_isPassed_51 : decode cX8_isPassed 51 = .ok (.ireturn, 1) := by decide +kernel
theorem dX8_mothedLow_0 : decode cX8_mothedLow 0 = .ok (.aload_n 0, 1) := by decide +kernel
theorem dX8_mothedLow_1 : decode cX8_mothedLow 1 = .ok (.getfield 30, 3) := by decide +kernel
theorem dX8_mothedLow_4 : decode cX8_mothedLow 4 = .ok (.aload_n 1, 1) := by decide +kernel
theorem dX8_mothedLow_5 : decode cX8_mothedLow 5 = .ok (.getfield 141, 3) := by decide +kernel
theorem dX8_mothedLow_8 : decode cX8_mothedLow 8 = .ok (.aaload, 1) := by decide +kernel
theorem dX8_mothedLow_9 : decode cX8_mothedLow 9 = .ok (.getfield 225, 3) := by decide +kernel
theorem dX8_mothedLow_12 : decode cX8_mothedLow 12 = .ok (.aload_n 0, 1) := by decide +kernel
theorem dX8_mothedLow_13 : decode cX8_mothedLow 13 = .ok (.aload_n 1, 1) := by decide +kernel
theorem dX8_mothedLow_14 : decode cX8_mothedLow 14 = .ok (.invokevirtual 228, 3) := by decide +kernel
theorem dX8_mothedLow_17 : decode cX8_mothedLow 17 = .ok (.imul, 1) := by decide +kernel
theorem dX8_mothedLow_18 : decode cX8_mothedLow 18 = .ok (.bipush 100, 2) := by decide +kernel
theorem dX8_mothedLow_20 : decode cX8_mothedLow 20 = .ok (.idiv, 1) := by decide +kernel
theorem dX8_mothedLow_21 : decode cX8_mothedLow 21 = .ok (.ireturn, 1) := by decide +kernel
theorem dX8_mothedHigh_0 : decode cX8_mothedHigh 0 = .ok (.aload_n 0, 1) := by decide +kernel
theorem dX8_mothedHigh_1 : decode cX8_mothedHigh 1 = .ok (.getfield 30, 3) := by decide +kernel
theorem dX8_mothedHigh_4 : decode cX8_mothedHigh 4 = .ok (.aload_n 1, 1) := by decide +kernel
theorem dX8_mothedHigh_5 : decode cX8_mothedHigh 5 = .ok (.getfield 141, 3) := by decide +kernel
theorem dX8_mothedHigh_8 : decode cX8_mothedHigh 8 = .ok (.aaload, 1) := by decide +kernel
theorem dX8_mothedHigh_9 : decode cX8_mothedHigh 9 = .ok (.getfield 231, 3) := by decide +kernel
theorem dX8_mothedHigh_12 : decode cX8_mothedHigh 12 = .ok (.aload_n 0, 1) := by decide +kernel
theorem dX8_mothedHigh_13 : decode cX8_mothedHigh 13 = .ok (.aload_n 1, 1) := by decide +kernel
theorem dX8_mothedHigh_14 : decode cX8_mothedHigh 14 = .ok (.invokevirtual 228, 3) := by decide +kernel
theorem dX8_mothedHigh_17 : decode cX8_mothedHigh 17 = .ok (.imul, 1) := by decide +kernel
theorem dX8_mothedHigh_18 : decode cX8_mothedHigh 18 = .ok (.bipush 100, 2) := by decide +kernel
theorem dX8_mothedHigh_20 : decode cX8_mothedHigh 20 = .ok (.idiv, 1) := by decide +kernel
theorem dX8_mothedHigh_21 : decode cX8_mothedHigh 21 = .ok (.ireturn, 1) := by decide +kernel
theorem dX8_hundredthsLeft_0 : decode cX8_hundredthsLeft 0 = .ok (.aload_n 0, 1) := by decide +kernel
theorem dX8_hundredthsLeft_1 : decode cX8_hundredthsLeft 1 = .ok (.getfield 30, 3) := by decide +kernel
theorem dX8_hundredthsLeft_4 : decode cX8_hundredthsLeft 4 = .ok (.aload_n 1, 1) := by decide +kernel
theorem dX8_hundredthsLeft_5 : decode cX8_hundredthsLeft 5 = .ok (.getfield 141, 3) := by decide +kernel
theorem dX8_hundredthsLeft_8 : decode cX8_hundredthsLeft 8 = .ok (.aaload, 1) := by decide +kernel
theorem dX8_hundredthsLeft_9 : decode cX8_hundredthsLeft 9 = .ok (.getfield 234, 3) := by decide +kernel
theorem dX8_hundredthsLeft_12 : decode cX8_hundredthsLeft 12 = .ok (.ifCond .ne 6, 3) := by decide +kernel
theorem dX8_hundredthsLeft_15 : decode cX8_hundredthsLeft 15 = .ok (.bipush 100, 2) := by decide +kernel
theorem dX8_hundredthsLeft_17 : decode cX8_hundredthsLeft 17 = .ok (.ireturn, 1) := by decide +kernel
theorem dX8_hundredthsLeft_18 : decode cX8_hundredthsLeft 18 = .ok (.iconst 0, 1) := by decide +kernel
theorem dX8_hundredthsLeft_19 : decode cX8_hundredthsLeft 19 = .ok (.bipush 100, 2) := by decide +kernel
theorem dX8_hundredthsLeft_21 : decode cX8_hundredthsLeft 21 = .ok (.aload_n 0, 1) := by decide +kernel
theorem dX8_hundredthsLeft_22 : decode cX8_hundredthsLeft 22 = .ok (.getfield 12, 3) := by decide +kernel
theorem dX8_hundredthsLeft_25 : decode cX8_hundredthsLeft 25 = .ok (.getfield 167, 3) := by decide +kernel
theorem dX8_hundredthsLeft_28 : decode cX8_hundredthsLeft 28 = .ok (.iconst 4, 1) := by decide +kernel
theorem dX8_hundredthsLeft_29 : decode cX8_hundredthsLeft 29 = .ok (.iaload, 1) := by decide +kernel
theorem dX8_hundredthsLeft_30 : decode cX8_hundredthsLeft 30 = .ok (.aload_n 0, 1) := by decide +kernel
theorem dX8_hundredthsLeft_31 : decode cX8_hundredthsLeft 31 = .ok (.getfield 81, 3) := by decide +kernel
theorem dX8_hundredthsLeft_34 : decode cX8_hundredthsLeft 34 = .ok (.aload_n 1, 1) := by decide +kernel
theorem dX8_hundredthsLeft_35 : decode cX8_hundredthsLeft 35 = .ok (.getfield 208, 3) := by decide +kernel
theorem dX8_hundredthsLeft_38 : decode cX8_hundredthsLeft 38 = .ok (.isub, 1) := by decide +kernel
theorem dX8_hundredthsLeft_39 : decode cX8_hundredthsLeft 39 = .ok (.bipush 10, 2) := by decide +kernel
theorem dX8_hundredthsLeft_41 : decode cX8_hundredthsLeft 41 = .ok (.idiv, 1) := by decide +kernel
theorem dX8_hundredthsLeft_42 : decode cX8_hundredthsLeft 42 = .ok (.imul, 1) := by decide +kernel
theorem dX8_hundredthsLeft_43 : decode cX8_hundredthsLeft 43 = .ok (.isub, 1) := by decide +kernel
theorem dX8_hundredthsLeft_44 : decode cX8_hundredthsLeft 44 = .ok (.invokestatic 237, 3) := by decide +kernel
theorem dX8_hundredthsLeft_47 : decode cX8_hundredthsLeft 47 = .ok (.ireturn, 1) := by decide +kernel
theorem dX8_fitsLook_0 : decode cX8_fitsLook 0 = .ok (.aload_n 0, 1) := by decide +kernel
theorem dX8_fitsLook_1 : decode cX8_fitsLook 1 = .ok (.getfield 42, 3) := by decide +kernel
theorem dX8_fitsLook_4 : decode cX8_fitsLook 4 = .ok (.iload_n 2, 1) := by decide +kernel
theorem dX8_fitsLook_5 : decode cX8_fitsLook 5 = .ok (.aaload, 1) := by decide +kernel
theorem dX8_fitsLook_6 : decode cX8_fitsLook 6 = .ok (.astore_n 3, 1) := by decide +kernel
theorem dX8_fitsLook_7 : decode cX8_fitsLook 7 = .ok (.aload_n 3, 1) := by decide +kernel
theorem dX8_fitsLook_8 : decode cX8_fitsLook 8 = .ok (.getfield 135, 3) := by decide +kernel
theorem dX8_fitsLook_11 : decode cX8_fitsLook 11 = .ok (.ifCond .ne 28, 3) := by decide +kernel
theorem dX8_fitsLook_14 : decode cX8_fitsLook 14 = .ok (.aload_n 0, 1) := by decide +kernel
theorem dX8_fitsLook_15 : decode cX8_fitsLook 15 = .ok (.getfield 24, 3) := by decide +kernel
theorem dX8_fitsLook_18 : decode cX8_fitsLook 18 = .ok (.iload_n 1, 1) := by decide +kernel
theorem dX8_fitsLook_19 : decode cX8_fitsLook 19 = .ok (.aload_n 3, 1) := by decide +kernel
theorem dX8_fitsLook_20 : decode cX8_fitsLook 20 = .ok (.aload_n 0, 1) := by decide +kernel
theorem dX8_fitsLook_21 : decode cX8_fitsLook 21 = .ok (.getfield 30, 3) := by decide +kernel
theorem dX8_fitsLook_24 : decode cX8_fitsLook 24 = .ok (.aload_n 3, 1) := by decide +kernel
theorem dX8_fitsLook_25 : decode cX8_fitsLook 25 = .ok (.getfield 141, 3) := by decide +kernel
theorem dX8_fitsLook_28 : decode cX8_fitsLook 28 = .ok (.aaload, 1) := by decide +kernel
theorem dX8_fitsLook_29 : decode cX8_fitsLook 29 = .ok (.invokevirtual 242, 3) := by decide +kernel
theorem dX8_fitsLook_32 : decode cX8_fitsLook 32 = .ok (.ifCond .eq 7, 3) := by decide +kernel
theorem dX8_fitsLook_35 : decode cX8_fitsLook 35 = .ok (.iconst 1, 1) := by decide +kernel
theorem dX8_fitsLook_36 : decode cX8_fitsLook 36 = .ok (.goto 4, 3) := by decide +kernel
theorem dX8_fitsLook_39 : decode cX8_fitsLook 39 = .ok (.iconst 0, 1) := by decide +kernel
theorem dX8_fitsLook_40 : decode cX8_fitsLook 40 = .ok (.ireturn, 1) := by decide +kernel
theorem dX8_savedThere_0 : decode cX8_savedThere 0 = .ok (.aload_n 0, 1) := by decide +kernel
theorem dX8_savedThere_1 : decode cX8_savedThere 1 = .ok (.getfield 42, 3) := by decide +kernel
theorem dX8_savedThere_4 : decode cX8_savedThere 4 = .ok (.iload_n 2, 1) := by decide +kernel
theorem dX8_savedThere_5 : decode cX8_savedThere 5 = .ok (.aaload, 1) := by decide +kernel
theorem dX8_savedThere_6 : decode cX8_savedThere 6 = .ok (.astore_n 3, 1) := by decide +kernel
theorem dX8_savedThere_7 : decode cX8_savedThere 7 = .ok (.aload_n 3, 1) := by decide +kernel
theorem dX8_savedThere_8 : decode cX8_savedThere 8 = .ok (.getfield 246, 3) := by decide +kernel
theorem dX8_savedThere_11 : decode cX8_savedThere 11 = .ok (.iload_n 1, 1) := by decide +kernel
theorem dX8_savedThere_12 : decode cX8_savedThere 12 = .ok (.if_icmp .ne 24, 3) := by decide +kernel
theorem dX8_savedThere_15 : decode cX8_savedThere 15 = .ok (.aload_n 3, 1) := by decide +kernel
theorem dX8_savedThere_16 : decode cX8_savedThere 16 = .ok (.getfield 135, 3) := by decide +kernel
theorem dX8_savedThere_19 : decode cX8_savedThere 19 = .ok (.ifCond .ne 17, 3) := by decide +kernel
theorem dX8_savedThere_22 : decode cX8_savedThere 22 = .ok (.aload_n 0, 1) := by decide +kernel
theorem dX8_savedThere_23 : decode cX8_savedThere 23 = .ok (.getfield 18, 3) := by decide +kernel
theorem dX8_savedThere_26 : decode cX8_savedThere 26 = .ok (.aload_n 3, 1) := by decide +kernel
theorem dX8_savedThere_27 : decode cX8_savedThere 27 = .ok (.getfield 205, 3) := by decide +kernel
theorem dX8_savedThere_30 : decode cX8_savedThere 30 = .ok (.invokevirtual 157, 3) := by decide +kernel
theorem dX8_savedThere_33 : decode cX8_savedThere 33 = .ok (.ifCond .ne 5, 3) := by decide +kernel
theorem dX8_savedThere_36 : decode cX8_savedThere 36 = .ok (.iconst 0, 1) := by decide +kernel
theorem dX8_savedThere_37 : decode cX8_savedThere 37 = .ok (.ireturn, 1) := by decide +kernel
theorem dX8_savedThere_38 : decode cX8_savedThere 38 = .ok (.aload_n 0, 1) := by decide +kernel
theorem dX8_savedThere_39 : decode cX8_savedThere 39 = .ok (.aload_n 3, 1) := by decide +kernel
theorem dX8_savedThere_40 : decode cX8_savedThere 40 = .ok (.invokevirtual 215, 3) := by decide +kernel
theorem dX8_savedThere_43 : decode cX8_savedThere 43 = .ok (.aload_n 0, 1) := by decide +kernel
theorem dX8_savedThere_44 : decode cX8_savedThere 44 = .ok (.getfield 18, 3) := by decide +kernel
theorem dX8_savedThere_47 : decode cX8_savedThere 47 = .ok (.aload_n 3, 1) := by decide +kernel
theorem dX8_savedThere_48 : decode cX8_savedThere 48 = .ok (.getfield 205, 3) := by decide +kernel
theorem dX8_savedThere_51 : decode cX8_savedThere 51 = .ok (.aload_n 3, 1) := by decide +kernel
theorem dX8_savedThere_52 : decode cX8_savedThere 52 = .ok (.getfield 208, 3) := by decide +kernel
theorem dX8_savedThere_55 : decode cX8_savedThere 55 = .ok (.aload_n 0, 1) := by decide +kernel
theorem dX8_savedThere_56 : decode cX8_savedThere 56 = .ok (.getfield 81, 3) := by decide +kernel
theorem dX8_savedThere_59 : decode cX8_savedThere 59 = .ok (.invokestatic 209, 3) := by decide +kernel
theorem dX8_savedThere_62 : decode cX8_savedThere 62 = .ok (.invokevirtual 212, 3) := by decide +kernel
theorem dX8_savedThere_65 : decode cX8_savedThere 65 = .ok (.isub, 1) := by decide +kernel
theorem dX8_savedThere_66 : decode cX8_savedThere 66 = .ok (.ireturn, 1) := by decide +kernel
theorem dX8_sinkingWeek_0 : decode cX8_sinkingWeek 0 = .ok (.aload_n 0, 1) := by decide +kernel
theorem dX8_sinkingWeek_1 : decode cX8_sinkingWeek 1 = .ok (.getfield 36, 3) := by decide +kernel
theorem dX8_sinkingWeek_4 : decode cX8_sinkingWeek 4 = .ok (.iload_n 1, 1) := by decide +kernel
theorem dX8_sinkingWeek_5 : decode cX8_sinkingWeek 5 = .ok (.aaload, 1) := by decide +kernel
theorem dX8_sinkingWeek_6 : decode cX8_sinkingWeek 6 = .ok (.astore 5, 2) := by decide +kernel
theorem dX8_sinkingWeek_8 : decode cX8_sinkingWeek 8 = .ok (.aload 5, 2) := by decide +kernel
theorem dX8_sinkingWeek_10 : decode cX8_sinkingWeek 10 = .ok (.getfield 164, 3) := by decide +kernel
theorem dX8_sinkingWeek_13 : decode cX8_sinkingWeek 13 = .ok (.iconst 2, 1) := by decide +kernel
theorem dX8_sinkingWeek_14 : decode cX8_sinkingWeek 14 = .ok (.iload 4, 2) := by decide +kernel
theorem dX8_sinkingWeek_16 : decode cX8_sinkingWeek 16 = .ok (.imul, 1) := by decide +kernel
theorem dX8_sinkingWeek_17 : decode cX8_sinkingWeek 17 = .ok (.iadd, 1) := by decide +kernel
theorem dX8_sinkingWeek_18 : decode cX8_sinkingWeek 18 = .ok (.istore 6, 2) := by decide +kernel
theorem dX8_sinkingWeek_20 : decode cX8_sinkingWeek 20 = .ok (.iconst 2, 1) := by decide +kernel
theorem dX8_sinkingWeek_21 : decode cX8_sinkingWeek 21 = .ok (.aload 5, 2) := by decide +kernel
theorem dX8_sinkingWeek_23 : decode cX8_sinkingWeek 23 = .ok (.getfield 249, 3) := by decide +kernel
theorem dX8_sinkingWeek_26 : decode cX8_sinkingWeek 26 = .ok (.aload 5, 2) := by decide +kernel
theorem dX8_sinkingWeek_28 : decode cX8_sinkingWeek 28 = .ok (.getfield 252, 3) := by decide +kernel
theorem dX8_sinkingWeek_31 : decode cX8_sinkingWeek 31 = .ok (.isub, 1) := by decide +kernel
theorem dX8_sinkingWeek_32 : decode cX8_sinkingWeek 32 = .ok (.aload 5, 2) := by decide +kernel
theorem dX8_sinkingWeek_34 : decode cX8_sinkingWeek 34 = .ok (.getfield 255, 3) := by decide +kernel
theorem dX8_sinkingWeek_37 : decode cX8_sinkingWeek 37 = .ok (.isub, 1) := by decide +kernel
theorem dX8_sinkingWeek_38 : decode cX8_sinkingWeek 38 = .ok (.imul, 1) := by decide +kernel
theorem dX8_sinkingWeek_39 : decode cX8_sinkingWeek 39 = .ok (.istore 7, 2) := by decide +kernel
theorem dX8_sinkingWeek_41 : decode cX8_sinkingWeek 41 = .ok (.aload_n 0, 1) := by decide +kernel
theorem dX8_sinkingWeek_42 : decode cX8_sinkingWeek 42 = .ok (.getfield 12, 3) := by decide +kernel
theorem dX8_sinkingWeek_45 : decode cX8_sinkingWeek 45 = .ok (.iload_n 2, 1) := by decide +kernel
theorem dX8_sinkingWeek_46 : decode cX8_sinkingWeek 46 = .ok (.invokevirtual 258, 3) := by decide +kernel
theorem dX8_sinkingWeek_49 : decode cX8_sinkingWeek 49 = .ok (.istore 8, 2) := by decide +kernel
theorem dX8_sinkingWeek_51 : decode cX8_sinkingWeek 51 = .ok (.iconst (-1), 1) := by decide +kernel
theorem dX8_sinkingWeek_52 : decode cX8_sinkingWeek 52 = .ok (.istore 9, 2) := by decide +kernel
theorem dX8_sinkingWeek_54 : decode cX8_sinkingWeek 54 = .ok (.iconst 0, 1) := by decide +kernel
theorem dX8_sinkingWeek_55 : decode cX8_sinkingWeek 55 = .ok (.istore 10, 2) := by decide +kernel
theorem dX8_sinkingWeek_57 : decode cX8_sinkingWeek 57 = .ok (.iload 10, 2) := by decide +kernel
theorem dX8_sinkingWeek_59 : decode cX8_sinkingWeek 59 = .ok (.iload_n 3, 1) := by decide +kernel
theorem dX8_sinkingWeek_60 : decode cX8_sinkingWeek 60 = .ok (.if_icmp .ge 108, 3) := by decide +kernel
theorem dX8_sinkingWeek_63 : decode cX8_sinkingWeek 63 = .ok (.iload 9, 2) := by decide +kernel
theorem dX8_sinkingWeek_65 : decode cX8_sinkingWeek 65 = .ok (.iconst (-1), 1) := by decide +kernel
theorem dX8_sinkingWeek_66 : decode cX8_sinkingWeek 66 = .ok (.if_icmp .eq 48, 3) := by decide +kernel
theorem dX8_sinkingWeek_69 : decode cX8_sinkingWeek 69 = .ok (.iconst 2, 1) := by decide +kernel
theorem dX8_sinkingWeek_70 : decode cX8_sinkingWeek 70 = .ok (.iload_n 2, 1) := by decide +kernel
theorem dX8_sinkingWeek_71 : decode cX8_sinkingWeek 71 = .ok (.imul, 1) := by decide +kernel
theorem dX8_sinkingWeek_72 : decode cX8_sinkingWeek 72 = .ok (.aload_n 0, 1) := by decide +kernel
theorem dX8_sinkingWeek_73 : decode cX8_sinkingWeek 73 = .ok (.getfield 12, 3) := by decide +kernel
theorem dX8_sinkingWeek_76 : decode cX8_sinkingWeek 76 = .ok (.getfield 167, 3) := by decide +kernel
theorem dX8_sinkingWeek_79 : decode cX8_sinkingWeek 79 = .ok (.iconst 0, 1) := by decide +kernel
theorem dX8_sinkingWeek_80 : decode cX8_sinkingWeek 80 = .ok (.iaload, 1) := by decide +kernel
theorem dX8_sinkingWeek_81 : decode cX8_sinkingWeek 81 = .ok (.iload 9, 2) := by decide +kernel
theorem dX8_sinkingWeek_83 : decode cX8_sinkingWeek 83 = .ok (.iload 10, 2) := by decide +kernel
theorem dX8_sinkingWeek_85 : decode cX8_sinkingWeek 85 = .ok (.invokestatic 209, 3) := by decide +kernel
theorem dX8_sinkingWeek_88 : decode cX8_sinkingWeek 88 = .ok (.iload 8, 2) := by decide +kernel
theorem dX8_sinkingWeek_90 : decode cX8_sinkingWeek 90 = .ok (.imul, 1) := by decide +kernel
theorem dX8_sinkingWeek_91 : decode cX8_sinkingWeek 91 = .ok (.invokestatic 237, 3) := by decide +kernel
theorem dX8_sinkingWeek_94 : decode cX8_sinkingWeek 94 = .ok (.iadd, 1) := by decide +kernel
theorem dX8_sinkingWeek_95 : decode cX8_sinkingWeek 95 = .ok (.istore 11, 2) := by decide +kernel
theorem dX8_sinkingWeek_97 : decode cX8_sinkingWeek 97 = .ok (.iload 6, 2) := by decide +kernel
theorem dX8_sinkingWeek_99 : decode cX8_sinkingWeek 99 = .ok (.iload 11, 2) := by decide +kernel
theorem dX8_sinkingWeek_101 : decode cX8_sinkingWeek 101 = .ok (.if_icmp .lt 13, 3) := by decide +kernel
theorem dX8_sinkingWeek_104 : decode cX8_sinkingWeek 104 = .ok (.iload 6, 2) := by decide +kernel
theorem dX8_sinkingWeek_106 : decode cX8_sinkingWeek 106 = .ok (.iload 11, 2) := by decide +kernel
theorem dX8_sinkingWeek_108 : decode cX8_sinkingWeek 108 = .ok (.isub, 1) := by decide +kernel
theorem dX8_sinkingWeek_109 : decode cX8_sinkingWeek 109 = .ok (.istore 6, 2) := by decide +kernel
theorem dX8_sinkingWeek_111 : decode cX8_sinkingWeek 111 = .ok (.iconst (-1), 1) := by decide +kernel
theorem dX8_sinkingWeek_112 : decode cX8_sinkingWeek 112 = .ok (.istore 9, 2) := by decide +kernel
theorem dX8_sinkingWeek_114 : decode cX8_sinkingWeek 114 = .ok (.iload 6, 2) := by decide +kernel
theorem dX8_sinkingWeek_116 : decode cX8_sinkingWeek 116 = .ok (.iload 7, 2) := by decide +kernel
theorem dX8_sinkingWeek_118 : decode cX8_sinkingWeek 118 = .ok (.iadd, 1) := by decide +kernel
theorem dX8_sinkingWeek_119 : decode cX8_sinkingWeek 119 = .ok (.istore 6, 2) := by decide +kernel
theorem dX8_sinkingWeek_121 : decode cX8_sinkingWeek 121 = .ok (.iload 9, 2) := by decide +kernel
theorem dX8_sinkingWeek_123 : decode cX8_sinkingWeek 123 = .ok (.iconst (-1), 1) := by decide +kernel
theorem dX8_sinkingWeek_124 : decode cX8_sinkingWeek 124 = .ok (.if_icmp .ne 30, 3) := by decide +kernel
theorem dX8_sinkingWeek_127 : decode cX8_sinkingWeek 127 = .ok (.iload 6, 2) := by decide +kernel
theorem dX8_sinkingWeek_129 : decode cX8_sinkingWeek 129 = .ok (.ifCond .ge 25, 3) := by decide +kernel
theorem dX8_sinkingWeek_132 : decode cX8_sinkingWeek 132 = .ok (.iload 6, 2) := by decide +kernel
theorem dX8_sinkingWeek_134 : decode cX8_sinkingWeek 134 = .ok (.iconst 2, 1) := by decide +kernel
theorem dX8_sinkingWeek_135 : decode cX8_sinkingWeek 135 = .ok (.iload_n 2, 1) := by decide +kernel
theorem dX8_sinkingWeek_136 : decode cX8_sinkingWeek 136 = .ok (.imul, 1) := by decide +kernel
theorem dX8_sinkingWeek_137 : decode cX8_sinkingWeek 137 = .ok (.aload_n 0, 1) := by decide +kernel
theorem dX8_sinkingWeek_138 : decode cX8_sinkingWeek 138 = .ok (.getfield 12, 3) := by decide +kernel
theorem dX8_sinkingWeek_141 : decode cX8_sinkingWeek 141 = .ok (.getfield 167, 3) := by decide +kernel
theorem dX8_sinkingWeek_144 : decode cX8_sinkingWeek 144 = .ok (.iconst 1, 1) := by decide +kernel
theorem dX8_sinkingWeek_145 : decode cX8_sinkingWeek 145 = .ok (.iaload, 1) := by decide +kernel
theorem dX8_sinkingWeek_146 : decode cX8_sinkingWeek 146 = .ok (.isub, 1) := by decide +kernel
theorem dX8_sinkingWeek_147 : decode cX8_sinkingWeek 147 = .ok (.iadd, 1) := by decide +kernel
theorem dX8_sinkingWeek_148 : decode cX8_sinkingWeek 148 = .ok (.istore 6, 2) := by decide +kernel
theorem dX8_sinkingWeek_150 : decode cX8_sinkingWeek 150 = .ok (.iload 10, 2) := by decide +kernel
theorem dX8_sinkingWeek_152 : decode cX8_sinkingWeek 152 = .ok (.istore 9, 2) := by decide +kernel
theorem dX8_sinkingWeek_154 : decode cX8_sinkingWeek 154 = .ok (.iload 6, 2) := by decide +kernel
theorem dX8_sinkingWeek_156 : decode cX8_sinkingWeek 156 = .ok (.ifCond .ge 6, 3) := by decide +kernel
theorem dX8_sinkingWeek_159 : decode cX8_sinkingWeek 159 = .ok (.iload 10, 2) := by decide +kernel
theorem dX8_sinkingWeek_161 : decode cX8_sinkingWeek 161 = .ok (.ireturn, 1) := by decide +kernel
theorem dX8_sinkingWeek_162 : decode cX8_sinkingWeek 162 = .ok (.iinc 10 1, 3) := by decide +kernel
theorem dX8_sinkingWeek_165 : decode cX8_sinkingWeek 165 = .ok (.goto (-108), 3) := by decide +kernel
theorem dX8_sinkingWeek_168 : decode cX8_sinkingWeek 168 = .ok (.iconst (-1), 1) := by decide +kernel
theorem dX8_sinkingWeek_169 : decode cX8_sinkingWeek 169 = .ok (.ireturn, 1) := by decide +kernel
theorem dX8_sinkingPeople_0 : decode cX8_sinkingPeople 0 = .ok (.iconst 0, 1) := by decide +kernel
theorem dX8_sinkingPeople_1 : decode cX8_sinkingPeople 1 = .ok (.istore_n 3, 1) := by decide +kernel
theorem dX8_sinkingPeople_2 : decode cX8_sinkingPeople 2 = .ok (.iconst 0, 1) := by decide +kernel
theorem dX8_sinkingPeople_3 : decode cX8_sinkingPeople 3 = .ok (.istore 4, 2) := by decide +kernel
theorem dX8_sinkingPeople_5 : decode cX8_sinkingPeople 5 = .ok (.iload 4, 2) := by decide +kernel
theorem dX8_sinkingPeople_7 : decode cX8_sinkingPeople 7 = .ok (.aload_n 0, 1) := by decide +kernel
theorem dX8_sinkingPeople_8 : decode cX8_sinkingPeople 8 = .ok (.getfield 105, 3) := by decide +kernel
theorem dX8_sinkingPeople_11 : decode cX8_sinkingPeople 11 = .ok (.if_icmp .ge 59, 3) := by decide +kernel
theorem dX8_sinkingPeople_14 : decode cX8_sinkingPeople 14 = .ok (.aload_n 0, 1) := by decide +kernel
theorem dX8_sinkingPeople_15 : decode cX8_sinkingPeople 15 = .ok (.getfield 36, 3) := by decide +kernel
theorem dX8_sinkingPeople_18 : decode cX8_sinkingPeople 18 = .ok (.iload 4, 2) := by decide +kernel
theorem dX8_sinkingPeople_20 : decode cX8_sinkingPeople 20 = .ok (.aaload, 1) := by decide +kernel
theorem dX8_sinkingPeople_21 : decode cX8_sinkingPeople 21 = .ok (.getfield 261, 3) := by decide +kernel
theorem dX8_sinkingPeople_24 : decode cX8_sinkingPeople 24 = .ok (.istore 5, 2) := by decide +kernel
theorem dX8_sinkingPeople_26 : decode cX8_sinkingPeople 26 = .ok (.iload 5, 2) := by decide +kernel
theorem dX8_sinkingPeople_28 : decode cX8_sinkingPeople 28 = .ok (.ifCond .le 36, 3) := by decide +kernel
theorem dX8_sinkingPeople_31 : decode cX8_sinkingPeople 31 = .ok (.aload_n 0, 1) := by decide +kernel
theorem dX8_sinkingPeople_32 : decode cX8_sinkingPeople 32 = .ok (.getfield 12, 3) := by decide +kernel
theorem dX8_sinkingPeople_35 : decode cX8_sinkingPeople 35 = .ok (.iload 5, 2) := by decide +kernel
theorem dX8_sinkingPeople_37 : decode cX8_sinkingPeople 37 = .ok (.invokevirtual 157, 3) := by decide +kernel
theorem dX8_sinkingPeople_40 : decode cX8_sinkingPeople 40 = .ok (.ifCond .eq 24, 3) := by decide +kernel
theorem dX8_sinkingPeople_43 : decode cX8_sinkingPeople 43 = .ok (.aload_n 0, 1) := by decide +kernel
theorem dX8_sinkingPeople_44 : decode cX8_sinkingPeople 44 = .ok (.iload 4, 2) := by decide +kernel
theorem dX8_sinkingPeople_46 : decode cX8_sinkingPeople 46 = .ok (.iload 5, 2) := by decide +kernel
theorem dX8_sinkingPeople_48 : decode cX8_sinkingPeople 48 = .ok (.iload_n 1, 1) := by decide +kernel
theorem dX8_sinkingPeople_49 : decode cX8_sinkingPeople 49 = .ok (.iload_n 2, 1) := by decide +kernel
theorem dX8_sinkingPeople_50 : decode cX8_sinkingPeople 50 = .ok (.invokevirtual 264, 3) := by decide +kernel
theorem dX8_sinkingPeople_53 : decode cX8_sinkingPeople 53 = .ok (.iconst (-1), 1) := by decide +kernel
theorem dX8_sinkingPeople_54 : decode cX8_sinkingPeople 54 = .ok (.if_icmp .eq 10, 3) := by decide +kernel
theorem dX8_sinkingPeople_57 : decode cX8_sinkingPeople 57 = .ok (.iload_n 3, 1) := by decide +kernel
theorem dX8_sinkingPeople_58 : decode cX8_sinkingPeople 58 = .ok (.iconst 1, 1) := by decide +kernel
theorem dX8_sinkingPeople_59 : decode cX8_sinkingPeople 59 = .ok (.iload 4, 2) := by decide +kernel
theorem dX8_sinkingPeople_61 : decode cX8_sinkingPeople 61 = .ok (.ishl, 1) := by decide +kernel
theorem dX8_sinkingPeople_62 : decode cX8_sinkingPeople 62 = .ok (.ior, 1) := by decide +kernel
theorem dX8_sinkingPeople_63 : decode cX8_sinkingPeople 63 = .ok (.istore_n 3, 1) := by decide +kernel
theorem dX8_sinkingPeople_64 : decode cX8_sinkingPeople 64 = .ok (.iinc 4 1, 3) := by decide +kernel
theorem dX8_sinkingPeople_67 : decode cX8_sinkingPeople 67 = .ok (.goto (-62), 3) := by decide +kernel
theorem dX8_sinkingPeople_70 : decode cX8_sinkingPeople 70 = .ok (.iload_n 3, 1) := by decide +kernel
theorem dX8_sinkingPeople_71 : decode cX8_sinkingPeople 71 = .ok (.ireturn, 1) := by decide +kernel

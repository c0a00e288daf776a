theorem dX12_gained_45 : decode cX12_gained 45 = .ok (.ldc2_w 219, 3) := by decide +kernel
theorem dX12_gained_48 : decode cX12_gained 48 = .ok (.invokestatic 142, 3) := by decide +kernel
theorem dX12_gained_51 : decode cX12_gained 51 = .ok (.ifCond .ne 7, 3) := by decide +kernel
theorem dX12_gained_54 : decode cX12_gained 54 = .ok (.ldc2_w 282, 3) := by decide +kernel
theorem dX12_gained_57 : decode cX12_gained 57 = .ok (.lreturn, 1) := by decide +kernel
theorem dX12_gained_58 : decode cX12_gained 58 = .ok (.aload_n 0, 1) := by decide +kernel
theorem dX12_gained_59 : decode cX12_gained 59 = .ok (.iconst 0, 1) := by decide +kernel
theorem dX12_gained_60 : decode cX12_gained 60 = .ok (.iload_n 2, 1) := by decide +kernel
theorem dX12_gained_61 : decode cX12_gained 61 = .ok (.iload 4, 2) := by decide +kernel
theorem dX12_gained_63 : decode cX12_gained 63 = .ok (.invokevirtual 205, 3) := by decide +kernel
theorem dX12_gained_66 : decode cX12_gained 66 = .ok (.istore 5, 2) := by decide +kernel
theorem dX12_gained_68 : decode cX12_gained 68 = .ok (.iload 5, 2) := by decide +kernel
theorem dX12_gained_70 : decode cX12_gained 70 = .ok (.iconst (-1), 1) := by decide +kernel
theorem dX12_gained_71 : decode cX12_gained 71 = .ok (.if_icmp .ne 7, 3) := by decide +kernel
theorem dX12_gained_74 : decode cX12_gained 74 = .ok (.ldc2_w 284, 3) := by decide +kernel
theorem dX12_gained_77 : decode cX12_gained 77 = .ok (.lreturn, 1) := by decide +kernel
theorem dX12_gained_78 : decode cX12_gained 78 = .ok (.aload_n 0, 1) := by decide +kernel
theorem dX12_gained_79 : decode cX12_gained 79 = .ok (.iload_n 1, 1) := by decide +kernel
theorem dX12_gained_80 : decode cX12_gained 80 = .ok (.iload_n 2, 1) := by decide +kernel
theorem dX12_gained_81 : decode cX12_gained 81 = .ok (.iload 5, 2) := by decide +kernel
theorem dX12_gained_83 : decode cX12_gained 83 = .ok (.iload_n 3, 1) := by decide +kernel
theorem dX12_gained_84 : decode cX12_gained 84 = .ok (.invokevirtual 276, 3) := by decide +kernel
theorem dX12_gained_87 : decode cX12_gained 87 = .ok (.ldc2_w 286, 3) := by decide +kernel
theorem dX12_gained_90 : decode cX12_gained 90 = .ok (.lmul, 1) := by decide +kernel
theorem dX12_gained_91 : decode cX12_gained 91 = .ok (.aload_n 0, 1) := by decide +kernel
theorem dX12_gained_92 : decode cX12_gained 92 = .ok (.getfield 13, 3) := by decide +kernel
theorem dX12_gained_95 : decode cX12_gained 95 = .ok (.sipush 607, 3) := by decide +kernel
theorem dX12_gained_98 : decode cX12_gained 98 = .ok (.iload_n 1, 1) := by decide +kernel
theorem dX12_gained_99 : decode cX12_gained 99 = .ok (.iadd, 1) := by decide +kernel
theorem dX12_gained_100 : decode cX12_gained 100 = .ok (.iaload, 1) := by decide +kernel
theorem dX12_gained_101 : decode cX12_gained 101 = .ok (.aload_n 0, 1) := by decide +kernel
theorem dX12_gained_102 : decode cX12_gained 102 = .ok (.getfield 13, 3) := by decide +kernel
theorem dX12_gained_105 : decode cX12_gained 105 = .ok (.sipush 595, 3) := by decide +kernel
theorem dX12_gained_108 : decode cX12_gained 108 = .ok (.iload_n 1, 1) := by decide +kernel
theorem dX12_gained_109 : decode cX12_gained 109 = .ok (.iadd, 1) := by decide +kernel
theorem dX12_gained_110 : decode cX12_gained 110 = .ok (.iaload, 1) := by decide +kernel
theorem dX12_gained_111 : decode cX12_gained 111 = .ok (.isub, 1) := by decide +kernel
theorem dX12_gained_112 : decode cX12_gained 112 = .ok (.iconst 1, 1) := by decide +kernel
theorem dX12_gained_113 : decode cX12_gained 113 = .ok (.iadd, 1) := by decide +kernel
theorem dX12_gained_114 : decode cX12_gained 114 = .ok (.i2l, 1) := by decide +kernel
theorem dX12_gained_115 : decode cX12_gained 115 = .ok (.ldiv, 1) := by decide +kernel
theorem dX12_gained_116 : decode cX12_gained 116 = .ok (.lreturn, 1) := by decide +kernel
theorem dX12_rack_0 : decode cX12_rack 0 = .ok (.aload_n 0, 1) := by decide +kernel
theorem dX12_rack_1 : decode cX12_rack 1 = .ok (.iconst 0, 1) := by decide +kernel
theorem dX12_rack_2 : decode cX12_rack 2 = .ok (.putfield 1, 3) := by decide +kernel
theorem dX12_rack_5 : decode cX12_rack 5 = .ok (.iload_n 1, 1) := by decide +kernel
theorem dX12_rack_6 : decode cX12_rack 6 = .ok (.i2l, 1) := by decide +kernel
theorem dX12_rack_7 : decode cX12_rack 7 = .ok (.lconst 1, 1) := by decide +kernel
theorem dX12_rack_8 : decode cX12_rack 8 = .ok (.ldc2_w 211, 3) := by decide +kernel
theorem dX12_rack_11 : decode cX12_rack 11 = .ok (.invokestatic 142, 3) := by decide +kernel
theorem dX12_rack_14 : decode cX12_rack 14 = .ok (.ifCond .eq 15, 3) := by decide +kernel
theorem dX12_rack_17 : decode cX12_rack 17 = .ok (.iload_n 2, 1) := by decide +kernel
theorem dX12_rack_18 : decode cX12_rack 18 = .ok (.i2l, 1) := by decide +kernel
theorem dX12_rack_19 : decode cX12_rack 19 = .ok (.lconst 0, 1) := by decide +kernel
theorem dX12_rack_20 : decode cX12_rack 20 = .ok (.ldc2_w 211, 3) := by decide +kernel
theorem dX12_rack_23 : decode cX12_rack 23 = .ok (.invokestatic 142, 3) := by decide +kernel
theorem dX12_rack_26 : decode cX12_rack 26 = .ok (.ifCond .ne 6, 3) := by decide +kernel
theorem dX12_rack_29 : decode cX12_rack 29 = .ok (.bipush (-3), 2) := by decide +kernel
theorem dX12_rack_31 : decode cX12_rack 31 = .ok (.ireturn, 1) := by decide +kernel
theorem dX12_rack_32 : decode cX12_rack 32 = .ok (.aload_n 0, 1) := by decide +kernel
theorem dX12_rack_33 : decode cX12_rack 33 = .ok (.getfield 13, 3) := by decide +kernel
theorem dX12_rack_36 : decode cX12_rack 36 = .ok (.sipush 1761, 3) := by decide +kernel
theorem dX12_rack_39 : decode cX12_rack 39 = .ok (.iaload, 1) := by decide +kernel
theorem dX12_rack_40 : decode cX12_rack 40 = .ok (.istore_n 3, 1) := by decide +kernel
theorem dX12_rack_41 : decode cX12_rack 41 = .ok (.iload_n 3, 1) := by decide +kernel
theorem dX12_rack_42 : decode cX12_rack 42 = .ok (.bipush 10, 2) := by decide +kernel
theorem dX12_rack_44 : decode cX12_rack 44 = .ok (.if_icmp .ne 6, 3) := by decide +kernel
theorem dX12_rack_47 : decode cX12_rack 47 = .ok (.bipush (-4), 2) := by decide +kernel
theorem dX12_rack_49 : decode cX12_rack 49 = .ok (.ireturn, 1) := by decide +kernel
theorem dX12_rack_50 : decode cX12_rack 50 = .ok (.aload_n 0, 1) := by decide +kernel
theorem dX12_rack_51 : decode cX12_rack 51 = .ok (.getfield 13, 3) := by decide +kernel
theorem dX12_rack_54 : decode cX12_rack 54 = .ok (.sipush 1762, 3) := by decide +kernel
theorem dX12_rack_57 : decode cX12_rack 57 = .ok (.iload_n 3, 1) := by decide +kernel
theorem dX12_rack_58 : decode cX12_rack 58 = .ok (.iadd, 1) := by decide +kernel
theorem dX12_rack_59 : decode cX12_rack 59 = .ok (.iload_n 1, 1) := by decide +kernel
theorem dX12_rack_60 : decode cX12_rack 60 = .ok (.iastore, 1) := by decide +kernel
theorem dX12_rack_61 : decode cX12_rack 61 = .ok (.aload_n 0, 1) := by decide +kernel
theorem dX12_rack_62 : decode cX12_rack 62 = .ok (.getfield 13, 3) := by decide +kernel
theorem dX12_rack_65 : decode cX12_rack 65 = .ok (.sipush 1772, 3) := by decide +kernel
theorem dX12_rack_68 : decode cX12_rack 68 = .ok (.iload_n 3, 1) := by decide +kernel
theorem dX12_rack_69 : decode cX12_rack 69 = .ok (.iadd, 1) := by decide +kernel
theorem dX12_rack_70 : decode cX12_rack 70 = .ok (.iload_n 2, 1) := by decide +kernel
theorem dX12_rack_71 : decode cX12_rack 71 = .ok (.iastore, 1) := by decide +kernel
theorem dX12_rack_72 : decode cX12_rack 72 = .ok (.aload_n 0, 1) := by decide +kernel
theorem dX12_rack_73 : decode cX12_rack 73 = .ok (.getfield 13, 3) := by decide +kernel
theorem dX12_rack_76 : decode cX12_rack 76 = .ok (.sipush 1761, 3) := by decide +kernel
theorem dX12_rack_79 : decode cX12_rack 79 = .ok (.dup2, 1) := by decide +kernel
theorem dX12_rack_80 : decode cX12_rack 80 = .ok (.iaload, 1) := by decide +kernel
theorem dX12_rack_81 : decode cX12_rack 81 = .ok (.iconst 1, 1) := by decide +kernel
theorem dX12_rack_82 : decode cX12_rack 82 = .ok (.iadd, 1) := by decide +kernel
theorem dX12_rack_83 : decode cX12_rack 83 = .ok (.iastore, 1) := by decide +kernel
theorem dX12_rack_84 : decode cX12_rack 84 = .ok (.iload_n 3, 1) := by decide +kernel
theorem dX12_rack_85 : decode cX12_rack 85 = .ok (.ireturn, 1) := by decide +kernel
theorem dX12_sizeOf_0 : decode cX12_sizeOf 0 = .ok (.aload_n 0, 1) := by decide +kernel
theorem dX12_sizeOf_1 : decode cX12_sizeOf 1 = .ok (.getfield 13, 3) := by decide +kernel
theorem dX12_sizeOf_4 : decode cX12_sizeOf 4 = .ok (.sipush 583, 3) := by decide +kernel
theorem dX12_sizeOf_7 : decode cX12_sizeOf 7 = .ok (.aload_n 0, 1) := by decide +kernel
theorem dX12_sizeOf_8 : decode cX12_sizeOf 8 = .ok (.getfield 13, 3) := by decide +kernel
theorem dX12_sizeOf_11 : decode cX12_sizeOf 11 = .ok (.sipush 710, 3) := by decide +kernel
theorem dX12_sizeOf_14 : decode cX12_sizeOf 14 = .ok (.iload_n 1, 1) := by decide +kernel
theorem dX12_sizeOf_15 : decode cX12_sizeOf 15 = .ok (.iadd, 1) := by decide +kernel
theorem dX12_sizeOf_16 : decode cX12_sizeOf 16 = .ok (.iaload, 1) := by decide +kernel
theorem dX12_sizeOf_17 : decode cX12_sizeOf 17 = .ok (.iadd, 1) := by decide +kernel
theorem dX12_sizeOf_18 : decode cX12_sizeOf 18 = .ok (.iaload, 1) := by decide +kernel
theorem dX12_sizeOf_19 : decode cX12_sizeOf 19 = .ok (.ireturn, 1) := by decide +kernel
theorem dX12_leftOn_0 : decode cX12_leftOn 0 = .ok (.aload_n 0, 1) := by decide +kernel
theorem dX12_leftOn_1 : decode cX12_leftOn 1 = .ok (.getfield 13, 3) := by decide +kernel
theorem dX12_leftOn_4 : decode cX12_leftOn 4 = .ok (.sipush 1762, 3) := by decide +kernel
theorem dX12_leftOn_7 : decode cX12_leftOn 7 = .ok (.iload_n 1, 1) := by decide +kernel
theorem dX12_leftOn_8 : decode cX12_leftOn 8 = .ok (.iadd, 1) := by decide +kernel
theorem dX12_leftOn_9 : decode cX12_leftOn 9 = .ok (.iaload, 1) := by decide +kernel
theorem dX12_leftOn_10 : decode cX12_leftOn 10 = .ok (.istore_n 2, 1) := by decide +kernel
theorem dX12_leftOn_11 : decode cX12_leftOn 11 = .ok (.iconst 0, 1) := by decide +kernel
theorem dX12_leftOn_12 : decode cX12_leftOn 12 = .ok (.istore_n 3, 1) := by decide +kernel
theorem dX12_leftOn_13 : decode cX12_leftOn 13 = .ok (.iload_n 3, 1) := by decide +kernel
theorem dX12_leftOn_14 : decode cX12_leftOn 14 = .ok (.aload_n 0, 1) := by decide +kernel
theorem dX12_leftOn_15 : decode cX12_leftOn 15 = .ok (.getfield 13, 3) := by decide +kernel
theorem dX12_leftOn_18 : decode cX12_leftOn 18 = .ok (.sipush 709, 3) := by decide +kernel
theorem dX12_leftOn_21 : decode cX12_leftOn 21 = .ok (.iaload, 1) := by decide +kernel
theorem dX12_leftOn_22 : decode cX12_leftOn 22 = .ok (.if_icmp .ge 35, 3) := by decide +kernel
theorem dX12_leftOn_25 : decode cX12_leftOn 25 = .ok (.iload_n 2, 1) := by decide +kernel
theorem dX12_leftOn_26 : decode cX12_leftOn 26 = .ok (.aload_n 0, 1) := by decide +kernel
theorem dX12_leftOn_27 : decode cX12_leftOn 27 = .ok (.getfield 13, 3) := by decide +kernel
theorem dX12_leftOn_30 : decode cX12_leftOn 30 = .ok (.sipush 950, 3) := by decide +kernel
theorem dX12_leftOn_33 : decode cX12_leftOn 33 = .ok (.iload_n 3, 1) := by decide +kernel
theorem dX12_leftOn_34 : decode cX12_leftOn 34 = .ok (.iadd, 1) := by decide +kernel
theorem dX12_leftOn_35 : decode cX12_leftOn 35 = .ok (.iaload, 1) := by decide +kernel
theorem dX12_leftOn_36 : decode cX12_leftOn 36 = .ok (.iload_n 1, 1) := by decide +kernel
theorem dX12_leftOn_37 : decode cX12_leftOn 37 = .ok (.if_icmp .ne 11, 3) := by decide +kernel
theorem dX12_leftOn_40 : decode cX12_leftOn 40 = .ok (.aload_n 0, 1) := by decide +kernel
theorem dX12_leftOn_41 : decode cX12_leftOn 41 = .ok (.iload_n 3, 1) := by decide +kernel
theorem dX12_leftOn_42 : decode cX12_leftOn 42 = .ok (.invokevirtual 288, 3) := by decide +kernel
theorem dX12_leftOn_45 : decode cX12_leftOn 45 = .ok (.goto 4, 3) := by decide +kernel
theorem dX12_leftOn_48 : decode cX12_leftOn 48 = .ok (.iconst 0, 1) := by decide +kernel
theorem dX12_leftOn_49 : decode cX12_leftOn 49 = .ok (.isub, 1) := by decide +kernel
theorem dX12_leftOn_50 : decode cX12_leftOn 50 = .ok (.istore_n 2, 1) := by decide +kernel
theorem dX12_leftOn_51 : decode cX12_leftOn 51 = .ok (.iinc 3 1, 3) := by decide +kernel
theorem dX12_leftOn_54 : decode cX12_leftOn 54 = .ok (.goto (-41), 3) := by decide +kernel
theorem dX12_leftOn_57 : decode cX12_leftOn 57 = .ok (.iload_n 2, 1) := by decide +kernel
theorem dX12_leftOn_58 : decode cX12_leftOn 58 = .ok (.ireturn, 1) := by decide +kernel
theorem dX12_put_0 : decode cX12_put 0 = .ok (.aload_n 0, 1) := by decide +kernel
theorem dX12_put_1 : decode cX12_put 1 = .ok (.iconst 0, 1) := by decide +kernel
theorem dX12_put_2 : decode cX12_put 2 = .ok (.putfield 1, 3) := by decide +kernel
theorem dX12_put_5 : decode cX12_put 5 = .ok (.aload_n 0, 1) := by decide +kernel
theorem dX12_put_6 : decode cX12_put 6 = .ok (.iload_n 1, 1) := by decide +kernel
theorem dX12_put_7 : decode cX12_put 7 = .ok (.invokevirtual 257, 3) := by decide +kernel
theorem dX12_put_10 : decode cX12_put 10 = .ok (.ifCond .eq 23, 3) := by decide +kernel
theorem dX12_put_13 : decode cX12_put 13 = .ok (.iload_n 2, 1) := by decide +kernel
theorem dX12_put_14 : decode cX12_put 14 = .ok (.i2l, 1) := by decide +kernel
theorem dX12_put_15 : decode cX12_put 15 = .ok (.lconst 0, 1) := by decide +kernel
theorem dX12_put_16 : decode cX12_put 16 = .ok (.aload_n 0, 1) := by decide +kernel
theorem dX12_put_17 : decode cX12_put 17 = .ok (.getfield 13, 3) := by decide +kernel
theorem dX12_put_20 : decode cX12_put 20 = .ok (.sipush 1761, 3) := by decide +kernel
theorem dX12_put_23 : decode cX12_put 23 = .ok (.iaload, 1) := by decide +kernel
theorem dX12_put_24 : decode cX12_put 24 = .ok (.iconst 1, 1) := by decide +kernel
theorem dX12_put_25 : decode cX12_put 25 = .ok (.isub, 1) := by decide +kernel
theorem dX12_put_26 : decode cX12_put 26 = .ok (.i2l, 1) := by decide +kernel
theorem dX12_put_27 : decode cX12_put 27 = .ok (.invokestatic 142, 3) := by decide +kernel
theorem dX12_put_30 : decode cX12_put 30 = .ok (.ifCond .ne 6, 3) := by decide +kernel
theorem dX12_put_33 : decode cX12_put 33 = .ok (.bipush (-2), 2) := by decide +kernel
theorem dX12_put_35 : decode cX12_put 35 = .ok (.ireturn, 1) := by decide +kernel
theorem dX12_put_36 : decode cX12_put 36 = .ok (.aload_n 0, 1) := by decide +kernel
theorem dX12_put_37 : decode cX12_put 37 = .ok (.getfield 13, 3) := by decide +kernel
theorem dX12_put_40 : decode cX12_put 40 = .ok (.sipush 1010, 3) := by decide +kernel
theorem dX12_put_43 : decode cX12_put 43 = .ok (.iload_n 1, 1) := by decide +kernel
theorem dX12_put_44 : decode cX12_put 44 = .ok (.iadd, 1) := by decide +kernel
theorem dX12_put_45 : decode cX12_put 45 = .ok (.iaload, 1) := by decide +kernel
theorem dX12_put_46 : decode cX12_put 46 = .ok (.ifCond .ne 30, 3) := by decide +kernel
theorem dX12_put_49 : decode cX12_put 49 = .ok (.aload_n 0, 1) := by decide +kernel
theorem dX12_put_50 : decode cX12_put 50 = .ok (.getfield 13, 3) := by decide +kernel
theorem dX12_put_53 : decode cX12_put 53 = .ok (.sipush 950, 3) := by decide +kernel
theorem dX12_put_56 : decode cX12_put 56 = .ok (.iload_n 1, 1) := by decide +kernel
theorem dX12_put_57 : decode cX12_put 57 = .ok (.iadd, 1) := by decide +kernel
theorem dX12_put_58 : decode cX12_put 58 = .ok (.iaload, 1) := by decide +kernel
theorem dX12_put_59 : decode cX12_put 59 = .ok (.iload_n 2, 1) := by decide +kernel
theorem dX12_put_60 : decode cX12_put 60 = .ok (.if_icmp .eq 16, 3) := by decide +kernel
theorem dX12_put_63 : decode cX12_put 63 = .ok (.aload_n 0, 1) := by decide +kernel
theorem dX12_put_64 : decode cX12_put 64 = .ok (.iload_n 2, 1) := by decide +kernel
theorem dX12_put_65 : decode cX12_put 65 = .ok (.invokevirtual 291, 3) := by decide +kernel
theorem dX12_put_68 : decode cX12_put 68 = .ok (.aload_n 0, 1) := by decide +kernel
theorem dX12_put_69 : decode cX12_put 69 = .ok (.iload_n 1, 1) := by decide +kernel
theorem dX12_put_70 : decode cX12_put 70 = .ok (.invokevirtual 288, 3) := by decide +kernel
theorem dX12_put_73 : decode cX12_put 73 = .ok (.if_icmp .ge 6, 3) := by decide +kernel
theorem dX12_put_76 : decode cX12_put 76 = .ok (.bipush (-5), 2) := by decide +kernel
theorem dX12_put_78 : decode cX12_put 78 = .ok (.ireturn, 1) := by decide +kernel
theorem dX12_put_79 : decode cX12_put 79 = .ok (.aload_n 0, 1) := by decide +kernel
theorem dX12_put_80 : decode cX12_put 80 = .ok (.getfield 13, 3) := by decide +kernel
theorem dX12_put_83 : decode cX12_put 83 = .ok (.sipush 950, 3) := by decide +kernel
theorem dX12_put_86 : decode cX12_put 86 = .ok (.iload_n 1, 1) := by decide +kernel
theorem dX12_put_87 : decode cX12_put 87 = .ok (.iadd, 1) := by decide +kernel
theorem dX12_put_88 : decode cX12_put 88 = .ok (.iload_n 2, 1) := by decide +kernel
theorem dX12_put_89 : decode cX12_put 89 = .ok (.iastore, 1) := by decide +kernel
theorem dX12_put_90 : decode cX12_put 90 = .ok (.aload_n 0, 1) := by decide +kernel
theorem dX12_put_91 : decode cX12_put 91 = .ok (.iload_n 2, 1) := by decide +kernel
theorem dX12_put_92 : decode cX12_put 92 = .ok (.invokevirtual 291, 3) := by decide +kernel
theorem dX12_put_95 : decode cX12_put 95 = .ok (.ireturn, 1) := by decide +kernel
theorem dX12_rush_0 : decode cX12_rush 0 = .ok (.aload_n 0, 1) := by decide +kernel
theorem dX12_rush_1 : decode cX12_rush 1 = .ok (.iconst 0, 1) := by decide +kernel
theorem dX12_rush_2 : decode cX12_rush 2 = .ok (.putfield 1, 3) := by decide +kernel
theorem dX12_rush_5 : decode cX12_rush 5 = .ok (.iload_n 2, 1) := by decide +kernel
theorem dX12_rush_6 : decode cX12_rush 6 = .ok (.i2l, 1) := by decide +kernel
theorem dX12_rush_7 : decode cX12_rush 7 = .ok (.lconst 0, 1) := by decide +kernel
theorem dX12_rush_8 : decode cX12_rush 8 = .ok (.ldc2_w 294, 3) := by decide +kernel
theorem dX12_rush_11 : decode cX12_rush 11 = .ok (.invokestatic 142, 3) := by decide +kernel
theorem dX12_rush_14 : decode cX12_rush 14 = .ok (.ifCond .ne 6, 3) := by decide +kernel
theorem dX12_rush_17 : decode cX12_rush 17 = .ok (.bipush (-3), 2) := by decide +kernel
theorem dX12_rush_19 : decode cX12_rush 19 = .ok (.ireturn, 1) := by decide +kernel
theorem dX12_rush_20 : decode cX12_rush 20 = .ok (.iconst 0, 1) := by decide +kernel
theorem dX12_rush_21 : decode cX12_rush 21 = .ok (.istore_n 3, 1) := by decide +kernel
theorem dX12_rush_22 : decode cX12_rush 22 = .ok (.iconst 0, 1) := by decide +kernel
theorem dX12_rush_23 : decode cX12_rush 23 = .ok (.istore 4, 2) := by decide +kernel
theorem dX12_rush_25 : decode cX12_rush 25 = .ok (.iload 4, 2) := by decide +kernel
theorem dX12_rush_27 : decode cX12_rush 27 = .ok (.bipush 8, 2) := by decide +kernel
theorem dX12_rush_29 : decode cX12_rush 29 = .ok (.if_icmp .ge 94, 3) := by decide +kernel
theorem dX12_rush_32 : decode cX12_rush 32 = .ok (.iload_n 2, 1) := by decide +kernel
theorem dX12_rush_33 : decode cX12_rush 33 = .ok (.iload 4, 2) := by decide +kernel
theorem dX12_rush_35 : decode cX12_rush 35 = .ok (.ishr, 1) := by decide +kernel
theorem dX12_rush_36 : decode cX12_rush 36 = .ok (.iconst 1, 1) := by decide +kernel
theorem dX12_rush_37 : decode cX12_rush 37 = .ok (.iand, 1) := by decide +kernel
theorem dX12_rush_38 : decode cX12_rush 38 = .ok (.ifCond .ne 6, 3) := by decide +kernel
theorem dX12_rush_41 : decode cX12_rush 41 = .ok (.goto 76, 3) := by decide +kernel
theorem dX12_rush_44 : decode cX12_rush 44 = .ok (.iload_n 1, 1) := by decide +kernel
theorem dX12_rush_45 : decode cX12_rush 45 = .ok (.i2l, 1) := by decide +kernel
theorem dX12_rush_46 : decode cX12_rush 46 = .ok (.iload 4, 2) := by decide +kernel
theorem dX12_rush_48 : decode cX12_rush 48 = .ok (.i2l, 1) := by decide +kernel
theorem dX12_rush_49 : decode cX12_rush 49 = .ok (.ladd, 1) := by decide +kernel
theorem dX12_rush_50 : decode cX12_rush 50 = .ok (.lstore 5, 2) := by decide +kernel
theorem dX12_rush_52 : decode cX12_rush 52 = .ok (.lload 5, 2) := by decide +kernel
theorem dX12_rush_54 : decode cX12_rush 54 = .ok (.lconst 0, 1) := by decide +kernel
theorem dX12_rush_55 : decode cX12_rush 55 = .ok (.aload_n 0, 1) := by decide +kernel
theorem dX12_rush_56 : decode cX12_rush 56 = .ok (.getfield 13, 3) := by decide +kernel
theorem dX12_rush_59 : decode cX12_rush 59 = .ok (.sipush 709, 3) := by decide +kernel
theorem dX12_rush_62 : decode cX12_rush 62 = .ok (.iaload, 1) := by decide +kernel
theorem dX12_rush_63 : decode cX12_rush 63 = .ok (.iconst 1, 1) := by decide +kernel
theorem dX12_rush_64 : decode cX12_rush 64 = .ok (.isub, 1) := by decide +kernel
theorem dX12_rush_65 : decode cX12_rush 65 = .ok (.i2l, 1) := by decide +kernel
theorem dX12_rush_66 : decode cX12_rush 66 = .ok (.invokestatic 142, 3) := by decide +kernel
theorem dX12_rush_69 : decode cX12_rush 69 = .ok (.ifCond .eq 19, 3) := by decide +kernel
theorem dX12_rush_72 : decode cX12_rush 72 = .ok (.aload_n 0, 1) := by decide +kernel
theorem dX12_rush_73 : decode cX12_rush 73 = .ok (.getfield 13, 3) := by decide +kernel
theorem dX12_rush_76 : decode cX12_rush 76 = .ok (.sipush 950, 3) := by decide +kernel
theorem dX12_rush_79 : decode cX12_rush 79 = .ok (.lload 5, 2) := by decide +kernel
theorem dX12_rush_81 : decode cX12_rush 81 = .ok (.l2i, 1) := by decide +kernel
theorem dX12_rush_82 : decode cX12_rush 82 = .ok (.iadd, 1) := by decide +kernel
theorem dX12_rush_83 : decode cX12_rush 83 = .ok (.iaload, 1) := by decide +kernel
theorem dX12_rush_84 : decode cX12_rush 84 = .ok (.iconst (-1), 1) := by decide +kernel
theorem dX12_rush_85 : decode cX12_rush 85 = .ok (.if_icmp .ne 6, 3) := by decide +kernel
theorem dX12_rush_88 : decode cX12_rush 88 = .ok (.bipush (-5), 2) := by decide +kernel
theorem dX12_rush_90 : decode cX12_rush 90 = .ok (.ireturn, 1) := by decide +kernel
theorem dX12_rush_91 : decode cX12_rush 91 = .ok (.iload_n 3, 1) := by decide +kernel
theorem dX12_rush_92 : decode cX12_rush 92 = .ok (.iconst 2, 1) := by decide +kernel
theorem dX12_rush_93 : decode cX12_rush 93 = .ok (.aload_n 0, 1) := by decide +kernel
theorem dX12_rush_94 : decode cX12_rush 94 = .ok (.getfield 13, 3) := by decide +kernel
theorem dX12_rush_97 : decode cX12_rush 97 = .ok (.sipush 1772, 3) := by decide +kernel
theorem dX12_rush_100 : decode cX12_rush 100 = .ok (.aload_n 0, 1) := by decide +kernel
theorem dX12_rush_101 : decode cX12_rush 101 = .ok (.getfield 13, 3) := by decide +kernel
theorem dX12_rush_104 : decode cX12_rush 104 = .ok (.sipush 950, 3) := by decide +kernel
theorem dX12_rush_107 : decode cX12_rush 107 = .ok (.lload 5, 2) := by decide +kernel
theorem dX12_rush_109 : decode cX12_rush 109 = .ok (.l2i, 1) := by decide +kernel
theorem dX12_rush_110 : decode cX12_rush 110 = .ok (.iadd, 1) := by decide +kernel
theorem dX12_rush_111 : decode cX12_rush 111 = .ok (.iaload, 1) := by decide +kernel
theorem dX12_rush_112 : decode cX12_rush 112 = .ok (.iadd, 1) := by decide +kernel
theorem dX12_rush_113 : decode cX12_rush 113 = .ok (.iaload, 1) := by decide +kernel
theorem dX12_rush_114 : decode cX12_rush 114 = .ok (.imul, 1) := by decide +kernel
theorem dX12_rush_115 : decode cX12_rush 115 = .ok (.iadd, 1) := by decide +kernel
theorem dX12_rush_116 : decode cX12_rush 116 = .ok (.istore_n 3, 1) := by decide +kernel
theorem dX12_rush_117 : decode cX12_rush 117 = .ok (.iinc 4 1, 3) := by decide +kernel
theorem dX12_rush_120 : decode cX12_rush 120 = .ok (.goto (-95), 3) := by decide +kernel
theorem dX12_rush_123 : decode cX12_rush 123 = .ok (.iload_n 3, 1) := by decide +kernel
theorem dX12_rush_124 : decode cX12_rush 124 = .ok (.ireturn, 1) := by decide +kernel
theorem dX12_findsLoose_0 : decode cX12_findsLoose 0 = .ok (.iconst 0, 1) := by decide +kernel
theorem dX12_findsLoose_1 : decode cX12_findsLoose 1 = .ok (.istore_n 2, 1) := by decide +kernel
theorem dX12_findsLoose_2 : decode cX12_findsLoose 2 = .ok (.iconst 0, 1) := by decide +kernel
theorem dX12_findsLoose_3 : decode cX12_findsLoose 3 = .ok (.istore_n 3, 1) := by decide +kernel
theorem dX12_findsLoose_4 : decode cX12_findsLoose 4 = .ok (.iload_n 3, 1) := by decide +kernel
theorem dX12_findsLoose_5 : decode cX12_findsLoose 5 = .ok (.aload_n 0, 1) := by decide +kernel
theorem dX12_findsLoose_6 : decode cX12_findsLoose 6 = .ok (.getfield 13, 3) := by decide +kernel
theorem dX12_findsLoose_9 : decode cX12_findsLoose 9 = .ok (.sipush 709, 3) := by decide +kernel
theorem dX12_findsLoose_12 : decode cX12_findsLoose 12 = .ok (.iaload, 1) := by decide +kernel
theorem dX12_findsLoose_13 : decode cX12_findsLoose 13 = .ok (.if_icmp .ge 54, 3) := by decide +kernel
theorem dX12_findsLoose_16 : decode cX12_findsLoose 16 = .ok (.iload_n 2, 1) := by decide +kernel
theorem dX12_findsLoose_17 : decode cX12_findsLoose 17 = .ok (.iload_n 1, 1) := by decide +kernel
theorem dX12_findsLoose_18 : decode cX12_findsLoose 18 = .ok (.if_icmp .ge 49, 3) := by decide +kernel
theorem dX12_findsLoose_21 : decode cX12_findsLoose 21 = .ok (.aload_n 0, 1) := by decide +kernel
theorem dX12_findsLoose_22 : decode cX12_findsLoose 22 = .ok (.getfield 13, 3) := by decide +kernel
theorem dX12_findsLoose_25 : decode cX12_findsLoose 25 = .ok (.sipush 1010, 3) := by decide +kernel
theorem dX12_findsLoose_28 : decode cX12_findsLoose 28 = .ok (.iload_n 3, 1) := by decide +kernel
theorem dX12_findsLoose_29 : decode cX12_findsLoose 29 = .ok (.iadd, 1) := by decide +kernel
theorem dX12_findsLoose_30 : decode cX12_findsLoose 30 = .ok (.iaload, 1) := by decide +kernel
theorem dX12_findsLoose_31 : decode cX12_findsLoose 31 = .ok (.ifCond .ne 30, 3) := by decide +kernel
theorem dX12_findsLoose_34 : decode cX12_findsLoose 34 = .ok (.aload_n 0, 1) := by decide +kernel
theorem dX12_findsLoose_35 : decode cX12_findsLoose 35 = .ok (.getfield 13, 3) := by decide +kernel
theorem dX12_findsLoose_38 : decode cX12_findsLoose 38 = .ok (.sipush 950, 3) := by decide +kernel
theorem dX12_findsLoose_41 : decode cX12_findsLoose 41 = .ok (.iload_n 3, 1) := by decide +kernel
theorem dX12_findsLoose_42 : decode cX12_findsLoose 42 = .ok (.iadd, 1) := by decide +kernel
theorem dX12_findsLoose_43 : decode cX12_findsLoose 43 = .ok (.iaload, 1) := by decide +kernel
theorem dX12_findsLoose_44 : decode cX12_findsLoose 44 = .ok (.iconst (-1), 1) := by decide +kernel
theorem dX12_findsLoose_45 : decode cX12_findsLoose 45 = .ok (.if_icmp .eq 6, 3) := by decide +kernel
theorem dX12_findsLoose_48 : decode cX12_findsLoose 48 = .ok (.goto 13, 3) := by decide +kernel
theorem dX12_findsLoose_51 : decode cX12_findsLoose 51 = .ok (.aload_n 0, 1) := by decide +kernel
theorem dX12_findsLoose_52 : decode cX12_findsLoose 52 = .ok (.getfield 30, 3) := by decide +kernel
theorem dX12_findsLoose_55 : decode cX12_findsLoose 55 = .ok (.iload_n 2, 1) := by decide +kernel
theorem dX12_findsLoose_56 : decode cX12_findsLoose 56 = .ok (.iload_n 3, 1) := by decide +kernel
theorem dX12_findsLoose_57 : decode cX12_findsLoose 57 = .ok (.iastore, 1) := by decide +kernel
theorem dX12_findsLoose_58 : decode cX12_findsLoose 58 = .ok (.iinc 2 1, 3) := by decide +kernel
theorem dX12_findsLoose_61 : decode cX12_findsLoose 61 = .ok (.iinc 3 1, 3) := by decide +kernel
theorem dX12_findsLoose_64 : decode cX12_findsLoose 64 = .ok (.goto (-60), 3) := by decide +kernel
theorem dX12_findsLoose_67 : decode cX12_findsLoose 67 = .ok (.iload_n 2, 1) := by decide +kernel
theorem dX12_findsLoose_68 : decode cX12_findsLoose 68 = .ok (.iload_n 1, 1) := by decide +kernel
theorem dX12_findsLoose_69 : decode cX12_findsLoose 69 = .ok (.if_icmp .ne 7, 3) := by decide +kernel
theorem dX12_findsLoose_72 : decode cX12_findsLoose 72 = .ok (.iconst 1, 1) := by decide +kernel
theorem dX12_findsLoose_73 : decode cX12_findsLoose 73 = .ok (.goto 4, 3) := by decide +kernel
theorem dX12_findsLoose_76 : decode cX12_findsLoose 76 = .ok (.iconst 0, 1) := by decide +kernel
theorem dX12_findsLoose_77 : decode cX12_findsLoose 77 = .ok (.ireturn, 1) := by decide +kernel
theorem dX12_findsRacks_0 : decode cX12_findsRacks 0 = .ok (.iconst 0, 1) := by decide +kernel
theorem dX12_findsRacks_1 : decode cX12_findsRacks 1 = .ok (.istore_n 3, 1) := by decide +kernel
theorem dX12_findsRacks_2 : decode cX12_findsRacks 2 = .ok (.iload_n 3, 1) := by decide +kernel
theorem dX12_findsRacks_3 : decode cX12_findsRacks 3 = .ok (.aload_n 0, 1) := by decide +kernel
theorem dX12_findsRacks_4 : decode cX12_findsRacks 4 = .ok (.getfield 13, 3) := by decide +kernel
theorem dX12_findsRacks_7 : decode cX12_findsRacks 7 = .ok (.sipush 1761, 3) := by decide +kernel
theorem dX12_findsRacks_10 : decode cX12_findsRacks 10 = .ok (.iaload, 1) := by decide +kernel
theorem dX12_findsRacks_11 : decode cX12_findsRacks 11 = .ok (.if_icmp .ge 20, 3) := by decide +kernel
theorem dX12_findsRacks_14 : decode cX12_findsRacks 14 = .ok (.aload_n 0, 1) := by decide +kernel
theorem dX12_findsRacks_15 : decode cX12_findsRacks 15 = .ok (.getfield 39, 3) := by decide +kernel
theorem dX12_findsRacks_18 : decode cX12_findsRacks 18 = .ok (.iload_n 3, 1) := by decide +kernel
theorem dX12_findsRacks_19 : decode cX12_findsRacks 19 = .ok (.aload_n 0, 1) := by decide +kernel
theorem dX12_findsRacks_20 : decode cX12_findsRacks 20 = .ok (.iload_n 3, 1) := by decide +kernel
theorem dX12_findsRacks_21 : decode cX12_findsRacks 21 = .ok (.invokevirtual 291, 3) := by decide +kernel
theorem dX12_findsRacks_24 : decode cX12_findsRacks 24 = .ok (.iastore, 1) := by decide +kernel
theorem dX12_findsRacks_25 : decode cX12_findsRacks 25 = .ok (.iinc 3 1, 3) := by decide +kernel
theorem dX12_findsRacks_28 : decode cX12_findsRacks 28 = .ok (.goto (-26), 3) := by decide +kernel
theorem dX12_findsRacks_31 : decode cX12_findsRacks 31 = .ok (.iconst (-1), 1) := by decide +kernel
theorem dX12_findsRacks_32 : decode cX12_findsRacks 32 = .ok (.istore_n 3, 1) := by decide +kernel
theorem dX12_findsRacks_33 : decode cX12_findsRacks 33 = .ok (.iconst 0, 1) := by decide +kernel
theorem dX12_findsRacks_34 : decode cX12_findsRacks 34 = .ok (.istore 4, 2) := by decide +kernel
theorem dX12_findsRacks_36 : decode cX12_findsRacks 36 = .ok (.iconst 0, 1) := by decide +kernel
theorem dX12_findsRacks_37 : decode cX12_findsRacks 37 = .ok (.istore 5, 2) := by decide +kernel
theorem dX12_findsRacks_39 : decode cX12_findsRacks 39 = .ok (.aload_n 0, 1) := by decide +kernel
theorem dX12_findsRacks_40 : decode cX12_findsRacks 40 = .ok (.getfield 33, 3) := by decide +kernel
theorem dX12_findsRacks_43 : decode cX12_findsRacks 43 = .ok (.iconst 0, 1) := by decide +kernel
theorem dX12_findsRacks_44 : decode cX12_findsRacks 44 = .ok (.iconst (-1), 1) := by decide +kernel
theorem dX12_findsRacks_45 : decode cX12_findsRacks 45 = .ok (.iastore, 1) := by decide +kernel
theorem dX12_findsRacks_46 : decode cX12_findsRacks 46 = .ok (.iload 5, 2) := by decide +kernel
theorem dX12_findsRacks_48 : decode cX12_findsRacks 48 = .ok (.ifCond .lt 267, 3) := by decide +kernel
theorem dX12_findsRacks_51 : decode cX12_findsRacks 51 = .ok (.aload_n 0, 1) := by decide +kernel
theorem dX12_findsRacks_52 : decode cX12_findsRacks 52 = .ok (.getfield 33, 3) := by decide +kernel
theorem dX12_findsRacks_55 : decode cX12_findsRacks 55 = .ok (.iload 5, 2) := by decide +kernel
theorem dX12_findsRacks_57 : decode cX12_findsRacks 57 = .ok (.iaload, 1) := by decide +kernel
theorem dX12_findsRacks_58 : decode cX12_findsRacks 58 = .ok (.istore 6, 2) := by decide +kernel
theorem dX12_findsRacks_60 : decode cX12_findsRacks 60 = .ok (.aload_n 0, 1) := by decide +kernel
theorem dX12_findsRacks_61 : decode cX12_findsRacks 61 = .ok (.getfield 75, 3) := by decide +kernel
theorem dX12_findsRacks_64 : decode cX12_findsRacks 64 = .ok (.bipush 40, 2) := by decide +kernel
theorem dX12_findsRacks_66 : decode cX12_findsRacks 66 = .ok (.iload_n 1, 1) := by decide +kernel
theorem dX12_findsRacks_67 : decode cX12_findsRacks 67 = .ok (.imul, 1) := by decide +kernel
theorem dX12_findsRacks_68 : decode cX12_findsRacks 68 = .ok (.iload 5, 2) := by decide +kernel
theorem dX12_findsRacks_70 : decode cX12_findsRacks 70 = .ok (.iadd, 1) := by decide +kernel
theorem dX12_findsRacks_71 : decode cX12_findsRacks 71 = .ok (.laload, 1) := by decide +kernel
theorem dX12_findsRacks_72 : decode cX12_findsRacks 72 = .ok (.l2i, 1) := by decide +kernel
theorem dX12_findsRacks_73 : decode cX12_findsRacks 73 = .ok (.istore 7, 2) := by decide +kernel
theorem dX12_findsRacks_75 : decode cX12_findsRacks 75 = .ok (.iload 6, 2) := by decide +kernel
theorem dX12_findsRacks_77 : decode cX12_findsRacks 77 = .ok (.iconst (-1), 1) := by decide +kernel
theorem dX12_findsRacks_78 : decode cX12_findsRacks 78 = .ok (.if_icmp .eq 43, 3) := by decide +kernel
theorem dX12_findsRacks_81 : decode cX12_findsRacks 81 = .ok (.aload_n 0, 1) := by decide +kernel
theorem dX12_findsRacks_82 : decode cX12_findsRacks 82 = .ok (.getfield 39, 3) := by decide +kernel
theorem dX12_findsRacks_85 : decode cX12_findsRacks 85 = .ok (.iload 6, 2) := by decide +kernel
theorem dX12_findsRacks_87 : decode cX12_findsRacks 87 = .ok (.dup2, 1) := by decide +kernel
theorem dX12_findsRacks_88 : decode cX12_findsRacks 88 = .ok (.iaload, 1) := by decide +kernel
theorem dX12_findsRacks_89 : decode cX12_findsRacks 89 = .ok (.aload_n 0, 1) := by decide +kernel
theorem dX12_findsRacks_90 : decode cX12_findsRacks 90 = .ok (.aload_n 0, 1) := by decide +kernel
theorem dX12_findsRacks_91 : decode cX12_findsRacks 91 = .ok (.getfield 30, 3) := by decide +kernel
theorem dX12_findsRacks_94 : decode cX12_findsRacks 94 = .ok (.iload 5, 2) := by decide +kernel
theorem dX12_findsRacks_96 : decode cX12_findsRacks 96 = .ok (.iaload, 1) := by decide +kernel
theorem dX12_findsRacks_97 : decode cX12_findsRacks 97 = .ok (.invokevirtual 288, 3) := by decide +kernel
theorem dX12_findsRacks_100 : decode cX12_findsRacks 100 = .ok (.iadd, 1) := by decide +kernel
theorem dX12_findsRacks_101 : decode cX12_findsRacks 101 = .ok (.iastore, 1) := by decide +kernel
theorem dX12_findsRacks_102 : decode cX12_findsRacks 102 = .ok (.iload 4, 2) := by decide +kernel
theorem dX12_findsRacks_104 : decode cX12_findsRacks 104 = .ok (.iload 7, 2) := by decide +kernel
theorem dX12_findsRacks_106 : decode cX12_findsRacks 106 = .ok (.aload_n 0, 1) := by decide +kernel
theorem dX12_findsRacks_107 : decode cX12_findsRacks 107 = .ok (.getfield 13, 3) := by decide +kernel
theorem dX12_findsRacks_110 : decode cX12_findsRacks 110 = .ok (.sipush 1772, 3) := by decide +kernel
theorem dX12_findsRacks_113 : decode cX12_findsRacks 113 = .ok (.iload 6, 2) := by decide +kernel
theorem dX12_findsRacks_115 : decode cX12_findsRacks 115 = .ok (.iadd, 1) := by decide +kernel
theorem dX12_findsRacks_116 : decode cX12_findsRacks 116 = .ok (.iaload, 1) := by decide +kernel
theorem dX12_findsRacks_117 : decode cX12_findsRacks 117 = .ok (.imul, 1) := by decide +kernel
theorem dX12_findsRacks_118 : decode cX12_findsRacks 118 = .ok (.isub, 1) := by decide +kernel
theorem dX12_findsRacks_119 : decode cX12_findsRacks 119 = .ok (.istore 4, 2) := by decide +kernel
theorem dX12_findsRacks_121 : decode cX12_findsRacks 121 = .ok (.iinc 6 1, 3) := by decide +kernel
theorem dX12_findsRacks_124 : decode cX12_findsRacks 124 = .ok (.iload 6, 2) := by decide +kernel
theorem dX12_findsRacks_126 : decode cX12_findsRacks 126 = .ok (.aload_n 0, 1) := by decide +kernel
theorem dX12_findsRacks_127 : decode cX12_findsRacks 127 = .ok (.getfield 13, 3) := by decide +kernel
theorem dX12_findsRacks_130 : decode cX12_findsRacks 130 = .ok (.sipush 1761, 3) := by decide +kernel
theorem dX12_findsRacks_133 : decode cX12_findsRacks 133 = .ok (.iaload, 1) := by decide +kernel
theorem dX12_findsRacks_134 : decode cX12_findsRacks 134 = .ok (.if_icmp .ge 56, 3) := by decide +kernel
theorem dX12_findsRacks_137 : decode cX12_findsRacks 137 = .ok (.aload_n 0, 1) := by decide +kernel
theorem dX12_findsRacks_138 : decode cX12_findsRacks 138 = .ok (.getfield 39, 3) := by decide +kernel
theorem dX12_findsRacks_141 : decode cX12_findsRacks 141 = .ok (.iload 6, 2) := by decide +kernel
theorem dX12_findsRacks_143 : decode cX12_findsRacks 143 = .ok (.iaload, 1) := by decide +kernel
theorem dX12_findsRacks_144 : decode cX12_findsRacks 144 = .ok (.aload_n 0, 1) := by decide +kernel
theorem dX12_findsRacks_145 : decode cX12_findsRacks 145 = .ok (.aload_n 0, 1) := by decide +kernel
theorem dX12_findsRacks_146 : decode cX12_findsRacks 146 = .ok (.getfield 30, 3) := by decide +kernel
theorem dX12_findsRacks_149 : decode cX12_findsRacks 149 = .ok (.iload 5, 2) := by decide +kernel
theorem dX12_findsRacks_151 : decode cX12_findsRacks 151 = .ok (.iaload, 1) := by decide +kernel
theorem dX12_findsRacks_152 : decode cX12_findsRacks 152 = .ok (.invokevirtual 288, 3) := by decide +kernel
theorem dX12_findsRacks_155 : decode cX12_findsRacks 155 = .ok (.if_icmp .lt 29, 3) := by decide +kernel
theorem dX12_findsRacks_158 : decode cX12_findsRacks 158 = .ok (.iload_n 3, 1) := by decide +kernel
theorem dX12_findsRacks_159 : decode cX12_findsRacks 159 = .ok (.iconst (-1), 1) := by decide +kernel
theorem dX12_findsRacks_160 : decode cX12_findsRacks 160 = .ok (.if_icmp .eq 30, 3) := by decide +kernel
theorem dX12_findsRacks_163 : decode cX12_findsRacks 163 = .ok (.iload 4, 2) := by decide +kernel
theorem dX12_findsRacks_165 : decode cX12_findsRacks 165 = .ok (.iload 7, 2) := by decide +kernel
theorem dX12_findsRacks_167 : decode cX12_findsRacks 167 = .ok (.aload_n 0, 1) := by decide +kernel
theorem dX12_findsRacks_168 : decode cX12_findsRacks 168 = .ok (.getfield 13, 3) := by decide +kernel
theorem dX12_findsRacks_171 : decode cX12_findsRacks 171 = .ok (.sipush 1772, 3) := by decide +kernel
theorem dX12_findsRacks_174 : decode cX12_findsRacks 174 = .ok (.iload 6, 2) := by decide +kernel
theorem dX12_findsRacks_176 : decode cX12_findsRacks 176 = .ok (.iadd, 1) := by decide +kernel
theorem dX12_findsRacks_177 : decode cX12_findsRacks 177 = .ok (.iaload, 1) := by decide +kernel
theorem dX12_findsRacks_178 : decode cX12_findsRacks 178 = .ok (.imul, 1) := by decide +kernel
theorem dX12_findsRacks_179 : decode cX12_findsRacks 179 = .ok (.iadd, 1) := by decide +kernel
theorem dX12_findsRacks_180 : decode cX12_findsRacks 180 = .ok (.iload_n 3, 1) := by decide +kernel
theorem dX12_findsRacks_181 : decode cX12_findsRacks 181 = .ok (.if_icmp .lt 9, 3) := by decide +kernel
theorem dX12_findsRacks_184 : decode cX12_findsRacks 184 = .ok (.iinc 6 1, 3) := by decide +kernel
theorem dX12_findsRacks_187 : decode cX12_findsRacks 187 = .ok (.goto (-63), 3) := by decide +kernel
theorem dX12_findsRacks_190 : decode cX12_findsRacks 190 = .ok (.iload 6, 2) := by decide +kernel
theorem dX12_findsRacks_192 : decode cX12_findsRacks 192 = .ok (.aload_n 0, 1) := by decide +kernel
theorem dX12_findsRacks_193 : decode cX12_findsRacks 193 = .ok (.getfield 13, 3) := by decide +kernel
theorem dX12_findsRacks_196 : decode cX12_findsRacks 196 = .ok (.sipush 1761, 3) := by decide +kernel
theorem dX12_findsRacks_199 : decode cX12_findsRacks 199 = .ok (.iaload, 1) := by decide +kernel
theorem dX12_findsRacks_200 : decode cX12_findsRacks 200 = .ok (.if_icmp .ne 9, 3) := by decide +kernel
theorem dX12_findsRacks_203 : decode cX12_findsRacks 203 = .ok (.iinc 5 (-1), 3) := by decide +kernel
theorem dX12_findsRacks_206 : decode cX12_findsRacks 206 = .ok (.goto (-160), 3) := by decide +kernel
theorem dX12_findsRacks_209 : decode cX12_findsRacks 209 = .ok (.aload_n 0, 1) := by decide +kernel
theorem dX12_findsRacks_210 : decode cX12_findsRacks 210 = .ok (.getfield 33, 3) := by decide +kernel
theorem dX12_findsRacks_213 : decode cX12_findsRacks 213 = .ok (.iload 5, 2) := by decide +kernel
theorem dX12_findsRacks_215 : decode cX12_findsRacks 215 = .ok (.iload 6, 2) := by decide +kernel
theorem dX12_findsRacks_217 : decode cX12_findsRacks 217 = .ok (.iastore, 1) := by decide +kernel
theorem dX12_findsRacks_218 : decode cX12_findsRacks 218 = .ok (.aload_n 0, 1) := by decide +kernel
theorem dX12_findsRacks_219 : decode cX12_findsRacks 219 = .ok (.getfield 39, 3) := by decide +kernel
theorem dX12_findsRacks_222 : decode cX12_findsRacks 222 = .ok (.iload 6, 2) := by decide +kernel
theorem dX12_findsRacks_224 : decode cX12_findsRacks 224 = .ok (.dup2, 1) := by decide +kernel
theorem dX12_findsRacks_225 : decode cX12_findsRacks 225 = .ok (.iaload, 1) := by decide +kernel
theorem dX12_findsRacks_226 : decode cX12_findsRacks 226 = .ok (.aload_n 0, 1) := by decide +kernel
theorem dX12_findsRacks_227 : decode cX12_findsRacks 227 = .ok (.aload_n 0, 1) := by decide +kernel
theorem dX12_findsRacks_228 : decode cX12_findsRacks 228 = .ok (.getfield 30, 3) := by decide +kernel
theorem dX12_findsRacks_231 : decode cX12_findsRacks 231 = .ok (.iload 5, 2) := by decide +kernel
theorem dX12_findsRacks_233 : decode cX12_findsRacks 233 = .ok (.iaload, 1) := by decide +kernel
theorem dX12_findsRacks_234 : decode cX12_findsRacks 234 = .ok (.invokevirtual 288, 3) := by decide +kernel
theorem dX12_findsRacks_237 : decode cX12_findsRacks 237 = .ok (.isub, 1) := by decide +kernel
theorem dX12_findsRacks_238 : decode cX12_findsRacks 238 = .ok (.iastore, 1) := by decide +kernel
theorem dX12_findsRacks_239 : decode cX12_findsRacks 239 = .ok (.iload 4, 2) := by decide +kernel
theorem dX12_findsRacks_241 : decode cX12_findsRacks 241 = .ok (.iload 7, 2) := by decide +kernel
theorem dX12_findsRacks_243 : decode cX12_findsRacks 243 = .ok (.aload_n 0, 1) := by decide +kernel
theorem dX12_findsRacks_244 : decode cX12_findsRacks 244 = .ok (.getfield 13, 3) := by decide +kernel
theorem dX12_findsRacks_247 : decode cX12_findsRacks 247 = .ok (.sipush 1772, 3) := by decide +kernel
theorem dX12_findsRacks_250 : decode cX12_findsRacks 250 = .ok (.iload 6, 2) := by decide +kernel
theorem dX12_findsRacks_252 : decode cX12_findsRacks 252 = .ok (.iadd, 1) := by decide +kernel
theorem dX12_findsRacks_253 : decode cX12_findsRacks 253 = .ok (.iaload, 1) := by decide +kernel
theorem dX12_findsRacks_254 : decode cX12_findsRacks 254 = .ok (.imul, 1) := by decide +kernel
theorem dX12_findsRacks_255 : decode cX12_findsRacks 255 = .ok (.iadd, 1) := by decide +kernel
theorem dX12_findsRacks_256 : decode cX12_findsRacks 256 = .ok (.istore 4, 2) := by decide +kernel
theorem dX12_findsRacks_258 : decode cX12_findsRacks 258 = .ok (.iload 5, 2) := by decide +kernel
theorem dX12_findsRacks_260 : decode cX12_findsRacks 260 = .ok (.iconst 1, 1) := by decide +kernel
theorem dX12_findsRacks_261 : decode cX12_findsRacks 261 = .ok (.iadd, 1) := by decide +kernel
theorem dX12_findsRacks_262 : decode cX12_findsRacks 262 = .ok (.iload_n 2, 1) := by decide +kernel
theorem dX12_findsRacks_263 : decode cX12_findsRacks 263 = .ok (.if_icmp .ge 17, 3) := by decide +kernel
theorem dX12_findsRacks_266 : decode cX12_findsRacks 266 = .ok (.iinc 5 1, 3) := by decide +kernel
theorem dX12_findsRacks_269 : decode cX12_findsRacks 269 = .ok (.aload_n 0, 1) := by decide +kernel
theorem dX12_findsRacks_270 : decode cX12_findsRacks 270 = .ok (.getfield 33, 3) := by decide +kernel
theorem dX12_findsRacks_273 : decode cX12_findsRacks 273 = .ok (.iload 5, 2) := by decide +kernel
theorem dX12_findsRacks_275 : decode cX12_findsRacks 275 = .ok (.iconst (-1), 1) := by decide +kernel
theorem dX12_findsRacks_276 : decode cX12_findsRacks 276 = .ok (.iastore, 1) := by decide +kernel
theorem dX12_findsRacks_277 : decode cX12_findsRacks 277 = .ok (.goto (-231), 3) := by decide +kernel
theorem dX12_findsRacks_280 : decode cX12_findsRacks 280 = .ok (.iload 4, 2) := by decide +kernel
theorem dX12_findsRacks_282 : decode cX12_findsRacks 282 = .ok (.istore_n 3, 1) := by decide +kernel
theorem dX12_findsRacks_283 : decode cX12_findsRacks 283 = .ok (.iconst 0, 1) := by decide +kernel
theorem dX12_findsRacks_284 : decode cX12_findsRacks 284 = .ok (.istore 8, 2) := by decide +kernel
theorem dX12_findsRacks_286 : decode cX12_findsRacks 286 = .ok (.iload 8, 2) := by decide +kernel
theorem dX12_findsRacks_288 : decode cX12_findsRacks 288 = .ok (.iload_n 2, 1) := by decide +kernel
theorem dX12_findsRacks_289 : decode cX12_findsRacks 289 = .ok (.if_icmp .ge 23, 3) := by decide +kernel
theorem dX12_findsRacks_292 : decode cX12_findsRacks 292 = .ok (.aload_n 0, 1) := by decide +kernel
theorem dX12_findsRacks_293 : decode cX12_findsRacks 293 = .ok (.getfield 36, 3) := by decide +kernel
theorem dX12_findsRacks_296 : decode cX12_findsRacks 296 = .ok (.iload 8, 2) := by decide +kernel
theorem dX12_findsRacks_298 : decode cX12_findsRacks 298 = .ok (.aload_n 0, 1) := by decide +kernel
theorem dX12_findsRacks_299 : decode cX12_findsRacks 299 = .ok (.getfield 33, 3) := by decide +kernel
theorem dX12_findsRacks_302 : decode cX12_findsRacks 302 = .ok (.iload 8, 2) := by decide +kernel
theorem dX12_findsRacks_304 : decode cX12_findsRacks 304 = .ok (.iaload, 1) := by decide +kernel
theorem dX12_findsRacks_305 : decode cX12_findsRacks 305 = .ok (.iastore, 1) := by decide +kernel
theorem dX12_findsRacks_306 : decode cX12_findsRacks 306 = .ok (.iinc 8 1, 3) := by decide +kernel
theorem dX12_findsRacks_309 : decode cX12_findsRacks 309 = .ok (.goto (-23), 3) := by decide +kernel
theorem dX12_findsRacks_312 : decode cX12_findsRacks 312 = .ok (.goto (-266), 3) := by decide +kernel
theorem dX12_findsRacks_315 : decode cX12_findsRacks 315 = .ok (.iload_n 3, 1) := by decide +kernel
theorem dX12_findsRacks_316 : decode cX12_findsRacks 316 = .ok (.ireturn, 1) := by decide +kernel
theorem dX12_best_0 : decode cX12_best 0 = .ok (.aload_n 0, 1) := by decide +kernel
theorem dX12_best_1 : decode cX12_best 1 = .ok (.iconst 0, 1) := by decide +kernel
theorem dX12_best_2 : decode cX12_best 2 = .ok (.putfield 1, 3) := by decide +kernel
theorem dX12_best_5 : decode cX12_best 5 = .ok (.iload_n 1, 1) := by decide +kernel
theorem dX12_best_6 : decode cX12_best 6 = .ok (.i2l, 1) := by decide +kernel
theorem dX12_best_7 : decode cX12_best 7 = .ok (.lconst 0, 1) := by decide +kernel
theorem dX12_best_8 : decode cX12_best 8 = .ok (.ldc2_w 159, 3) := by decide +kernel
theorem dX12_best_11 : decode cX12_best 11 = .ok (.invokestatic 142, 3) := by decide +kernel
theorem dX12_best_14 : decode cX12_best 14 = .ok (.ifCond .ne 6, 3) := by decide +kernel
theorem dX12_best_17 : decode cX12_best 17 = .ok (.bipush (-2), 2) := by decide +kernel
theorem dX12_best_19 : decode cX12_best 19 = .ok (.ireturn, 1) := by decide +kernel
theorem dX12_best_20 : decode cX12_best 20 = .ok (.iload_n 2, 1) := by decide +kernel
theorem dX12_best_21 : decode cX12_best 21 = .ok (.i2l, 1) := by decide +kernel
theorem dX12_best_22 : decode cX12_best 22 = .ok (.lconst 1, 1) := by decide +kernel
theorem dX12_best_23 : decode cX12_best 23 = .ok (.ldc2_w 296, 3) := by decide +kernel
theorem dX12_best_26 : decode cX12_best 26 = .ok (.invokestatic 142, 3) := by decide +kernel
theorem dX12_best_29 : decode cX12_best 29 = .ok (.ifCond .ne 6, 3) := by decide +kernel
theorem dX12_best_32 : decode cX12_best 32 = .ok (.bipush (-3), 2) := by decide +kernel
theorem dX12_best_34 : decode cX12_best 34 = .ok (.ireturn, 1) := by decide +kernel
theorem dX12_best_35 : decode cX12_best 35 = .ok (.aload_n 0, 1) := by decide +kernel
theorem dX12_best_36 : decode cX12_best 36 = .ok (.iload_n 2, 1) := by decide +kernel
theorem dX12_best_37 : decode cX12_best 37 = .ok (.invokevirtual 298, 3) := by decide +kernel
theorem dX12_best_40 : decode cX12_best 40 = .ok (.ifCond .ne 6, 3) := by decide +kernel
theorem dX12_best_43 : decode cX12_best 43 = .ok (.bipush (-5), 2) := by decide +kernel
theorem dX12_best_45 : decode cX12_best 45 = .ok (.ireturn, 1) := by decide +kernel
theorem dX12_best_46 : decode cX12_best 46 = .ok (.aload_n 0, 1) := by decide +kernel
theorem dX12_best_47 : decode cX12_best 47 = .ok (.getfield 69, 3) := by decide +kernel
theorem dX12_best_50 : decode cX12_best 50 = .ok (.iload_n 1, 1) := by decide +kernel
theorem dX12_best_51 : decode cX12_best 51 = .ok (.iaload, 1) := by decide +kernel
theorem dX12_best_52 : decode cX12_best 52 = .ok (.iconst (-1), 1) := by decide +kernel
theorem dX12_best_53 : decode cX12_best 53 = .ok (.if_icmp .ne 6, 3) := by decide +kernel
theorem dX12_best_56 : decode cX12_best 56 = .ok (.bipush (-6), 2) := by decide +kernel
theorem dX12_best_58 : decode cX12_best 58 = .ok (.ireturn, 1) := by decide +kernel
theorem dX12_best_59 : decode cX12_best 59 = .ok (.aload_n 0, 1) := by decide +kernel
theorem dX12_best_60 : decode cX12_best 60 = .ok (.getfield 72, 3) := by decide +kernel
theorem dX12_best_63 : decode cX12_best 63 = .ok (.iload_n 1, 1) := by decide +kernel
theorem dX12_best_64 : decode cX12_best 64 = .ok (.iaload, 1) := by decide +kernel
theorem dX12_best_65 : decode cX12_best 65 = .ok (.iload_n 2, 1) := by decide +kernel
theorem dX12_best_66 : decode cX12_best 66 = .ok (.if_icmp .ge 6, 3) := by decide +kernel
theorem dX12_best_69 : decode cX12_best 69 = .ok (.bipush (-7), 2) := by decide +kernel
theorem dX12_best_71 : decode cX12_best 71 = .ok (.ireturn, 1) := by decide +kernel
theorem dX12_best_72 : decode cX12_best 72 = .ok (.iconst 0, 1) := by decide +kernel
theorem dX12_best_73 : decode cX12_best 73 = .ok (.istore 4, 2) := by decide +kernel
theorem dX12_best_75 : decode cX12_best 75 = .ok (.iload 4, 2) := by decide +kernel
theorem dX12_best_77 : decode cX12_best 77 = .ok (.iload_n 2, 1) := by decide +kernel
theorem dX12_best_78 : decode cX12_best 78 = .ok (.if_icmp .ge 34, 3) := by decide +kernel
theorem dX12_best_81 : decode cX12_best 81 = .ok (.aload_n 0, 1) := by decide +kernel
theorem dX12_best_82 : decode cX12_best 82 = .ok (.getfield 75, 3) := by decide +kernel
theorem dX12_best_85 : decode cX12_best 85 = .ok (.bipush 40, 2) := by decide +kernel
theorem dX12_best_87 : decode cX12_best 87 = .ok (.iload_n 1, 1) := by decide +kernel
theorem dX12_best_88 : decode cX12_best 88 = .ok (.imul, 1) := by decide +kernel
theorem dX12_best_89 : decode cX12_best 89 = .ok (.iload 4, 2) := by decide +kernel
theorem dX12_best_91 : decode cX12_best 91 = .ok (.iadd, 1) := by decide +kernel
theorem dX12_best_92 : decode cX12_best 92 = .ok (.laload, 1) := by decide +kernel
theorem dX12_best_93 : decode cX12_best 93 = .ok (.lconst 0, 1) := by decide +kernel
theorem dX12_best_94 : decode cX12_best 94 = .ok (.ldc2_w 211, 3) := by decide +kernel
theorem dX12_best_97 : decode cX12_best 97 = .ok (.invokestatic 142, 3) := by decide +kernel
theorem dX12_best_100 : decode cX12_best 100 = .ok (.ifCond .ne 6, 3) := by decide +kernel
theorem dX12_best_103 : decode cX12_best 103 = .ok (.bipush (-3), 2) := by decide +kernel
theorem dX12_best_105 : decode cX12_best 105 = .ok (.ireturn, 1) := by decide +kernel
theorem dX12_best_106 : decode cX12_best 106 = .ok (.iinc 4 1, 3) := by decide +kernel
theorem dX12_best_109 : decode cX12_best 109 = .ok (.goto (-34), 3) := by decide +kernel
theorem dX12_best_112 : decode cX12_best 112 = .ok (.aload_n 0, 1) := by decide +kernel
theorem dX12_best_113 : decode cX12_best 113 = .ok (.iload_n 1, 1) := by decide +kernel
theorem dX12_best_114 : decode cX12_best 114 = .ok (.iload_n 2, 1) := by decide +kernel
theorem dX12_best_115 : decode cX12_best 115 = .ok (.invokevirtual 301, 3) := by decide +kernel
theorem dX12_best_118 : decode cX12_best 118 = .ok (.istore 4, 2) := by decide +kernel
theorem dX12_best_120 : decode cX12_best 120 = .ok (.iload 4, 2) := by decide +kernel
theorem dX12_best_122 : decode cX12_best 122 = .ok (.iconst (-1), 1) := by decide +kernel
theorem dX12_best_123 : decode cX12_best 123 = .ok (.if_icmp .eq 8, 3) := by decide +kernel
theorem dX12_best_126 : decode cX12_best 126 = .ok (.iload_n 3, 1) := by decide +kernel
theorem dX12_best_127 : decode cX12_best 127 = .ok (.iconst (-1), 1) := by decide +kernel
theorem dX12_best_128 : decode cX12_best 128 = .ok (.if_icmp .ne 8, 3) := by decide +kernel
theorem dX12_best_131 : decode cX12_best 131 = .ok (.iload 4, 2) := by decide +kernel
theorem dX12_best_133 : decode cX12_best 133 = .ok (.goto 26, 3) := by decide +kernel
theorem dX12_best_136 : decode cX12_best 136 = .ok (.iload_n 3, 1) := by decide +kernel
theorem dX12_best_137 : decode cX12_best 137 = .ok (.i2l, 1) := by decide +kernel
theorem dX12_best_138 : decode cX12_best 138 = .ok (.lconst 0, 1) := by decide +kernel
theorem dX12_best_139 : decode cX12_best 139 = .ok (.iload_n 2, 1) := by decide +kernel
theorem dX12_best_140 : decode cX12_best 140 = .ok (.iconst 1, 1) := by decide +kernel
theorem dX12_best_141 : decode cX12_best 141 = .ok (.isub, 1) := by decide +kernel
theorem dX12_best_142 : decode cX12_best 142 = .ok (.i2l, 1) := by decide +kernel
theorem dX12_best_143 : decode cX12_best 143 = .ok (.invokestatic 142, 3) := by decide +kernel
theorem dX12_best_146 : decode cX12_best 146 = .ok (.ifCond .eq 12, 3) := by decide +kernel
theorem dX12_best_149 : decode cX12_best 149 = .ok (.aload_n 0, 1) := by decide +kernel
theorem dX12_best_150 : decode cX12_best 150 = .ok (.getfield 36, 3) := by decide +kernel
theorem dX12_best_153 : decode cX12_best 153 = .ok (.iload_n 3, 1) := by decide +kernel
theorem dX12_best_154 : decode cX12_best 154 = .ok (.iaload, 1) := by decide +kernel
theorem dX12_best_155 : decode cX12_best 155 = .ok (.goto 4, 3) := by decide +kernel
theorem dX12_best_158 : decode cX12_best 158 = .ok (.iconst (-1), 1) := by decide +kernel
theorem dX12_best_159 : decode cX12_best 159 = .ok (.ireturn, 1) := by decide +kernel
theorem dX12_lifeOf_0 : decode cX12_lifeOf 0 = .ok (.aload_n 0, 1) := by decide +kernel
theorem dX12_lifeOf_1 : decode cX12_lifeOf 1 = .ok (.getfield 13, 3) := by decide +kernel
theorem dX12_lifeOf_4 : decode cX12_lifeOf 4 = .ok (.sipush 692, 3) := by decide +kernel
theorem dX12_lifeOf_7 : decode cX12_lifeOf 7 = .ok (.iload_n 1, 1) := by decide +kernel
theorem dX12_lifeOf_8 : decode cX12_lifeOf 8 = .ok (.iadd, 1) := by decide +kernel
theorem dX12_lifeOf_9 : decode cX12_lifeOf 9 = .ok (.iaload, 1) := by decide +kernel
theorem dX12_lifeOf_10 : decode cX12_lifeOf 10 = .ok (.iconst 2, 1) := by decide +kernel
theorem dX12_lifeOf_11 : decode cX12_lifeOf 11 = .ok (.iload 4, 2) := by decide +kernel
theorem dX12_lifeOf_13 : decode cX12_lifeOf 13 = .ok (.imul, 1) := by decide +kernel
theorem dX12_lifeOf_14 : decode cX12_lifeOf 14 = .ok (.iadd, 1) := by decide +kernel
theorem dX12_lifeOf_15 : decode cX12_lifeOf 15 = .ok (.istore 5, 2) := by decide +kernel
theorem dX12_lifeOf_17 : decode cX12_lifeOf 17 = .ok (.iconst (-1), 1) := by decide +kernel
theorem dX12_lifeOf_18 : decode cX12_lifeOf 18 = .ok (.istore 6, 2) := by decide +kernel
theorem dX12_lifeOf_20 : decode cX12_lifeOf 20 = .ok (.iconst 0, 1) := by decide +kernel
theorem dX12_lifeOf_21 : decode cX12_lifeOf 21 = .ok (.istore 7, 2) := by decide +kernel
theorem dX12_lifeOf_23 : decode cX12_lifeOf 23 = .ok (.iload 7, 2) := by decide +kernel
theorem dX12_lifeOf_25 : decode cX12_lifeOf 25 = .ok (.iload_n 3, 1) := by decide +kernel
theorem dX12_lifeOf_26 : decode cX12_lifeOf 26 = .ok (.if_icmp .ge 130, 3) := by decide +kernel
theorem dX12_lifeOf_29 : decode cX12_lifeOf 29 = .ok (.iload 6, 2) := by decide +kernel
theorem dX12_lifeOf_31 : decode cX12_lifeOf 31 = .ok (.iconst (-1), 1) := by decide +kernel
theorem dX12_lifeOf_32 : decode cX12_lifeOf 32 = .ok (.if_icmp .eq 40, 3) := by decide +kernel
theorem dX12_lifeOf_35 : decode cX12_lifeOf 35 = .ok (.iconst 2, 1) := by decide +kernel
theorem dX12_lifeOf_36 : decode cX12_lifeOf 36 = .ok (.iload_n 2, 1) := by decide +kernel
theorem dX12_lifeOf_37 : decode cX12_lifeOf 37 = .ok (.imul, 1) := by decide +kernel
theorem dX12_lifeOf_38 : decode cX12_lifeOf 38 = .ok (.aload_n 0, 1) := by decide +kernel
theorem dX12_lifeOf_39 : decode cX12_lifeOf 39 = .ok (.iconst 0, 1) := by decide +kernel
theorem dX12_lifeOf_40 : decode cX12_lifeOf 40 = .ok (.iload_n 2, 1) := by decide +kernel
theorem dX12_lifeOf_41 : decode cX12_lifeOf 41 = .ok (.iload 7, 2) := by decide +kernel
theorem dX12_lifeOf_43 : decode cX12_lifeOf 43 = .ok (.iload 6, 2) := by decide +kernel
theorem dX12_lifeOf_45 : decode cX12_lifeOf 45 = .ok (.isub, 1) := by decide +kernel
theorem dX12_lifeOf_46 : decode cX12_lifeOf 46 = .ok (.invokestatic 202, 3) := by decide +kernel
theorem dX12_lifeOf_49 : decode cX12_lifeOf 49 = .ok (.invokevirtual 205, 3) := by decide +kernel
theorem dX12_lifeOf_52 : decode cX12_lifeOf 52 = .ok (.iadd, 1) := by decide +kernel
theorem dX12_lifeOf_53 : decode cX12_lifeOf 53 = .ok (.istore 8, 2) := by decide +kernel
theorem dX12_lifeOf_55 : decode cX12_lifeOf 55 = .ok (.iload 5, 2) := by decide +kernel
theorem dX12_lifeOf_57 : decode cX12_lifeOf 57 = .ok (.iload 8, 2) := by decide +kernel
theorem dX12_lifeOf_59 : decode cX12_lifeOf 59 = .ok (.if_icmp .lt 13, 3) := by decide +kernel
theorem dX12_lifeOf_62 : decode cX12_lifeOf 62 = .ok (.iload 5, 2) := by decide +kernel
theorem dX12_lifeOf_64 : decode cX12_lifeOf 64 = .ok (.iload 8, 2) := by decide +kernel
theorem dX12_lifeOf_66 : decode cX12_lifeOf 66 = .ok (.isub, 1) := by decide +kernel
theorem dX12_lifeOf_67 : decode cX12_lifeOf 67 = .ok (.istore 5, 2) := by decide +kernel
theorem dX12_lifeOf_69 : decode cX12_lifeOf 69 = .ok (.iconst (-1), 1) := by decide +kernel
theorem dX12_lifeOf_70 : decode cX12_lifeOf 70 = .ok (.istore 6, 2) := by decide +kernel
theorem dX12_lifeOf_72 : decode cX12_lifeOf 72 = .ok (.iload 5, 2) := by decide +kernel
theorem dX12_lifeOf_74 : decode cX12_lifeOf 74 = .ok (.iconst 2, 1) := by decide +kernel
theorem dX12_lifeOf_75 : decode cX12_lifeOf 75 = .ok (.aload_n 0, 1) := by decide +kernel
theorem dX12_lifeOf_76 : decode cX12_lifeOf 76 = .ok (.getfield 13, 3) := by decide +kernel
theorem dX12_lifeOf_79 : decode cX12_lifeOf 79 = .ok (.sipush 644, 3) := by decide +kernel
theorem dX12_lifeOf_82 : decode cX12_lifeOf 82 = .ok (.iload_n 1, 1) := by decide +kernel
theorem dX12_lifeOf_83 : decode cX12_lifeOf 83 = .ok (.iadd, 1) := by decide +kernel
theorem dX12_lifeOf_84 : decode cX12_lifeOf 84 = .ok (.iaload, 1) := by decide +kernel
theorem dX12_lifeOf_85 : decode cX12_lifeOf 85 = .ok (.aload_n 0, 1) := by decide +kernel
theorem dX12_lifeOf_86 : decode cX12_lifeOf 86 = .ok (.getfield 13, 3) := by decide +kernel
theorem dX12_lifeOf_89 : decode cX12_lifeOf 89 = .ok (.sipush 660, 3) := by decide +kernel
theorem dX12_lifeOf_92 : decode cX12_lifeOf 92 = .ok (.iload_n 1, 1) := by decide +kernel
theorem dX12_lifeOf_93 : decode cX12_lifeOf 93 = .ok (.iadd, 1) := by decide +kernel
theorem dX12_lifeOf_94 : decode cX12_lifeOf 94 = .ok (.iaload, 1) := by decide +kernel
theorem dX12_lifeOf_95 : decode cX12_lifeOf 95 = .ok (.isub, 1) := by decide +kernel
theorem dX12_lifeOf_96 : decode cX12_lifeOf 96 = .ok (.aload_n 0, 1) := by decide +kernel
theorem dX12_lifeOf_97 : decode cX12_lifeOf 97 = .ok (.getfield 13, 3) := by decide +kernel
theorem dX12_lifeOf_100 : decode cX12_lifeOf 100 = .ok (.sipush 676, 3) := by decide +kernel
theorem dX12_lifeOf_103 : decode cX12_lifeOf 103 = .ok (.iload_n 1, 1) := by decide +kernel
theorem dX12_lifeOf_104 : decode cX12_lifeOf 104 = .ok (.iadd, 1) := by decide +kernel
theorem dX12_lifeOf_105 : decode cX12_lifeOf 105 = .ok (.iaload, 1) := by decide +kernel
theorem dX12_lifeOf_106 : decode cX12_lifeOf 106 = .ok (.isub, 1) := by decide +kernel
theorem dX12_lifeOf_107 : decode cX12_lifeOf 107 = .ok (.imul, 1) := by decide +kernel
theorem dX12_lifeOf_108 : decode cX12_lifeOf 108 = .ok (.iadd, 1) := by decide +kernel
theorem dX12_lifeOf_109 : decode cX12_lifeOf 109 = .ok (.istore 5, 2) := by decide +kernel
theorem dX12_lifeOf_111 : decode cX12_lifeOf 111 = .ok (.iload 6, 2) := by decide +kernel
theorem dX12_lifeOf_113 : decode cX12_lifeOf 113 = .ok (.iconst (-1), 1) := by decide +kernel
theorem dX12_lifeOf_114 : decode cX12_lifeOf 114 = .ok (.if_icmp .ne 28, 3) := by decide +kernel
theorem dX12_lifeOf_117 : decode cX12_lifeOf 117 = .ok (.iload 5, 2) := by decide +kernel
theorem dX12_lifeOf_119 : decode cX12_lifeOf 119 = .ok (.ifCond .ge 23, 3) := by decide +kernel
theorem dX12_lifeOf_122 : decode cX12_lifeOf 122 = .ok (.iload 5, 2) := by decide +kernel
theorem dX12_lifeOf_124 : decode cX12_lifeOf 124 = .ok (.iconst 2, 1) := by decide +kernel
theorem dX12_lifeOf_125 : decode cX12_lifeOf 125 = .ok (.iload_n 2, 1) := by decide +kernel
theorem dX12_lifeOf_126 : decode cX12_lifeOf 126 = .ok (.imul, 1) := by decide +kernel
theorem dX12_lifeOf_127 : decode cX12_lifeOf 127 = .ok (.aload_n 0, 1) := by decide +kernel
theorem dX12_lifeOf_128 : decode cX12_lifeOf 128 = .ok (.getfield 13, 3) := by decide +kernel
theorem dX12_lifeOf_131 : decode cX12_lifeOf 131 = .ok (.bipush 26, 2) := by decide +kernel
theorem dX12_lifeOf_133 : decode cX12_lifeOf 133 = .ok (.iaload, 1) := by decide +kernel
theorem dX12_lifeOf_134 : decode cX12_lifeOf 134 = .ok (.isub, 1) := by decide +kernel
theorem dX12_lifeOf_135 : decode cX12_lifeOf 135 = .ok (.iadd, 1) := by decide +kernel
theorem dX12_lifeOf_136 : decode cX12_lifeOf 136 = .ok (.istore 5, 2) := by decide +kernel
theorem dX12_lifeOf_138 : decode cX12_lifeOf 138 = .ok (.iload 7, 2) := by decide +kernel
theorem dX12_lifeOf_140 : decode cX12_lifeOf 140 = .ok (.istore 6, 2) := by decide +kernel
theorem dX12_lifeOf_142 : decode cX12_lifeOf 142 = .ok (.iload 5, 2) := by decide +kernel
theorem dX12_lifeOf_144 : decode cX12_lifeOf 144 = .ok (.ifCond .ge 6, 3) := by decide +kernel
theorem dX12_lifeOf_147 : decode cX12_lifeOf 147 = .ok (.iload 7, 2) := by decide +kernel
theorem dX12_lifeOf_149 : decode cX12_lifeOf 149 = .ok (.ireturn, 1) := by decide +kernel
theorem dX12_lifeOf_150 : decode cX12_lifeOf 150 = .ok (.iinc 7 1, 3) := by decide +kernel
theorem dX12_lifeOf_153 : decode cX12_lifeOf 153 = .ok (.goto (-130), 3) := by decide +kernel
theorem dX12_lifeOf_156 : decode cX12_lifeOf 156 = .ok (.iconst (-1), 1) := by decide +kernel
theorem dX12_lifeOf_157 : decode cX12_lifeOf 157 = .ok (.ireturn, 1) := by decide +kernel
theorem dX12_refusesLife_0 : decode cX12_refusesLife 0 = .ok (.aload_n 0, 1) := by decide +kernel
theorem dX12_refusesLife_1 : decode cX12_refusesLife 1 = .ok (.iload_n 1, 1) := by decide +kernel
theorem dX12_refusesLife_2 : decode cX12_refusesLife 2 = .ok (.invokevirtual 215, 3) := by decide +kernel
theorem dX12_refusesLife_5 : decode cX12_refusesLife 5 = .ok (.ifCond .eq 11, 3) := by decide +kernel
theorem dX12_refusesLife_8 : decode cX12_refusesLife 8 = .ok (.aload_n 0, 1) := by decide +kernel
theorem dX12_refusesLife_9 : decode cX12_refusesLife 9 = .ok (.iload_n 2, 1) := by decide +kernel
theorem dX12_refusesLife_10 : decode cX12_refusesLife 10 = .ok (.invokevirtual 273, 3) := by decide +kernel
theorem dX12_refusesLife_13 : decode cX12_refusesLife 13 = .ok (.ifCond .ne 6, 3) := by decide +kernel
theorem dX12_refusesLife_16 : decode cX12_refusesLife 16 = .ok (.bipush (-2), 2) := by decide +kernel
theorem dX12_refusesLife_18 : decode cX12_refusesLife 18 = .ok (.ireturn, 1) := by decide +kernel
theorem dX12_refusesLife_19 : decode cX12_refusesLife 19 = .ok (.iload_n 3, 1) := by decide +kernel
theorem dX12_refusesLife_20 : decode cX12_refusesLife 20 = .ok (.i2l, 1) := by decide +kernel
theorem dX12_refusesLife_21 : decode cX12_refusesLife 21 = .ok (.lconst 1, 1) := by decide +kernel
theorem dX12_refusesLife_22 : decode cX12_refusesLife 22 = .ok (.ldc2_w 198, 3) := by decide +kernel
theorem dX12_refusesLife_25 : decode cX12_refusesLife 25 = .ok (.invokestatic 142, 3) := by decide +kernel
theorem dX12_refusesLife_28 : decode cX12_refusesLife 28 = .ok (.ifCond .eq 29, 3) := by decide +kernel
theorem dX12_refusesLife_31 : decode cX12_refusesLife 31 = .ok (.iload 4, 2) := by decide +kernel
theorem dX12_refusesLife_33 : decode cX12_refusesLife 33 = .ok (.i2l, 1) := by decide +kernel
theorem dX12_refusesLife_34 : decode cX12_refusesLife 34 = .ok (.lconst 1, 1) := by decide +kernel
theorem dX12_refusesLife_35 : decode cX12_refusesLife 35 = .ok (.ldc2_w 304, 3) := by decide +kernel
theorem dX12_refusesLife_38 : decode cX12_refusesLife 38 = .ok (.invokestatic 142, 3) := by decide +kernel
theorem dX12_refusesLife_41 : decode cX12_refusesLife 41 = .ok (.ifCond .eq 16, 3) := by decide +kernel
theorem dX12_refusesLife_44 : decode cX12_refusesLife 44 = .ok (.iload 5, 2) := by decide +kernel
theorem dX12_refusesLife_46 : decode cX12_refusesLife 46 = .ok (.i2l, 1) := by decide +kernel
theorem dX12_refusesLife_47 : decode cX12_refusesLife 47 = .ok (.lconst 0, 1) := by decide +kernel
theorem dX12_refusesLife_48 : decode cX12_refusesLife 48 = .ok (.ldc2_w 198, 3) := by decide +kernel
theorem dX12_refusesLife_51 : decode cX12_refusesLife 51 = .ok (.invokestatic 142, 3) := by decide +kernel
theorem dX12_refusesLife_54 : decode cX12_refusesLife 54 = .ok (.ifCond .ne 6, 3) := by decide +kernel
theorem dX12_refusesLife_57 : decode cX12_refusesLife 57 = .ok (.bipush (-3), 2) := by decide +kernel
theorem dX12_refusesLife_59 : decode cX12_refusesLife 59 = .ok (.ireturn, 1) := by decide +kernel
theorem dX12_refusesLife_60 : decode cX12_refusesLife 60 = .ok (.aload_n 0, 1) := by decide +kernel
theorem dX12_refusesLife_61 : decode cX12_refusesLife 61 = .ok (.iconst 0, 1) := by decide +kernel
theorem dX12_refusesLife_62 : decode cX12_refusesLife 62 = .ok (.iload_n 3, 1) := by decide +kernel
theorem dX12_refusesLife_63 : decode cX12_refusesLife 63 = .ok (.iconst 1, 1) := by decide +kernel
theorem dX12_refusesLife_64 : decode cX12_refusesLife 64 = .ok (.invokevirtual 205, 3) := by decide +kernel
theorem dX12_refusesLife_67 : decode cX12_refusesLife 67 = .ok (.iconst (-1), 1) := by decide +kernel
theorem dX12_refusesLife_68 : decode cX12_refusesLife 68 = .ok (.if_icmp .ne 8, 3) := by decide +kernel
theorem dX12_refusesLife_71 : decode cX12_refusesLife 71 = .ok (.bipush (-5), 2) := by decide +kernel
theorem dX12_refusesLife_73 : decode cX12_refusesLife 73 = .ok (.goto 4, 3) := by decide +kernel
theorem dX12_refusesLife_76 : decode cX12_refusesLife 76 = .ok (.iconst 0, 1) := by decide +kernel
theorem dX12_refusesLife_77 : decode cX12_refusesLife 77 = .ok (.ireturn, 1) := by decide +kernel
theorem dX12_life_0 : decode cX12_life 0 = .ok (.aload_n 0, 1) := by decide +kernel
theorem dX12_life_1 : decode cX12_life 1 = .ok (.iconst 0, 1) := by decide +kernel
theorem dX12_life_2 : decode cX12_life 2 = .ok (.putfield 1, 3) := by decide +kernel
theorem dX12_life_5 : decode cX12_life 5 = .ok (.aload_n 0, 1) := by decide +kernel
theorem dX12_life_6 : decode cX12_life 6 = .ok (.iload_n 1, 1) := by decide +kernel
theorem dX12_life_7 : decode cX12_life 7 = .ok (.iload_n 2, 1) := by decide +kernel
theorem dX12_life_8 : decode cX12_life 8 = .ok (.iload_n 3, 1) := by decide +kernel
theorem dX12_life_9 : decode cX12_life 9 = .ok (.iload 4, 2) := by decide +kernel
theorem dX12_life_11 : decode cX12_life 11 = .ok (.iload 5, 2) := by decide +kernel
theorem dX12_life_13 : decode cX12_life 13 = .ok (.invokevirtual 306, 3) := by decide +kernel
theorem dX12_life_16 : decode cX12_life 16 = .ok (.istore 6, 2) := by decide +kernel
theorem dX12_life_18 : decode cX12_life 18 = .ok (.iload 6, 2) := by decide +kernel
theorem dX12_life_20 : decode cX12_life 20 = .ok (.ifCond .eq 8, 3) := by decide +kernel
theorem dX12_life_23 : decode cX12_life 23 = .ok (.iload 6, 2) := by decide +kernel
theorem dX12_life_25 : decode cX12_life 25 = .ok (.goto 13, 3) := by decide +kernel
theorem dX12_life_28 : decode cX12_life 28 = .ok (.aload_n 0, 1) := by decide +kernel
theorem dX12_life_29 : decode cX12_life 29 = .ok (.iload_n 1, 1) := by decide +kernel
theorem dX12_life_30 : decode cX12_life 30 = .ok (.iload_n 3, 1) := by decide +kernel
theorem dX12_life_31 : decode cX12_life 31 = .ok (.iload 4, 2) := by decide +kernel
theorem dX12_life_33 : decode cX12_life 33 = .ok (.iload 5, 2) := by decide +kernel
theorem dX12_life_35 : decode cX12_life 35 = .ok (.invokevirtual 310, 3) := by decide +kernel
theorem dX12_life_38 : decode cX12_life 38 = .ok (.ireturn, 1) := by decide +kernel
theorem dX12_needs_0 : decode cX12_needs 0 = .ok (.aload_n 0, 1) := by decide +kernel
theorem dX12_needs_1 : decode cX12_needs 1 = .ok (.iconst 0, 1) := by decide +kernel
theorem dX12_needs_2 : decode cX12_needs 2 = .ok (.putfield 1, 3) := by decide +kernel
theorem dX12_needs_5 : decode cX12_needs 5 = .ok (.aload_n 0, 1) := by decide +kernel
theorem dX12_needs_6 : decode cX12_needs 6 = .ok (.iload_n 1, 1) := by decide +kernel
theorem dX12_needs_7 : decode cX12_needs 7 = .ok (.iload_n 2, 1) := by decide +kernel
theorem dX12_needs_8 : decode cX12_needs 8 = .ok (.iload_n 3, 1) := by decide +kernel
theorem dX12_needs_9 : decode cX12_needs 9 = .ok (.iload 4, 2) := by decide +kernel
theorem dX12_needs_11 : decode cX12_needs 11 = .ok (.iconst 0, 1) := by decide +kernel
theorem dX12_needs_12 : decode cX12_needs 12 = .ok (.invokevirtual 306, 3) := by decide +kernel
theorem dX12_needs_15 : decode cX12_needs 15 = .ok (.istore 5, 2) := by decide +kernel
theorem dX12_needs_17 : decode cX12_needs 17 = .ok (.iload 5, 2) := by decide +kernel
theorem dX12_needs_19 : decode cX12_needs 19 = .ok (.ifCond .eq 6, 3) := by decide +kernel
theorem dX12_needs_22 : decode cX12_needs 22 = .ok (.iload 5, 2) := by decide +kernel
theorem dX12_needs_24 : decode cX12_needs 24 = .ok (.ireturn, 1) := by decide +kernel
theorem dX12_needs_25 : decode cX12_needs 25 = .ok (.iconst 0, 1) := by decide +kernel
theorem dX12_needs_26 : decode cX12_needs 26 = .ok (.istore 6, 2) := by decide +kernel
theorem dX12_needs_28 : decode cX12_needs 28 = .ok (.iload 6, 2) := by decide +kernel
theorem dX12_needs_30 : decode cX12_needs 30 = .ok (.sipush 1000, 3) := by decide +kernel
theorem dX12_needs_33 : decode cX12_needs 33 = .ok (.if_icmp .ge 26, 3) := by decide +kernel
theorem dX12_needs_36 : decode cX12_needs 36 = .ok (.aload_n 0, 1) := by decide +kernel
theorem dX12_needs_37 : decode cX12_needs 37 = .ok (.iload_n 1, 1) := by decide +kernel
theorem dX12_needs_38 : decode cX12_needs 38 = .ok (.iload_n 3, 1) := by decide +kernel
theorem dX12_needs_39 : decode cX12_needs 39 = .ok (.iload 4, 2) := by decide +kernel
theorem dX12_needs_41 : decode cX12_needs 41 = .ok (.iload 6, 2) := by decide +kernel
theorem dX12_needs_43 : decode cX12_needs 43 = .ok (.invokevirtual 310, 3) := by decide +kernel
theorem dX12_needs_46 : decode cX12_needs 46 = .ok (.iconst (-1), 1) := by decide +kernel
theorem dX12_needs_47 : decode cX12_needs 47 = .ok (.if_icmp .ne 6, 3) := by decide +kernel
theorem dX12_needs_50 : decode cX12_needs 50 = .ok (.iload 6, 2) := by decide +kernel
theorem dX12_needs_52 : decode cX12_needs 52 = .ok (.ireturn, 1) := by decide +kernel
theorem dX12_needs_53 : decode cX12_needs 53 = .ok (.iinc 6 1, 3) := by decide +kernel
theorem dX12_needs_56 : decode cX12_needs 56 = .ok (.goto (-28), 3) := by decide +kernel
theorem dX12_needs_59 : decode cX12_needs 59 = .ok (.iconst (-1), 1) := by decide +kernel
theorem dX12_needs_60 : decode cX12_needs 60 = .ok (.ireturn, 1) := by decide +kernel
theorem dX12_lotsDo_0 : decode cX12_lotsDo 0 = .ok (.iconst 0, 1) := by decide +kernel
theorem dX12_lotsDo_1 : decode cX12_lotsDo 1 = .ok (.istore 5, 2) := by decide +kernel
theorem dX12_lotsDo_3 : decode cX12_lotsDo 3 = .ok (.iconst 1, 1) := by decide +kernel
theorem dX12_lotsDo_4 : decode cX12_lotsDo 4 = .ok (.istore 6, 2) := by decide +kernel
theorem dX12_lotsDo_6 : decode cX12_lotsDo 6 = .ok (.iload_n 1, 1) := by decide +kernel
theorem dX12_lotsDo_7 : decode cX12_lotsDo 7 = .ok (.istore 7, 2) := by decide +kernel
theorem dX12_lotsDo_9 : decode cX12_lotsDo 9 = .ok (.iload 7, 2) := by decide +kernel
theorem dX12_lotsDo_11 : decode cX12_lotsDo 11 = .ok (.iload_n 2, 1) := by decide +kernel
theorem dX12_lotsDo_12 : decode cX12_lotsDo 12 = .ok (.if_icmp .ge 56, 3) := by decide +kernel
theorem dX12_lotsDo_15 : decode cX12_lotsDo 15 = .ok (.aload_n 0, 1) := by decide +kernel
theorem dX12_lotsDo_16 : decode cX12_lotsDo 16 = .ok (.getfield 42, 3) := by decide +kernel
theorem dX12_lotsDo_19 : decode cX12_lotsDo 19 = .ok (.iload 7, 2) := by decide +kernel
theorem dX12_lotsDo_21 : decode cX12_lotsDo 21 = .ok (.iaload, 1) := by decide +kernel
theorem dX12_lotsDo_22 : decode cX12_lotsDo 22 = .ok (.iload 4, 2) := by decide +kernel
theorem dX12_lotsDo_24 : decode cX12_lotsDo 24 = .ok (.if_icmp .le 5, 3) := by decide +kernel
theorem dX12_lotsDo_27 : decode cX12_lotsDo 27 = .ok (.iconst 0, 1) := by decide +kernel
theorem dX12_lotsDo_28 : decode cX12_lotsDo 28 = .ok (.ireturn, 1) := by decide +kernel
theorem dX12_lotsDo_29 : decode cX12_lotsDo 29 = .ok (.iload 5, 2) := by decide +kernel
theorem dX12_lotsDo_31 : decode cX12_lotsDo 31 = .ok (.aload_n 0, 1) := by decide +kernel
theorem dX12_lotsDo_32 : decode cX12_lotsDo 32 = .ok (.getfield 42, 3) := by decide +kernel
theorem dX12_lotsDo_35 : decode cX12_lotsDo 35 = .ok (.iload 7, 2) := by decide +kernel
theorem dX12_lotsDo_37 : decode cX12_lotsDo 37 = .ok (.iaload, 1) := by decide +kernel
theorem dX12_lotsDo_38 : decode cX12_lotsDo 38 = .ok (.iadd, 1) := by decide +kernel
theorem dX12_lotsDo_39 : decode cX12_lotsDo 39 = .ok (.iload 4, 2) := by decide +kernel
theorem dX12_lotsDo_41 : decode cX12_lotsDo 41 = .ok (.if_icmp .le 9, 3) := by decide +kernel
theorem dX12_lotsDo_44 : decode cX12_lotsDo 44 = .ok (.iinc 6 1, 3) := by decide +kernel
theorem dX12_lotsDo_47 : decode cX12_lotsDo 47 = .ok (.iconst 0, 1) := by decide +kernel
theorem dX12_lotsDo_48 : decode cX12_lotsDo 48 = .ok (.istore 5, 2) := by decide +kernel
theorem dX12_lotsDo_50 : decode cX12_lotsDo 50 = .ok (.iload 5, 2) := by decide +kernel
theorem dX12_lotsDo_52 : decode cX12_lotsDo 52 = .ok (.aload_n 0, 1) := by decide +kernel
theorem dX12_lotsDo_53 : decode cX12_lotsDo 53 = .ok (.getfield 42, 3) := by decide +kernel
theorem dX12_lotsDo_56 : decode cX12_lotsDo 56 = .ok (.iload 7, 2) := by decide +kernel
theorem dX12_lotsDo_58 : decode cX12_lotsDo 58 = .ok (.iaload, 1) := by decide +kernel
theorem dX12_lotsDo_59 : decode cX12_lotsDo 59 = .ok (.iadd, 1) := by decide +kernel
theorem dX12_lotsDo_60 : decode cX12_lotsDo 60 = .ok (.istore 5, 2) := by decide +kernel
theorem dX12_lotsDo_62 : decode cX12_lotsDo 62 = .ok (.iinc 7 1, 3) := by decide +kernel
theorem dX12_lotsDo_65 : decode cX12_lotsDo 65 = .ok (.goto (-56), 3) := by decide +kernel
theorem dX12_lotsDo_68 : decode cX12_lotsDo 68 = .ok (.iload 6, 2) := by decide +kernel
theorem dX12_lotsDo_70 : decode cX12_lotsDo 70 = .ok (.iload_n 3, 1) := by decide +kernel
theorem dX12_lotsDo_71 : decode cX12_lotsDo 71 = .ok (.if_icmp .gt 14, 3) := by decide +kernel
theorem dX12_lotsDo_74 : decode cX12_lotsDo 74 = .ok (.iload_n 2, 1) := by decide +kernel
theorem dX12_lotsDo_75 : decode cX12_lotsDo 75 = .ok (.iload_n 1, 1) := by decide +kernel
theorem dX12_lotsDo_76 : decode cX12_lotsDo 76 = .ok (.isub, 1) := by decide +kernel
theorem dX12_lotsDo_77 : decode cX12_lotsDo 77 = .ok (.iload_n 3, 1) := by decide +kernel
theorem dX12_lotsDo_78 : decode cX12_lotsDo 78 = .ok (.if_icmp .lt 7, 3) := by decide +kernel
theorem dX12_lotsDo_81 : decode cX12_lotsDo 81 = .ok (.iconst 1, 1) := by decide +kernel
theorem dX12_lotsDo_82 : decode cX12_lotsDo 82 = .ok (.goto 4, 3) := by decide +kernel
theorem dX12_lotsDo_85 : decode cX12_lotsDo 85 = .ok (.iconst 0, 1) := by decide +kernel
theorem dX12_lotsDo_86 : decode cX12_lotsDo 86 = .ok (.ireturn, 1) := by decide +kernel
theorem dX12_lots_0 : decode cX12_lots 0 = .ok (.aload_n 0, 1) := by decide +kernel
theorem dX12_lots_1 : decode cX12_lots 1 = .ok (.iconst 0, 1) := by decide +kernel
theorem dX12_lots_2 : decode cX12_lots 2 = .ok (.putfield 1, 3) := by decide +kernel
theorem dX12_lots_5 : decode cX12_lots 5 = .ok (.iload_n 1, 1) := by decide +kernel
theorem dX12_lots_6 : decode cX12_lots 6 = .ok (.i2l, 1) := by decide +kernel
theorem dX12_lots_7 : decode cX12_lots 7 = .ok (.lconst 1, 1) := by decide +kernel
theorem dX12_lots_8 : decode cX12_lots 8 = .ok (.ldc2_w 286, 3) := by decide +kernel
theorem dX12_lots_11 : decode cX12_lots 11 = .ok (.invokestatic 142, 3) := by decide +kernel
theorem dX12_lots_14 : decode cX12_lots 14 = .ok (.ifCond .ne 6, 3) := by decide +kernel
theorem dX12_lots_17 : decode cX12_lots 17 = .ok (.bipush (-3), 2) := by decide +kernel
theorem dX12_lots_19 : decode cX12_lots 19 = .ok (.ireturn, 1) := by decide +kernel
theorem dX12_lots_20 : decode cX12_lots 20 = .ok (.iconst 0, 1) := by decide +kernel
theorem dX12_lots_21 : decode cX12_lots 21 = .ok (.istore_n 3, 1) := by decide +kernel
theorem dX12_lots_22 : decode cX12_lots 22 = .ok (.iconst 0, 1) := by decide +kernel
theorem dX12_lots_23 : decode cX12_lots 23 = .ok (.istore 4, 2) := by decide +kernel
theorem dX12_lots_25 : decode cX12_lots 25 = .ok (.iload 4, 2) := by decide +kernel
theorem dX12_lots_27 : decode cX12_lots 27 = .ok (.aload_n 0, 1) := by decide +kernel
theorem dX12_lots_28 : decode cX12_lots 28 = .ok (.getfield 13, 3) := by decide +kernel
theorem dX12_lots_31 : decode cX12_lots 31 = .ok (.sipush 709, 3) := by decide +kernel
theorem dX12_lots_34 : decode cX12_lots 34 = .ok (.iaload, 1) := by decide +kernel
theorem dX12_lots_35 : decode cX12_lots 35 = .ok (.if_icmp .ge 42, 3) := by decide +kernel
theorem dX12_lots_38 : decode cX12_lots 38 = .ok (.iload_n 3, 1) := by decide +kernel
theorem dX12_lots_39 : decode cX12_lots 39 = .ok (.bipush 10, 2) := by decide +kernel
theorem dX12_lots_41 : decode cX12_lots 41 = .ok (.if_icmp .ge 36, 3) := by decide +kernel
theorem dX12_lots_44 : decode cX12_lots 44 = .ok (.aload_n 0, 1) := by decide +kernel
theorem dX12_lots_45 : decode cX12_lots 45 = .ok (.iload 4, 2) := by decide +kernel
theorem dX12_lots_47 : decode cX12_lots 47 = .ok (.invokevirtual 266, 3) := by decide +kernel
theorem dX12_lots_50 : decode cX12_lots 50 = .ok (.ifCond .ne 6, 3) := by decide +kernel
theorem dX12_lots_53 : decode cX12_lots 53 = .ok (.goto 18, 3) := by decide +kernel
theorem dX12_lots_56 : decode cX12_lots 56 = .ok (.aload_n 0, 1) := by decide +kernel
theorem dX12_lots_57 : decode cX12_lots 57 = .ok (.getfield 42, 3) := by decide +kernel
theorem dX12_lots_60 : decode cX12_lots 60 = .ok (.iload_n 3, 1) := by decide +kernel
theorem dX12_lots_61 : decode cX12_lots 61 = .ok (.aload_n 0, 1) := by decide +kernel
theorem dX12_lots_62 : decode cX12_lots 62 = .ok (.iload 4, 2) := by decide +kernel
theorem dX12_lots_64 : decode cX12_lots 64 = .ok (.invokevirtual 263, 3) := by decide +kernel
theorem dX12_lots_67 : decode cX12_lots 67 = .ok (.iastore, 1) := by decide +kernel
theorem dX12_lots_68 : decode cX12_lots 68 = .ok (.iinc 3 1, 3) := by decide +kernel
theorem dX12_lots_71 : decode cX12_lots 71 = .ok (.iinc 4 1, 3) := by decide +kernel
theorem dX12_lots_74 : decode cX12_lots 74 = .ok (.goto (-49), 3) := by decide +kernel
theorem dX12_lots_77 : decode cX12_lots 77 = .ok (.iload_n 3, 1) := by decide +kernel
theorem dX12_lots_78 : decode cX12_lots 78 = .ok (.iload_n 1, 1) := by decide +kernel
theorem dX12_lots_79 : decode cX12_lots 79 = .ok (.if_icmp .ge 6, 3) := by decide +kernel
theorem dX12_lots_82 : decode cX12_lots 82 = .ok (.bipush (-5), 2) := by decide +kernel
theorem dX12_lots_84 : decode cX12_lots 84 = .ok (.ireturn, 1) := by decide +kernel
theorem dX12_lots_85 : decode cX12_lots 85 = .ok (.iconst 0, 1) := by decide +kernel
theorem dX12_lots_86 : decode cX12_lots 86 = .ok (.istore 4, 2) := by decide +kernel
theorem dX12_lots_88 : decode cX12_lots 88 = .ok (.aload_n 0, 1) := by decide +kernel
theorem dX12_lots_89 : decode cX12_lots 89 = .ok (.iconst 0, 1) := by decide +kernel
theorem dX12_lots_90 : decode cX12_lots 90 = .ok (.iload_n 3, 1) := by decide +kernel
theorem dX12_lots_91 : decode cX12_lots 91 = .ok (.iload_n 1, 1) := by decide +kernel
theorem dX12_lots_92 : decode cX12_lots 92 = .ok (.iload 4, 2) := by decide +kernel
theorem dX12_lots_94 : decode cX12_lots 94 = .ok (.invokevirtual 314, 3) := by decide +kernel
theorem dX12_lots_97 : decode cX12_lots 97 = .ok (.ifCond .ne 9, 3) := by decide +kernel
theorem dX12_lots_100 : decode cX12_lots 100 = .ok (.iinc 4 1, 3) := by decide +kernel
theorem dX12_lots_103 : decode cX12_lots 103 = .ok (.goto (-15), 3) := by decide +kernel
theorem dX12_lots_106 : decode cX12_lots 106 = .ok (.iload_n 2, 1) := by decide +kernel
theorem dX12_lots_107 : decode cX12_lots 107 = .ok (.iconst (-1), 1) := by decide +kernel
theorem dX12_lots_108 : decode cX12_lots 108 = .ok (.if_icmp .ne 6, 3) := by decide +kernel
theorem dX12_lots_111 : decode cX12_lots 111 = .ok (.iload 4, 2) := by decide +kernel
theorem dX12_lots_113 : decode cX12_lots 113 = .ok (.ireturn, 1) := by decide +kernel
theorem dX12_lots_114 : decode cX12_lots 114 = .ok (.iconst 0, 1) := by decide +kernel
theorem dX12_lots_115 : decode cX12_lots 115 = .ok (.istore 5, 2) := by decide +kernel
theorem dX12_lots_117 : decode cX12_lots 117 = .ok (.iconst 0, 1) := by decide +kernel
theorem dX12_lots_118 : decode cX12_lots 118 = .ok (.istore 6, 2) := by decide +kernel
theorem dX12_lots_120 : decode cX12_lots 120 = .ok (.iload 6, 2) := by decide +kernel
theorem dX12_lots_122 : decode cX12_lots 122 = .ok (.iload_n 1, 1) := by decide +kernel
theorem dX12_lots_123 : decode cX12_lots 123 = .ok (.if_icmp .ge 78, 3) := by decide +kernel
theorem dX12_lots_126 : decode cX12_lots 126 = .ok (.iload 6, 2) := by decide +kernel
theorem dX12_lots_128 : decode cX12_lots 128 = .ok (.iload_n 1, 1) := by decide +kernel
theorem dX12_lots_129 : decode cX12_lots 129 = .ok (.iconst 1, 1) := by decide +kernel
theorem dX12_lots_130 : decode cX12_lots 130 = .ok (.isub, 1) := by decide +kernel
theorem dX12_lots_131 : decode cX12_lots 131 = .ok (.if_icmp .ne 10, 3) := by decide +kernel
theorem dX12_lots_134 : decode cX12_lots 134 = .ok (.iload_n 3, 1) := by decide +kernel
theorem dX12_lots_135 : decode cX12_lots 135 = .ok (.iload 5, 2) := by decide +kernel
theorem dX12_lots_137 : decode cX12_lots 137 = .ok (.isub, 1) := by decide +kernel
theorem dX12_lots_138 : decode cX12_lots 138 = .ok (.goto 4, 3) := by decide +kernel
theorem dX12_lots_141 : decode cX12_lots 141 = .ok (.iconst 1, 1) := by decide +kernel
theorem dX12_lots_142 : decode cX12_lots 142 = .ok (.istore 7, 2) := by decide +kernel
theorem dX12_lots_144 : decode cX12_lots 144 = .ok (.iload 6, 2) := by decide +kernel
theorem dX12_lots_146 : decode cX12_lots 146 = .ok (.iload_n 1, 1) := by decide +kernel
theorem dX12_lots_147 : decode cX12_lots 147 = .ok (.iconst 1, 1) := by decide +kernel
theorem dX12_lots_148 : decode cX12_lots 148 = .ok (.isub, 1) := by decide +kernel
theorem dX12_lots_149 : decode cX12_lots 149 = .ok (.if_icmp .ge 30, 3) := by decide +kernel
theorem dX12_lots_152 : decode cX12_lots 152 = .ok (.aload_n 0, 1) := by decide +kernel
theorem dX12_lots_153 : decode cX12_lots 153 = .ok (.iload 5, 2) := by decide +kernel
theorem dX12_lots_155 : decode cX12_lots 155 = .ok (.iload 7, 2) := by decide +kernel
theorem dX12_lots_157 : decode cX12_lots 157 = .ok (.iadd, 1) := by decide +kernel
theorem dX12_lots_158 : decode cX12_lots 158 = .ok (.iload_n 3, 1) := by decide +kernel
theorem dX12_lots_159 : decode cX12_lots 159 = .ok (.iload_n 1, 1) := by decide +kernel
theorem dX12_lots_160 : decode cX12_lots 160 = .ok (.iconst 1, 1) := by decide +kernel
theorem dX12_lots_161 : decode cX12_lots 161 = .ok (.isub, 1) := by decide +kernel
theorem dX12_lots_162 : decode cX12_lots 162 = .ok (.iload 6, 2) := by decide +kernel
theorem dX12_lots_164 : decode cX12_lots 164 = .ok (.isub, 1) := by decide +kernel
theorem dX12_lots_165 : decode cX12_lots 165 = .ok (.iload 4, 2) := by decide +kernel
theorem dX12_lots_167 : decode cX12_lots 167 = .ok (.invokevirtual 314, 3) := by decide +kernel
theorem dX12_lots_170 : decode cX12_lots 170 = .ok (.ifCond .ne 9, 3) := by decide +kernel
theorem dX12_lots_173 : decode cX12_lots 173 = .ok (.iinc 7 1, 3) := by decide +kernel
theorem dX12_lots_176 : decode cX12_lots 176 = .ok (.goto (-32), 3) := by decide +kernel
theorem dX12_lots_179 : decode cX12_lots 179 = .ok (.iload 6, 2) := by decide +kernel
theorem dX12_lots_181 : decode cX12_lots 181 = .ok (.iload_n 2, 1) := by decide +kernel
theorem dX12_lots_182 : decode cX12_lots 182 = .ok (.if_icmp .ne 6, 3) := by decide +kernel
theorem dX12_lots_185 : decode cX12_lots 185 = .ok (.iload 7, 2) := by decide +kernel
theorem dX12_lots_187 : decode cX12_lots 187 = .ok (.ireturn, 1) := by decide +kernel
theorem dX12_lots_188 : decode cX12_lots 188 = .ok (.iload 5, 2) := by decide +kernel
theorem dX12_lots_190 : decode cX12_lots 190 = .ok (.iload 7, 2) := by decide +kernel
theorem dX12_lots_192 : decode cX12_lots 192 = .ok (.iadd, 1) := by decide +kernel
theorem dX12_lots_193 : decode cX12_lots 193 = .ok (.istore 5, 2) := by decide +kernel
theorem dX12_lots_195 : decode cX12_lots 195 = .ok (.iinc 6 1, 3) := by decide +kernel
theorem dX12_lots_198 : decode cX12_lots 198 = .ok (.goto (-78), 3) := by decide +kernel
theorem dX12_lots_201 : decode cX12_lots 201 = .ok (.iconst (-1), 1) := by decide +kernel
theorem dX12_lots_202 : decode cX12_lots 202 = .ok (.ireturn, 1) := by decide +kernel
theorem dX12_fact_0 : decode cX12_fact 0 = .ok (.iload_n 1, 1) := by decide +kernel
theorem dX12_fact_1 : decode cX12_fact 1 = .ok (.tableswitch 139 14 18 #[35, 64, 84, 99, 119], 35) := by decide +kernel
theorem dX12_fact_36 : decode cX12_fact 36 = .ok (.aload_n 0, 1) := by decide +kernel
theorem dX12_fact_37 : decode cX12_fact 37 = .ok (.getfield 13, 3) := by decide +kernel
theorem dX12_fact_40 : decode cX12_fact 40 = .ok (.sipush 631, 3) := by decide +kernel
theorem dX12_fact_43 : decode cX12_fact 43 = .ok (.aload_n 0, 1) := by decide +kernel
theorem dX12_fact_44 : decode cX12_fact 44 = .ok (.getfield 13, 3) := by decide +kernel
theorem dX12_fact_47 : decode cX12_fact 47 = .ok (.sipush 710, 3) := by decide +kernel
theorem dX12_fact_50 : decode cX12_fact 50 = .ok (.iload_n 3, 1) := by decide +kernel
theorem dX12_fact_51 : decode cX12_fact 51 = .ok (.iadd, 1) := by decide +kernel
theorem dX12_fact_52 : decode cX12_fact 52 = .ok (.iaload, 1) := by decide +kernel
theorem dX12_fact_53 : decode cX12_fact 53 = .ok (.iadd, 1) := by decide +kernel
theorem dX12_fact_54 : decode cX12_fact 54 = .ok (.iaload, 1) := by decide +kernel
theorem dX12_fact_55 : decode cX12_fact 55 = .ok (.iconst 1, 1) := by decide +kernel
theorem dX12_fact_56 : decode cX12_fact 56 = .ok (.if_icmp .ne 7, 3) := by decide +kernel
theorem dX12_fact_59 : decode cX12_fact 59 = .ok (.iconst 1, 1) := by decide +kernel
theorem dX12_fact_60 : decode cX12_fact 60 = .ok (.goto 4, 3) := by decide +kernel
theorem dX12_fact_63 : decode cX12_fact 63 = .ok (.iconst 0, 1) := by decide +kernel
theorem dX12_fact_64 : decode cX12_fact 64 = .ok (.ireturn, 1) := by decide +kernel
theorem dX12_fact_65 : decode cX12_fact 65 = .ok (.aload_n 0, 1) := by decide +kernel
theorem dX12_fact_66 : decode cX12_fact 66 = .ok (.getfield 13, 3) := by decide +kernel
theorem dX12_fact_69 : decode cX12_fact 69 = .ok (.sipush 710, 3) := by decide +kernel
theorem dX12_fact_72 : decode cX12_fact 72 = .ok (.iload_n 3, 1) := by decide +kernel
theorem dX12_fact_73 : decode cX12_fact 73 = .ok (.iadd, 1) := by decide +kernel
theorem dX12_fact_74 : decode cX12_fact 74 = .ok (.iaload, 1) := by decide +kernel
theorem dX12_fact_75 : decode cX12_fact 75 = .ok (.iload_n 2, 1) := by decide +kernel
theorem dX12_fact_76 : decode cX12_fact 76 = .ok (.if_icmp .ne 7, 3) := by decide +kernel
theorem dX12_fact_79 : decode cX12_fact 79 = .ok (.iconst 1, 1) := by decide +kernel
theorem dX12_fact_80 : decode cX12_fact 80 = .ok (.goto 4, 3) := by decide +kernel
theorem dX12_fact_83 : decode cX12_fact 83 = .ok (.iconst 0, 1) := by decide +kernel
theorem dX12_fact_84 : decode cX12_fact 84 = .ok (.ireturn, 1) := by decide +kernel
theorem dX12_fact_85 : decode cX12_fact 85 = .ok (.aload_n 0, 1) := by decide +kernel
theorem dX12_fact_86 : decode cX12_fact 86 = .ok (.iload_n 3, 1) := by decide +kernel
theorem dX12_fact_87 : decode cX12_fact 87 = .ok (.invokevirtual 288, 3) := by decide +kernel
theorem dX12_fact_90 : decode cX12_fact 90 = .ok (.iload_n 2, 1) := by decide +kernel
theorem dX12_fact_91 : decode cX12_fact 91 = .ok (.if_icmp .ne 7, 3) := by decide +kernel
theorem dX12_fact_94 : decode cX12_fact 94 = .ok (.iconst 1, 1) := by decide +kernel
theorem dX12_fact_95 : decode cX12_fact 95 = .ok (.goto 4, 3) := by decide +kernel
theorem dX12_fact_98 : decode cX12_fact 98 = .ok (.iconst 0, 1) := by decide +kernel
theorem dX12_fact_99 : decode cX12_fact 99 = .ok (.ireturn, 1) := by decide +kernel
theorem dX12_fact_100 : decode cX12_fact 100 = .ok (.aload_n 0, 1) := by decide +kernel
theorem dX12_fact_101 : decode cX12_fact 101 = .ok (.getfield 13, 3) := by decide +kernel
theorem dX12_fact_104 : decode cX12_fact 104 = .ok (.sipush 830, 3) := by decide +kernel
theorem dX12_fact_107 : decode cX12_fact 107 = .ok (.iload_n 3, 1) := by decide +kernel
theorem dX12_fact_108 : decode cX12_fact 108 = .ok (.iadd, 1) := by decide +kernel
theorem dX12_fact_109 : decode cX12_fact 109 = .ok (.iaload, 1) := by decide +kernel
theorem dX12_fact_110 : decode cX12_fact 110 = .ok (.iload_n 2, 1) := by decide +kernel
theorem dX12_fact_111 : decode cX12_fact 111 = .ok (.if_icmp .le 7, 3) := by decide +kernel
theorem dX12_fact_114 : decode cX12_fact 114 = .ok (.iconst 1, 1) := by decide +kernel
theorem dX12_fact_115 : decode cX12_fact 115 = .ok (.goto 4, 3) := by decide +kernel
theorem dX12_fact_118 : decode cX12_fact 118 = .ok (.iconst 0, 1) := by decide +kernel
theorem dX12_fact_119 : decode cX12_fact 119 = .ok (.ireturn, 1) := by decide +kernel
theorem dX12_fact_120 : decode cX12_fact 120 = .ok (.aload_n 0, 1) := by decide +kernel
theorem dX12_fact_121 : decode cX12_fact 121 = .ok (.getfield 13, 3) := by decide +kernel
theorem dX12_fact_124 : decode cX12_fact 124 = .ok (.sipush 890, 3) := by decide +kernel
theorem dX12_fact_127 : decode cX12_fact 127 = .ok (.iload_n 3, 1) := by decide +kernel
theorem dX12_fact_128 : decode cX12_fact 128 = .ok (.iadd, 1) := by decide +kernel
theorem dX12_fact_129 : decode cX12_fact 129 = .ok (.iaload, 1) := by decide +kernel
theorem dX12_fact_130 : decode cX12_fact 130 = .ok (.iload_n 2, 1) := by decide +kernel
theorem dX12_fact_131 : decode cX12_fact 131 = .ok (.if_icmp .lt 7, 3) := by decide +kernel
theorem dX12_fact_134 : decode cX12_fact 134 = .ok (.iconst 1, 1) := by decide +kernel
theorem dX12_fact_135 : decode cX12_fact 135 = .ok (.goto 4, 3) := by decide +kernel
theorem dX12_fact_138 : decode cX12_fact 138 = .ok (.iconst 0, 1) := by decide +kernel
theorem dX12_fact_139 : decode cX12_fact 139 = .ok (.ireturn, 1) := by decide +kernel
theorem dX12_fact_140 : decode cX12_fact 140 = .ok (.aload_n 0, 1) := by decide +kernel
theorem dX12_fact_141 : decode cX12_fact 141 = .ok (.getfield 13, 3) := by decide +kernel
theorem dX12_fact_144 : decode cX12_fact 144 = .ok (.sipush 770, 3) := by decide +kernel
theorem dX12_fact_147 : decode cX12_fact 147 = .ok (.iload_n 3, 1) := by decide +kernel
theorem dX12_fact_148 : decode cX12_fact 148 = .ok (.iadd, 1) := by decide +kernel
theorem dX12_fact_149 : decode cX12_fact 149 = .ok (.iaload, 1) := by decide +kernel
theorem dX12_fact_150 : decode cX12_fact 150 = .ok (.iload_n 2, 1) := by decide +kernel
theorem dX12_fact_151 : decode cX12_fact 151 = .ok (.if_icmp .ne 7, 3) := by decide +kernel
theorem dX12_fact_154 : decode cX12_fact 154 = .ok (.iconst 1, 1) := by decide +kernel
theorem dX12_fact_155 : decode cX12_fact 155 = .ok (.goto 4, 3) := by decide +kernel
theorem dX12_fact_158 : decode cX12_fact 158 = .ok (.iconst 0, 1) := by decide +kernel
theorem dX12_fact_159 : decode cX12_fact 159 = .ok (.ireturn, 1) := by decide +kernel
theorem dX12_isFit_0 : decode cX12_isFit 0 = .ok (.aload_n 0, 1) := by decide +kernel
theorem dX12_isFit_1 : decode cX12_isFit 1 = .ok (.getfield 13, 3) := by decide +kernel
theorem dX12_isFit_4 : decode cX12_isFit 4 = .ok (.sipush 1010, 3) := by decide +kernel
theorem dX12_isFit_7 : decode cX12_isFit 7 = .ok (.iload_n 2, 1) := by decide +kernel
theorem dX12_isFit_8 : decode cX12_isFit 8 = .ok (.iadd, 1) := by decide +kernel
theorem dX12_isFit_9 : decode cX12_isFit 9 = .ok (.iaload, 1) := by decide +kernel
theorem dX12_isFit_10 : decode cX12_isFit 10 = .ok (.ifCond .eq 5, 3) := by decide +kernel
theorem dX12_isFit_13 : decode cX12_isFit 13 = .ok (.iconst 0, 1) := by decide +kernel
theorem dX12_isFit_14 : decode cX12_isFit 14 = .ok (.ireturn, 1) := by decide +kernel
theorem dX12_isFit_15 : decode cX12_isFit 15 = .ok (.iconst 0, 1) := by decide +kernel
theorem dX12_isFit_16 : decode cX12_isFit 16 = .ok (.istore_n 3, 1) := by decide +kernel
theorem dX12_isFit_17 : decode cX12_isFit 17 = .ok (.aload_n 0, 1) := by decide +kernel
theorem dX12_isFit_18 : decode cX12_isFit 18 = .ok (.getfield 13, 3) := by decide +kernel
theorem dX12_isFit_21 : decode cX12_isFit 21 = .ok (.bipush 66, 2) := by decide +kernel
theorem dX12_isFit_23 : decode cX12_isFit 23 = .ok (.iload_n 1, 1) := by decide +kernel
theorem dX12_isFit_24 : decode cX12_isFit 24 = .ok (.iadd, 1) := by decide +kernel
theorem dX12_isFit_25 : decode cX12_isFit 25 = .ok (.iaload, 1) := by decide +kernel
theorem dX12_isFit_26 : decode cX12_isFit 26 = .ok (.istore 4, 2) := by decide +kernel
theorem dX12_isFit_28 : decode cX12_isFit 28 = .ok (.iload 4, 2) := by decide +kernel
theorem dX12_isFit_30 : decode cX12_isFit 30 = .ok (.aload_n 0, 1) := by decide +kernel
theorem dX12_isFit_31 : decode cX12_isFit 31 = .ok (.getfield 13, 3) := by decide +kernel
theorem dX12_isFit_34 : decode cX12_isFit 34 = .ok (.bipush 74, 2) := by decide +kernel
theorem dX12_isFit_36 : decode cX12_isFit 36 = .ok (.iload_n 1, 1) := by decide +kernel
theorem dX12_isFit_37 : decode cX12_isFit 37 = .ok (.iadd, 1) := by decide +kernel
theorem dX12_isFit_38 : decode cX12_isFit 38 = .ok (.iaload, 1) := by decide +kernel
theorem dX12_isFit_39 : decode cX12_isFit 39 = .ok (.if_icmp .ge 175, 3) := by decide +kernel
theorem dX12_isFit_42 : decode cX12_isFit 42 = .ok (.aload_n 0, 1) := by decide +kernel
theorem dX12_isFit_43 : decode cX12_isFit 43 = .ok (.getfield 13, 3) := by decide +kernel
theorem dX12_isFit_46 : decode cX12_isFit 46 = .ok (.bipush 82, 2) := by decide +kernel
theorem dX12_isFit_48 : decode cX12_isFit 48 = .ok (.iconst 2, 1) := by decide +kernel
theorem dX12_isFit_49 : decode cX12_isFit 49 = .ok (.iload 4, 2) := by decide +kernel
theorem dX12_isFit_51 : decode cX12_isFit 51 = .ok (.imul, 1) := by decide +kernel
theorem dX12_isFit_52 : decode cX12_isFit 52 = .ok (.iadd, 1) := by decide +kernel
theorem dX12_isFit_53 : decode cX12_isFit 53 = .ok (.iaload, 1) := by decide +kernel
theorem dX12_isFit_54 : decode cX12_isFit 54 = .ok (.istore 5, 2) := by decide +kernel
theorem dX12_isFit_56 : decode cX12_isFit 56 = .ok (.iload 5, 2) := by decide +kernel
theorem dX12_isFit_58 : decode cX12_isFit 58 = .ok (.bipush 13, 2) := by decide +kernel
theorem dX12_isFit_60 : decode cX12_isFit 60 = .ok (.if_icmp .ne 30, 3) := by decide +kernel
theorem dX12_isFit_63 : decode cX12_isFit 63 = .ok (.aload_n 0, 1) := by decide +kernel
theorem dX12_isFit_64 : decode cX12_isFit 64 = .ok (.getfield 51, 3) := by decide +kernel
theorem dX12_isFit_67 : decode cX12_isFit 67 = .ok (.iload_n 3, 1) := by decide +kernel
theorem dX12_isFit_68 : decode cX12_isFit 68 = .ok (.iconst 1, 1) := by decide +kernel
theorem dX12_isFit_69 : decode cX12_isFit 69 = .ok (.isub, 1) := by decide +kernel
theorem dX12_isFit_70 : decode cX12_isFit 70 = .ok (.aload_n 0, 1) := by decide +kernel
theorem dX12_isFit_71 : decode cX12_isFit 71 = .ok (.getfield 51, 3) := by decide +kernel
theorem dX12_isFit_74 : decode cX12_isFit 74 = .ok (.iload_n 3, 1) := by decide +kernel
theorem dX12_isFit_75 : decode cX12_isFit 75 = .ok (.iconst 1, 1) := by decide +kernel
theorem dX12_isFit_76 : decode cX12_isFit 76 = .ok (.isub, 1) := by decide +kernel
theorem dX12_isFit_77 : decode cX12_isFit 77 = .ok (.baload, 1) := by decide +kernel
theorem dX12_isFit_78 : decode cX12_isFit 78 = .ok (.ifCond .ne 7, 3) := by decide +kernel
theorem dX12_isFit_81 : decode cX12_isFit 81 = .ok (.iconst 1, 1) := by decide +kernel
theorem dX12_isFit_82 : decode cX12_isFit 82 = .ok (.goto 4, 3) := by decide +kernel
theorem dX12_isFit_85 : decode cX12_isFit 85 = .ok (.iconst 0, 1) := by decide +kernel
theorem dX12_isFit_86 : decode cX12_isFit 86 = .ok (.bastore, 1) := by decide +kernel
theorem dX12_isFit_87 : decode cX12_isFit 87 = .ok (.goto 121, 3) := by decide +kernel
theorem dX12_isFit_90 : decode cX12_isFit 90 = .ok (.iload 5, 2) := by decide +kernel
theorem dX12_isFit_92 : decode cX12_isFit 92 = .ok (.bipush 12, 2) := by decide +kernel
theorem dX12_isFit_94 : decode cX12_isFit 94 = .ok (.if_icmp .eq 10, 3) := by decide +kernel
theorem dX12_isFit_97 : decode cX12_isFit 97 = .ok (.iload 5, 2) := by decide +kernel
theorem dX12_isFit_99 : decode cX12_isFit 99 = .ok (.bipush 11, 2) := by decide +kernel
theorem dX12_isFit_101 : decode cX12_isFit 101 = .ok (.if_icmp .ne 77, 3) := by decide +kernel
theorem dX12_isFit_104 : decode cX12_isFit 104 = .ok (.iinc 3 (-1), 3) := by decide +kernel
theorem dX12_isFit_107 : decode cX12_isFit 107 = .ok (.aload_n 0, 1) := by decide +kernel
theorem dX12_isFit_108 : decode cX12_isFit 108 = .ok (.getfield 51, 3) := by decide +kernel
theorem dX12_isFit_111 : decode cX12_isFit 111 = .ok (.iload_n 3, 1) := by decide +kernel
theorem dX12_isFit_112 : decode cX12_isFit 112 = .ok (.iconst 1, 1) := by decide +kernel
theorem dX12_isFit_113 : decode cX12_isFit 113 = .ok (.isub, 1) := by decide +kernel
theorem dX12_isFit_114 : decode cX12_isFit 114 = .ok (.iload 5, 2) := by decide +kernel
theorem dX12_isFit_116 : decode cX12_isFit 116 = .ok (.bipush 12, 2) := by decide +kernel
theorem dX12_isFit_118 : decode cX12_isFit 118 = .ok (.if_icmp .ne 31, 3) := by decide +kernel
theorem dX12_isFit_121 : decode cX12_isFit 121 = .ok (.aload_n 0, 1) := by decide +kernel
theorem dX12_isFit_122 : decode cX12_isFit 122 = .ok (.getfield 51, 3) := by decide +kernel
theorem dX12_isFit_125 : decode cX12_isFit 125 = .ok (.iload_n 3, 1) := by decide +kernel
theorem dX12_isFit_126 : decode cX12_isFit 126 = .ok (.iconst 1, 1) := by decide +kernel
theorem dX12_isFit_127 : decode cX12_isFit 127 = .ok (.isub, 1) := by decide +kernel
theorem dX12_isFit_128 : decode cX12_isFit 128 = .ok (.baload, 1) := by decide +kernel
theorem dX12_isFit_129 : decode cX12_isFit 129 = .ok (.ifCond .eq 16, 3) := by decide +kernel
theorem dX12_isFit_132 : decode cX12_isFit 132 = .ok (.aload_n 0, 1) := by decide +kernel
theorem dX12_isFit_133 : decode cX12_isFit 133 = .ok (.getfield 51, 3) := by decide +kernel
theorem dX12_isFit_136 : decode cX12_isFit 136 = .ok (.iload_n 3, 1) := by decide +kernel
theorem dX12_isFit_137 : decode cX12_isFit 137 = .ok (.baload, 1) := by decide +kernel
theorem dX12_isFit_138 : decode cX12_isFit 138 = .ok (.ifCond .eq 7, 3) := by decide +kernel
theorem dX12_isFit_141 : decode cX12_isFit 141 = .ok (.iconst 1, 1) := by decide +kernel
theorem dX12_isFit_142 : decode cX12_isFit 142 = .ok (.goto 32, 3) := by decide +kernel
theorem dX12_isFit_145 : decode cX12_isFit 145 = .ok (.iconst 0, 1) := by decide +kernel
theorem dX12_isFit_146 : decode cX12_isFit 146 = .ok (.goto 28, 3) := by decide +kernel
theorem dX12_isFit_149 : decode cX12_isFit 149 = .ok (.aload_n 0, 1) := by decide +kernel
theorem dX12_isFit_150 : decode cX12_isFit 150 = .ok (.getfield 51, 3) := by decide +kernel
theorem dX12_isFit_153 : decode cX12_isFit 153 = .ok (.iload_n 3, 1) := by decide +kernel
theorem dX12_isFit_154 : decode cX12_isFit 154 = .ok (.iconst 1, 1) := by decide +kernel
theorem dX12_isFit_155 : decode cX12_isFit 155 = .ok (.isub, 1) := by decide +kernel
theorem dX12_isFit_156 : decode cX12_isFit 156 = .ok (.baload, 1) := by decide +kernel
theorem dX12_isFit_157 : decode cX12_isFit 157 = .ok (.ifCond .ne 12, 3) := by decide +kernel
theorem dX12_isFit_160 : decode cX12_isFit 160 = .ok (.aload_n 0, 1) := by decide +kernel
theorem dX12_isFit_161 : decode cX12_isFit 161 = .ok (.getfield 51, 3) := by decide +kernel
theorem dX12_isFit_164 : decode cX12_isFit 164 = .ok (.iload_n 3, 1) := by decide +kernel
theorem dX12_isFit_165 : decode cX12_isFit 165 = .ok (.baload, 1) := by decide +kernel
theorem dX12_isFit_166 : decode cX12_isFit 166 = .ok (.ifCond .eq 7, 3) := by decide +kernel
theorem dX12_isFit_169 : decode cX12_isFit 169 = .ok (.iconst 1, 1) := by decide +kernel
theorem dX12_isFit_170 : decode cX12_isFit 170 = .ok (.goto 4, 3) := by decide +kernel
theorem dX12_isFit_173 : decode cX12_isFit 173 = .ok (.iconst 0, 1) := by decide +kernel
theorem dX12_isFit_174 : decode cX12_isFit 174 = .ok (.bastore, 1) := by decide +kernel
theorem dX12_isFit_175 : decode cX12_isFit 175 = .ok (.goto 33, 3) := by decide +kernel
theorem dX12_isFit_178 : decode cX12_isFit 178 = .ok (.aload_n 0, 1) := by decide +kernel
theorem dX12_isFit_179 : decode cX12_isFit 179 = .ok (.getfield 51, 3) := by decide +kernel
theorem dX12_isFit_182 : decode cX12_isFit 182 = .ok (.iload_n 3, 1) := by decide +kernel
theorem dX12_isFit_183 : decode cX12_isFit 183 = .ok (.aload_n 0, 1) := by decide +kernel
theorem dX12_isFit_184 : decode cX12_isFit 184 = .ok (.iload 5, 2) := by decide +kernel
theorem dX12_isFit_186 : decode cX12_isFit 186 = .ok (.aload_n 0, 1) := by decide +kernel
theorem dX12_isFit_187 : decode cX12_isFit 187 = .ok (.getfield 13, 3) := by decide +kernel
theorem dX12_isFit_190 : decode cX12_isFit 190 = .ok (.bipush 82, 2) := by decide +kernel
theorem dX12_isFit_192 : decode cX12_isFit 192 = .ok (.iconst 2, 1) := by decide +kernel
theorem dX12_isFit_193 : decode cX12_isFit 193 = .ok (.iload 4, 2) := by decide +kernel
theorem dX12_isFit_195 : decode cX12_isFit 195 = .ok (.imul, 1) := by decide +kernel
theorem dX12_isFit_196 : decode cX12_isFit 196 = .ok (.iadd, 1) := by decide +kernel
theorem dX12_isFit_197 : decode cX12_isFit 197 = .ok (.iconst 1, 1) := by decide +kernel
theorem dX12_isFit_198 : decode cX12_isFit 198 = .ok (.iadd, 1) := by decide +kernel
theorem dX12_isFit_199 : decode cX12_isFit 199 = .ok (.iaload, 1) := by decide +kernel
theorem dX12_isFit_200 : decode cX12_isFit 200 = .ok (.iload_n 2, 1) := by decide +kernel
theorem dX12_isFit_201 : decode cX12_isFit 201 = .ok (.invokevirtual 318, 3) := by decide +kernel
theorem dX12_isFit_204 : decode cX12_isFit 204 = .ok (.bastore, 1) := by decide +kernel
theorem dX12_isFit_205 : decode cX12_isFit 205 = .ok (.iinc 3 1, 3) := by decide +kernel
theorem dX12_isFit_208 : decode cX12_isFit 208 = .ok (.iinc 4 1, 3) := by decide +kernel
theorem dX12_isFit_211 : decode cX12_isFit 211 = .ok (.goto (-183), 3) := by decide +kernel
theorem dX12_isFit_214 : decode cX12_isFit 214 = .ok (.aload_n 0, 1) := by decide +kernel
theorem dX12_isFit_215 : decode cX12_isFit 215 = .ok (.getfield 51, 3) := by decide +kernel
theorem dX12_isFit_218 : decode cX12_isFit 218 = .ok (.iconst 0, 1) := by decide +kernel
theorem dX12_isFit_219 : decode cX12_isFit 219 = .ok (.baload, 1) := by decide +kernel
theorem dX12_isFit_220 : decode cX12_isFit 220 = .ok (.ireturn, 1) := by decide +kernel
theorem dX12_fits_0 : decode cX12_fits 0 = .ok (.aload_n 0, 1) := by decide +kernel
theorem dX12_fits_1 : decode cX12_fits 1 = .ok (.iconst 0, 1) := by decide +kernel
theorem dX12_fits_2 : decode cX12_fits 2 = .ok (.putfield 1, 3) := by decide +kernel
theorem dX12_fits_5 : decode cX12_fits 5 = .ok (.iload_n 1, 1) := by decide +kernel
theorem dX12_fits_6 : decode cX12_fits 6 = .ok (.i2l, 1) := by decide +kernel
theorem dX12_fits_7 : decode cX12_fits 7 = .ok (.lconst 0, 1) := by decide +kernel
theorem dX12_fits_8 : decode cX12_fits 8 = .ok (.aload_n 0, 1) := by decide +kernel
theorem dX12_fits_9 : decode cX12_fits 9 = .ok (.getfield 13, 3) := by decide +kernel
theorem dX12_fits_12 : decode cX12_fits 12 = .ok (.bipush 65, 2) := by decide +kernel
theorem dX12_fits_14 : decode cX12_fits 14 = .ok (.iaload, 1) := by decide +kernel
theorem dX12_fits_15 : decode cX12_fits 15 = .ok (.iconst 1, 1) := by decide +kernel
theorem dX12_fits_16 : decode cX12_fits 16 = .ok (.isub, 1) := by decide +kernel
theorem dX12_fits_17 : decode cX12_fits 17 = .ok (.i2l, 1) := by decide +kernel
theorem dX12_fits_18 : decode cX12_fits 18 = .ok (.invokestatic 142, 3) := by decide +kernel
theorem dX12_fits_21 : decode cX12_fits 21 = .ok (.ifCond .ne 6, 3) := by decide +kernel
theorem dX12_fits_24 : decode cX12_fits 24 = .ok (.bipush (-2), 2) := by decide +kernel
theorem dX12_fits_26 : decode cX12_fits 26 = .ok (.ireturn, 1) := by decide +kernel
theorem dX12_fits_27 : decode cX12_fits 27 = .ok (.iconst 0, 1) := by decide +kernel
theorem dX12_fits_28 : decode cX12_fits 28 = .ok (.istore_n 3, 1) := by decide +kernel
theorem dX12_fits_29 : decode cX12_fits 29 = .ok (.iconst 0, 1) := by decide +kernel
theorem dX12_fits_30 : decode cX12_fits 30 = .ok (.istore 4, 2) := by decide +kernel
theorem dX12_fits_32 : decode cX12_fits 32 = .ok (.iload 4, 2) := by decide +kernel
theorem dX12_fits_34 : decode cX12_fits 34 = .ok (.aload_n 0, 1) := by decide +kernel
theorem dX12_fits_35 : decode cX12_fits 35 = .ok (.getfield 13, 3) := by decide +kernel
theorem dX12_fits_38 : decode cX12_fits 38 = .ok (.sipush 709, 3) := by decide +kernel
theorem dX12_fits_41 : decode cX12_fits 41 = .ok (.iaload, 1) := by decide +kernel
theorem dX12_fits_42 : decode cX12_fits 42 = .ok (.if_icmp .ge 33, 3) := by decide +kernel
theorem dX12_fits_45 : decode cX12_fits 45 = .ok (.aload_n 0, 1) := by decide +kernel
theorem dX12_fits_46 : decode cX12_fits 46 = .ok (.iload_n 1, 1) := by decide +kernel
theorem dX12_fits_47 : decode cX12_fits 47 = .ok (.iload 4, 2) := by decide +kernel
theorem dX12_fits_49 : decode cX12_fits 49 = .ok (.invokevirtual 322, 3) := by decide +kernel
theorem dX12_fits_52 : decode cX12_fits 52 = .ok (.ifCond .ne 6, 3) := by decide +kernel
theorem dX12_fits_55 : decode cX12_fits 55 = .ok (.goto 14, 3) := by decide +kernel
theorem dX12_fits_58 : decode cX12_fits 58 = .ok (.iload_n 3, 1) := by decide +kernel
theorem dX12_fits_59 : decode cX12_fits 59 = .ok (.iload_n 2, 1) := by decide +kernel
theorem dX12_fits_60 : decode cX12_fits 60 = .ok (.if_icmp .ne 6, 3) := by decide +kernel
theorem dX12_fits_63 : decode cX12_fits 63 = .ok (.iload 4, 2) := by decide +kernel
theorem dX12_fits_65 : decode cX12_fits 65 = .ok (.ireturn, 1) := by decide +kernel
theorem dX12_fits_66 : decode cX12_fits 66 = .ok (.iinc 3 1, 3) := by decide +kernel
theorem dX12_fits_69 : decode cX12_fits 69 = .ok (.iinc 4 1, 3) := by decide +kernel
theorem dX12_fits_72 : decode cX12_fits 72 = .ok (.goto (-40), 3) := by decide +kernel
theorem dX12_fits_75 : decode cX12_fits 75 = .ok (.iload_n 2, 1) := by decide +kernel
theorem dX12_fits_76 : decode cX12_fits 76 = .ok (.iconst (-1), 1) := by decide +kernel
theorem dX12_fits_77 : decode cX12_fits 77 = .ok (.if_icmp .ne 7, 3) := by decide +kernel
theorem dX12_fits_80 : decode cX12_fits 80 = .ok (.iload_n 3, 1) := by decide +kernel
theorem dX12_fits_81 : decode cX12_fits 81 = .ok (.goto 4, 3) := by decide +kernel
theorem dX12_fits_84 : decode cX12_fits 84 = .ok (.iconst (-1), 1) := by decide +kernel
theorem dX12_fits_85 : decode cX12_fits 85 = .ok (.ireturn, 1) := by decide +kernel
theorem dX12_hold_0 : decode cX12_hold 0 = .ok (.aload_n 0, 1) := by decide +kernel
theorem dX12_hold_1 : decode cX12_hold 1 = .ok (.iconst 0, 1) := by decide +kernel
theorem dX12_hold_2 : decode cX12_hold 2 = .ok (.putfield 1, 3) := by decide +kernel
theorem dX12_hold_5 : decode cX12_hold 5 = .ok (.iload_n 1, 1) := by decide +kernel
theorem dX12_hold_6 : decode cX12_hold 6 = .ok (.i2l, 1) := by decide +kernel
theorem dX12_hold_7 : decode cX12_hold 7 = .ok (.lconst 0, 1) := by decide +kernel
theorem dX12_hold_8 : decode cX12_hold 8 = .ok (.aload_n 0, 1) := by decide +kernel
theorem dX12_hold_9 : decode cX12_hold 9 = .ok (.getfield 13, 3) := by decide +kernel
theorem dX12_hold_12 : decode cX12_hold 12 = .ok (.bipush 65, 2) := by decide +kernel
theorem dX12_hold_14 : decode cX12_hold 14 = .ok (.iaload, 1) := by decide +kernel
theorem dX12_hold_15 : decode cX12_hold 15 = .ok (.iconst 1, 1) := by decide +kernel
theorem dX12_hold_16 : decode cX12_hold 16 = .ok (.isub, 1) := by decide +kernel
theorem dX12_hold_17 : decode cX12_hold 17 = .ok (.i2l, 1) := by decide +kernel
theorem dX12_hold_18 : decode cX12_hold 18 = .ok (.invokestatic 142, 3) := by decide +kernel
theorem dX12_hold_21 : decode cX12_hold 21 = .ok (.ifCond .ne 6, 3) := by decide +kernel
theorem dX12_hold_24 : decode cX12_hold 24 = .ok (.bipush (-2), 2) := by decide +kernel
theorem dX12_hold_26 : decode cX12_hold 26 = .ok (.ireturn, 1) := by decide +kernel
theorem dX12_hold_27 : decode cX12_hold 27 = .ok (.iconst 0, 1) := by decide +kernel
theorem dX12_hold_28 : decode cX12_hold 28 = .ok (.istore_n 2, 1) := by decide +kernel
theorem dX12_hold_29 : decode cX12_hold 29 = .ok (.aload_n 0, 1) := by decide +kernel
theorem dX12_hold_30 : decode cX12_hold 30 = .ok (.getfield 13, 3) := by decide +kernel
theorem dX12_hold_33 : decode cX12_hold 33 = .ok (.sipush 708, 3) := by decide +kernel
theorem dX12_hold_36 : decode cX12_hold 36 = .ok (.iaload, 1) := by decide +kernel
theorem dX12_hold_37 : decode cX12_hold 37 = .ok (.aload_n 0, 1) := by decide +kernel
theorem dX12_hold_38 : decode cX12_hold 38 = .ok (.getfield 13, 3) := by decide +kernel
theorem dX12_hold_41 : decode cX12_hold 41 = .ok (.bipush 30, 2) := by decide +kernel
theorem dX12_hold_43 : decode cX12_hold 43 = .ok (.iaload, 1) := by decide +kernel
theorem dX12_hold_44 : decode cX12_hold 44 = .ok (.iadd, 1) := by decide +kernel
theorem dX12_hold_45 : decode cX12_hold 45 = .ok (.istore_n 3, 1) := by decide +kernel
theorem dX12_hold_46 : decode cX12_hold 46 = .ok (.iconst 0, 1) := by decide +kernel
theorem dX12_hold_47 : decode cX12_hold 47 = .ok (.istore 4, 2) := by decide +kernel
theorem dX12_hold_49 : decode cX12_hold 49 = .ok (.iload 4, 2) := by decide +kernel
theorem dX12_hold_51 : decode cX12_hold 51 = .ok (.aload_n 0, 1) := by decide +kernel
theorem dX12_hold_52 : decode cX12_hold 52 = .ok (.getfield 13, 3) := by decide +kernel
theorem dX12_hold_55 : decode cX12_hold 55 = .ok (.sipush 709, 3) := by decide +kernel
theorem dX12_hold_58 : decode cX12_hold 58 = .ok (.iaload, 1) := by decide +kernel
theorem dX12_hold_59 : decode cX12_hold 59 = .ok (.if_icmp .ge 66, 3) := by decide +kernel
theorem dX12_hold_62 : decode cX12_hold 62 = .ok (.aload_n 0, 1) := by decide +kernel
theorem dX12_hold_63 : decode cX12_hold 63 = .ok (.iload_n 1, 1) := by decide +kernel
theorem dX12_hold_64 : decode cX12_hold 64 = .ok (.iload 4, 2) := by decide +kernel
theorem dX12_hold_66 : decode cX12_hold 66 = .ok (.invokevirtual 322, 3) := by decide +kernel
theorem dX12_hold_69 : decode cX12_hold 69 = .ok (.ifCond .ne 6, 3) := by decide +kernel
theorem dX12_hold_72 : decode cX12_hold 72 = .ok (.goto 47, 3) := by decide +kernel
theorem dX12_hold_75 : decode cX12_hold 75 = .ok (.aload_n 0, 1) := by decide +kernel
theorem dX12_hold_76 : decode cX12_hold 76 = .ok (.getfield 13, 3) := by decide +kernel
theorem dX12_hold_79 : decode cX12_hold 79 = .ok (.sipush 1070, 3) := by decide +kernel
theorem dX12_hold_82 : decode cX12_hold 82 = .ok (.iload 4, 2) := by decide +kernel
theorem dX12_hold_84 : decode cX12_hold 84 = .ok (.iadd, 1) := by decide +kernel
theorem dX12_hold_85 : decode cX12_hold 85 = .ok (.iload_n 3, 1) := by decide +kernel
theorem dX12_hold_86 : decode cX12_hold 86 = .ok (.aload_n 0, 1) := by decide +kernel
theorem dX12_hold_87 : decode cX12_hold 87 = .ok (.getfield 13, 3) := by decide +kernel
theorem dX12_hold_90 : decode cX12_hold 90 = .ok (.sipush 1070, 3) := by decide +kernel
theorem dX12_hold_93 : decode cX12_hold 93 = .ok (.iload 4, 2) := by decide +kernel
theorem dX12_hold_95 : decode cX12_hold 95 = .ok (.iadd, 1) := by decide +kernel
theorem dX12_hold_96 : decode cX12_hold 96 = .ok (.iaload, 1) := by decide +kernel
theorem dX12_hold_97 : decode cX12_hold 97 = .ok (.if_icmp .le 7, 3) := by decide +kernel
theorem dX12_hold_100 : decode cX12_hold 100 = .ok (.iload_n 3, 1) := by decide +kernel
theorem dX12_hold_101 : decode cX12_hold 101 = .ok (.goto 14, 3) := by decide +kernel
theorem dX12_hold_104 : decode cX12_hold 104 = .ok (.aload_n 0, 1) := by decide +kernel
theorem dX12_hold_105 : decode cX12_hold 105 = .ok (.getfield 13, 3) := by decide +kernel
theorem dX12_hold_108 : decode cX12_hold 108 = .ok (.sipush 1070, 3) := by decide +kernel
theorem dX12_hold_111 : decode cX12_hold 111 = .ok (.iload 4, 2) := by decide +kernel
theorem dX12_hold_113 : decode cX12_hold 113 = .ok (.iadd, 1) := by decide +kernel
theorem dX12_hold_114 : decode cX12_hold 114 = .ok (.iaload, 1) := by decide +kernel
theorem dX12_hold_115 : decode cX12_hold 115 = .ok (.iastore, 1) := by decide +kernel
theorem dX12_hold_116 : decode cX12_hold 116 = .ok (.iinc 2 1, 3) := by decide +kernel
theorem dX12_hold_119 : decode cX12_hold 119 = .ok (.iinc 4 1, 3) := by decide +kernel
theorem dX12_hold_122 : decode cX12_hold 122 = .ok (.goto (-73), 3) := by decide +kernel
theorem dX12_hold_125 : decode cX12_hold 125 = .ok (.iload_n 2, 1) := by decide +kernel
theorem dX12_hold_126 : decode cX12_hold 126 = .ok (.ireturn, 1) := by decide +kernel
theorem dX12_runs_0 : decode cX12_runs 0 = .ok (.aload_n 0, 1) := by decide +kernel
theorem dX12_runs_1 : decode cX12_runs 1 = .ok (.iconst 0, 1) := by decide +kernel
theorem dX12_runs_2 : decode cX12_runs 2 = .ok (.putfield 1, 3) := by decide +kernel
theorem dX12_runs_5 : decode cX12_runs 5 = .ok (.aload_n 0, 1) := by decide +kernel
theorem dX12_runs_6 : decode cX12_runs 6 = .ok (.iload_n 1, 1) := by decide +kernel
theorem dX12_runs_7 : decode cX12_runs 7 = .ok (.invokevirtual 215, 3) := by decide +kernel
theorem dX12_runs_10 : decode cX12_runs 10 = .ok (.ifCond .eq 13, 3) := by decide +kernel
theorem dX12_runs_13 : decode cX12_runs 13 = .ok (.iload_n 2, 1) := by decide +kernel
theorem dX12_runs_14 : decode cX12_runs 14 = .ok (.i2l, 1) := by decide +kernel
theorem dX12_runs_15 : decode cX12_runs 15 = .ok (.lconst 0, 1) := by decide +kernel
theorem dX12_runs_16 : decode cX12_runs 16 = .ok (.lconst 1, 1) := by decide +kernel
theorem dX12_runs_17 : decode cX12_runs 17 = .ok (.invokestatic 142, 3) := by decide +kernel
theorem dX12_runs_20 : decode cX12_runs 20 = .ok (.ifCond .ne 6, 3) := by decide +kernel
theorem dX12_runs_23 : decode cX12_runs 23 = .ok (.bipush (-2), 2) := by decide +kernel
theorem dX12_runs_25 : decode cX12_runs 25 = .ok (.ireturn, 1) := by decide +kernel
theorem dX12_runs_26 : decode cX12_runs 26 = .ok (.aload_n 0, 1) := by decide +kernel
theorem dX12_runs_27 : decode cX12_runs 27 = .ok (.getfield 13, 3) := by decide +kernel
theorem dX12_runs_30 : decode cX12_runs 30 = .ok (.bipush 64, 2) := by decide +kernel
theorem dX12_runs_32 : decode cX12_runs 32 = .ok (.iaload, 1) := by decide +kernel
theorem dX12_runs_33 : decode cX12_runs 33 = .ok (.ifCond .ne 6, 3) := by decide +kernel
theorem dX12_runs_36 : decode cX12_runs 36 = .ok (.bipush (-5), 2) := by decide +kernel
theorem dX12_runs_38 : decode cX12_runs 38 = .ok (.ireturn, 1) := by decide +kernel
theorem dX12_runs_39 : decode cX12_runs 39 = .ok (.iconst 0, 1) := by decide +kernel
theorem dX12_runs_40 : decode cX12_runs 40 = .ok (.istore_n 3, 1) := by decide +kernel
theorem dX12_runs_41 : decode cX12_runs 41 = .ok (.iconst 0, 1) := by decide +kernel
theorem dX12_runs_42 : decode cX12_runs 42 = .ok (.istore 4, 2) := by decide +kernel
theorem dX12_runs_44 : decode cX12_runs 44 = .ok (.iconst 0, 1) := by decide +kernel
theorem dX12_runs_45 : decode cX12_runs 45 = .ok (.istore 5, 2) := by decide +kernel
theorem dX12_runs_47 : decode cX12_runs 47 = .ok (.iload 5, 2) := by decide +kernel
theorem dX12_runs_49 : decode cX12_runs 49 = .ok (.aload_n 0, 1) := by decide +kernel
theorem dX12_runs_50 : decode cX12_runs 50 = .ok (.getfield 13, 3) := by decide +kernel
theorem dX12_runs_53 : decode cX12_runs 53 = .ok (.sipush 709, 3) := by decide +kernel
theorem dX12_runs_56 : decode cX12_runs 56 = .ok (.iaload, 1) := by decide +kernel
theorem dX12_runs_57 : decode cX12_runs 57 = .ok (.if_icmp .ge 120, 3) := by decide +kernel
theorem dX12_runs_60 : decode cX12_runs 60 = .ok (.aload_n 0, 1) := by decide +kernel
theorem dX12_runs_61 : decode cX12_runs 61 = .ok (.getfield 13, 3) := by decide +kernel
theorem dX12_runs_64 : decode cX12_runs 64 = .ok (.sipush 770, 3) := by decide +kernel
theorem dX12_runs_67 : decode cX12_runs 67 = .ok (.iload 5, 2) := by decide +kernel
theorem dX12_runs_69 : decode cX12_runs 69 = .ok (.iadd, 1) := by decide +kernel
theorem dX12_runs_70 : decode cX12_runs 70 = .ok (.iaload, 1) := by decide +kernel
theorem dX12_runs_71 : decode cX12_runs 71 = .ok (.iload_n 1, 1) := by decide +kernel
theorem dX12_runs_72 : decode cX12_runs 72 = .ok (.if_icmp .ne 99, 3) := by decide +kernel
theorem dX12_runs_75 : decode cX12_runs 75 = .ok (.aload_n 0, 1) := by decide +kernel
theorem dX12_runs_76 : decode cX12_runs 76 = .ok (.getfield 13, 3) := by decide +kernel
theorem dX12_runs_79 : decode cX12_runs 79 = .ok (.sipush 1010, 3) := by decide +kernel
theorem dX12_runs_82 : decode cX12_runs 82 = .ok (.iload 5, 2) := by decide +kernel
theorem dX12_runs_84 : decode cX12_runs 84 = .ok (.iadd, 1) := by decide +kernel
theorem dX12_runs_85 : decode cX12_runs 85 = .ok (.iaload, 1) := by decide +kernel
theorem dX12_runs_86 : decode cX12_runs 86 = .ok (.ifCond .eq 6, 3) := by decide +kernel
theorem dX12_runs_89 : decode cX12_runs 89 = .ok (.goto 82, 3) := by decide +kernel
theorem dX12_runs_92 : decode cX12_runs 92 = .ok (.aload_n 0, 1) := by decide +kernel
theorem dX12_runs_93 : decode cX12_runs 93 = .ok (.bipush 32, 2) := by decide +kernel
theorem dX12_runs_95 : decode cX12_runs 95 = .ok (.aload_n 0, 1) := by decide +kernel
theorem dX12_runs_96 : decode cX12_runs 96 = .ok (.getfield 13, 3) := by decide +kernel
theorem dX12_runs_99 : decode cX12_runs 99 = .ok (.sipush 830, 3) := by decide +kernel
theorem dX12_runs_102 : decode cX12_runs 102 = .ok (.iload 5, 2) := by decide +kernel
theorem dX12_runs_104 : decode cX12_runs 104 = .ok (.iadd, 1) := by decide +kernel
theorem dX12_runs_105 : decode cX12_runs 105 = .ok (.iaload, 1) := by decide +kernel
theorem dX12_runs_106 : decode cX12_runs 106 = .ok (.aload_n 0, 1) := by decide +kernel
theorem dX12_runs_107 : decode cX12_runs 107 = .ok (.getfield 13, 3) := by decide +kernel
theorem dX12_runs_110 : decode cX12_runs 110 = .ok (.sipush 708, 3) := by decide +kernel
theorem dX12_runs_113 : decode cX12_runs 113 = .ok (.iaload, 1) := by decide +kernel
theorem dX12_runs_114 : decode cX12_runs 114 = .ok (.aload_n 0, 1) := by decide +kernel
theorem dX12_runs_115 : decode cX12_runs 115 = .ok (.getfield 13, 3) := by decide +kernel
theorem dX12_runs_118 : decode cX12_runs 118 = .ok (.sipush 890, 3) := by decide +kernel
theorem dX12_runs_121 : decode cX12_runs 121 = .ok (.iload 5, 2) := by decide +kernel
theorem dX12_runs_123 : decode cX12_runs 123 = .ok (.iadd, 1) := by decide +kernel
theorem dX12_runs_124 : decode cX12_runs 124 = .ok (.iaload, 1) := by decide +kernel
theorem dX12_runs_125 : decode cX12_runs 125 = .ok (.isub, 1) := by decide +kernel
theorem dX12_runs_126 : decode cX12_runs 126 = .ok (.invokestatic 202, 3) := by decide +kernel
theorem dX12_runs_129 : decode cX12_runs 129 = .ok (.invokevirtual 205, 3) := by decide +kernel
theorem dX12_runs_132 : decode cX12_runs 132 = .ok (.istore 6, 2) := by decide +kernel
theorem dX12_runs_134 : decode cX12_runs 134 = .ok (.aload_n 0, 1) := by decide +kernel
theorem dX12_runs_135 : decode cX12_runs 135 = .ok (.iload 5, 2) := by decide +kernel
theorem dX12_runs_137 : decode cX12_runs 137 = .ok (.invokevirtual 240, 3) := by decide +kernel
theorem dX12_runs_140 : decode cX12_runs 140 = .ok (.istore 7, 2) := by decide +kernel
theorem dX12_runs_142 : decode cX12_runs 142 = .ok (.iload 6, 2) := by decide +kernel
theorem dX12_runs_144 : decode cX12_runs 144 = .ok (.iconst (-1), 1) := by decide +kernel
theorem dX12_runs_145 : decode cX12_runs 145 = .ok (.if_icmp .eq 26, 3) := by decide +kernel
theorem dX12_runs_148 : decode cX12_runs 148 = .ok (.iload 6, 2) := by decide +kernel
theorem dX12_runs_150 : decode cX12_runs 150 = .ok (.iload 7, 2) := by decide +kernel
theorem dX12_runs_152 : decode cX12_runs 152 = .ok (.if_icmp .lt 6, 3) := by decide +kernel
theorem dX12_runs_155 : decode cX12_runs 155 = .ok (.goto 16, 3) := by decide +kernel
theorem dX12_runs_158 : decode cX12_runs 158 = .ok (.iinc 3 1, 3) := by decide +kernel
theorem dX12_runs_161 : decode cX12_runs 161 = .ok (.iload 4, 2) := by decide +kernel
theorem dX12_runs_163 : decode cX12_runs 163 = .ok (.iload 7, 2) := by decide +kernel
theorem dX12_runs_165 : decode cX12_runs 165 = .ok (.iload 6, 2) := by decide +kernel
theorem dX12_runs_167 : decode cX12_runs 167 = .ok (.isub, 1) := by decide +kernel
theorem dX12_runs_168 : decode cX12_runs 168 = .ok (.iadd, 1) := by decide +kernel
theorem dX12_runs_169 : decode cX12_runs 169 = .ok (.istore 4, 2) := by decide +kernel
theorem dX12_runs_171 : decode cX12_runs 171 = .ok (.iinc 5 1, 3) := by decide +kernel
theorem dX12_runs_174 : decode cX12_runs 174 = .ok (.goto (-127), 3) := by decide +kernel
theorem dX12_runs_177 : decode cX12_runs 177 = .ok (.iload_n 2, 1) := by decide +kernel
theorem dX12_runs_178 : decode cX12_runs 178 = .ok (.ifCond .ne 7, 3) := by decide +kernel
theorem dX12_runs_181 : decode cX12_runs 181 = .ok (.iload_n 3, 1) := by decide +kernel
theorem dX12_runs_182 : decode cX12_runs 182 = .ok (.goto 5, 3) := by decide +kernel
theorem dX12_runs_185 : decode cX12_runs 185 = .ok (.iload 4, 2) := by decide +kernel
theorem dX12_runs_187 : decode cX12_runs 187 = .ok (.ireturn, 1) := by decide +kernel
theorem dX12_chain_0 : decode cX12_chain 0 = .ok (.aload_n 0, 1) := by decide +kernel
theorem dX12_chain_1 : decode cX12_chain 1 = .ok (.iconst 0, 1) := by decide +kernel
theorem dX12_chain_2 : decode cX12_chain 2 = .ok (.putfield 1, 3) := by decide +kernel
theorem dX12_chain_5 : decode cX12_chain 5 = .ok (.aload_n 0, 1) := by decide +kernel
theorem dX12_chain_6 : decode cX12_chain 6 = .ok (.iload_n 1, 1) := by decide +kernel
theorem dX12_chain_7 : decode cX12_chain 7 = .ok (.invokevirtual 215, 3) := by decide +kernel
theorem dX12_chain_10 : decode cX12_chain 10 = .ok (.ifCond .ne 6, 3) := by decide +kernel
theorem dX12_chain_13 : decode cX12_chain 13 = .ok (.bipush (-2), 2) := by decide +kernel
theorem dX12_chain_15 : decode cX12_chain 15 = .ok (.ireturn, 1) := by decide +kernel
theorem dX12_chain_16 : decode cX12_chain 16 = .ok (.iconst 0, 1) := by decide +kernel
theorem dX12_chain_17 : decode cX12_chain 17 = .ok (.istore_n 2, 1) := by decide +kernel
theorem dX12_chain_18 : decode cX12_chain 18 = .ok (.iconst 0, 1) := by decide +kernel
theorem dX12_chain_19 : decode cX12_chain 19 = .ok (.istore_n 3, 1) := by decide +kernel
theorem dX12_chain_20 : decode cX12_chain 20 = .ok (.iload_n 3, 1) := by decide +kernel
theorem dX12_chain_21 : decode cX12_chain 21 = .ok (.aload_n 0, 1) := by decide +kernel
theorem dX12_chain_22 : decode cX12_chain 22 = .ok (.getfield 13, 3) := by decide +kernel
theorem dX12_chain_25 : decode cX12_chain 25 = .ok (.sipush 709, 3) := by decide +kernel
theorem dX12_chain_28 : decode cX12_chain 28 = .ok (.iaload, 1) := by decide +kernel
theorem dX12_chain_29 : decode cX12_chain 29 = .ok (.if_icmp .ge 170, 3) := by decide +kernel
theorem dX12_chain_32 : decode cX12_chain 32 = .ok (.aload_n 0, 1) := by decide +kernel
theorem dX12_chain_33 : decode cX12_chain 33 = .ok (.getfield 54, 3) := by decide +kernel
theorem dX12_chain_36 : decode cX12_chain 36 = .ok (.iload_n 3, 1) := by decide +kernel
theorem dX12_chain_37 : decode cX12_chain 37 = .ok (.iconst 0, 1) := by decide +kernel
theorem dX12_chain_38 : decode cX12_chain 38 = .ok (.iastore, 1) := by decide +kernel
theorem dX12_chain_39 : decode cX12_chain 39 = .ok (.aload_n 0, 1) := by decide +kernel
theorem dX12_chain_40 : decode cX12_chain 40 = .ok (.getfield 13, 3) := by decide +kernel
theorem dX12_chain_43 : decode cX12_chain 43 = .ok (.sipush 770, 3) := by decide +kernel
theorem dX12_chain_46 : decode cX12_chain 46 = .ok (.iload_n 3, 1) := by decide +kernel
theorem dX12_chain_47 : decode cX12_chain 47 = .ok (.iadd, 1) := by decide +kernel
theorem dX12_chain_48 : decode cX12_chain 48 = .ok (.iaload, 1) := by decide +kernel
theorem dX12_chain_49 : decode cX12_chain 49 = .ok (.iload_n 1, 1) := by decide +kernel
theorem dX12_chain_50 : decode cX12_chain 50 = .ok (.if_icmp .eq 6, 3) := by decide +kernel
theorem dX12_chain_53 : decode cX12_chain 53 = .ok (.goto 140, 3) := by decide +kernel
theorem dX12_chain_56 : decode cX12_chain 56 = .ok (.aload_n 0, 1) := by decide +kernel
theorem dX12_chain_57 : decode cX12_chain 57 = .ok (.getfield 54, 3) := by decide +kernel
theorem dX12_chain_60 : decode cX12_chain 60 = .ok (.iload_n 3, 1) := by decide +kernel
theorem dX12_chain_61 : decode cX12_chain 61 = .ok (.iconst 1, 1) := by decide +kernel
theorem dX12_chain_62 : decode cX12_chain 62 = .ok (.iastore, 1) := by decide +kernel
theorem dX12_chain_63 : decode cX12_chain 63 = .ok (.iconst 0, 1) := by decide +kernel
theorem dX12_chain_64 : decode cX12_chain 64 = .ok (.istore 4, 2) := by decide +kernel
theorem dX12_chain_66 : decode cX12_chain 66 = .ok (.iload 4, 2) := by decide +kernel
theorem dX12_chain_68 : decode cX12_chain 68 = .ok (.iload_n 3, 1) := by decide +kernel
theorem dX12_chain_69 : decode cX12_chain 69 = .ok (.if_icmp .ge 103, 3) := by decide +kernel
theorem dX12_chain_72 : decode cX12_chain 72 = .ok (.aload_n 0, 1) := by decide +kernel
theorem dX12_chain_73 : decode cX12_chain 73 = .ok (.getfield 54, 3) := by decide +kernel
theorem dX12_chain_76 : decode cX12_chain 76 = .ok (.iload 4, 2) := by decide +kernel
theorem dX12_chain_78 : decode cX12_chain 78 = .ok (.iaload, 1) := by decide +kernel
theorem dX12_chain_79 : decode cX12_chain 79 = .ok (.ifCond .le 46, 3) := by decide +kernel
theorem dX12_chain_82 : decode cX12_chain 82 = .ok (.aload_n 0, 1) := by decide +kernel
theorem dX12_chain_83 : decode cX12_chain 83 = .ok (.getfield 13, 3) := by decide +kernel
theorem dX12_chain_86 : decode cX12_chain 86 = .ok (.sipush 1010, 3) := by decide +kernel
theorem dX12_chain_89 : decode cX12_chain 89 = .ok (.iload 4, 2) := by decide +kernel
theorem dX12_chain_91 : decode cX12_chain 91 = .ok (.iadd, 1) := by decide +kernel
theorem dX12_chain_92 : decode cX12_chain 92 = .ok (.iaload, 1) := by decide +kernel
theorem dX12_chain_93 : decode cX12_chain 93 = .ok (.iconst 1, 1) := by decide +kernel
theorem dX12_chain_94 : decode cX12_chain 94 = .ok (.if_icmp .ne 31, 3) := by decide +kernel
theorem dX12_chain_97 : decode cX12_chain 97 = .ok (.aload_n 0, 1) := by decide +kernel
theorem dX12_chain_98 : decode cX12_chain 98 = .ok (.getfield 13, 3) := by decide +kernel
theorem dX12_chain_101 : decode cX12_chain 101 = .ok (.sipush 1190, 3) := by decide +kernel
theorem dX12_chain_104 : decode cX12_chain 104 = .ok (.iload 4, 2) := by decide +kernel
theorem dX12_chain_106 : decode cX12_chain 106 = .ok (.iadd, 1) := by decide +kernel
theorem dX12_chain_107 : decode cX12_chain 107 = .ok (.iaload, 1) := by decide +kernel
theorem dX12_chain_108 : decode cX12_chain 108 = .ok (.aload_n 0, 1) := by decide +kernel
theorem dX12_chain_109 : decode cX12_chain 109 = .ok (.getfield 13, 3) := by decide +kernel
theorem dX12_chain_112 : decode cX12_chain 112 = .ok (.sipush 1130, 3) := by decide +kernel
theorem dX12_chain_115 : decode cX12_chain 115 = .ok (.iload_n 3, 1) := by decide +kernel
theorem dX12_chain_116 : decode cX12_chain 116 = .ok (.iadd, 1) := by decide +kernel
theorem dX12_chain_117 : decode cX12_chain 117 = .ok (.iaload, 1) := by decide +kernel
theorem dX12_chain_118 : decode cX12_chain 118 = .ok (.if_icmp .ne 7, 3) := by decide +kernel
theorem dX12_chain_121 : decode cX12_chain 121 = .ok (.iconst 1, 1) := by decide +kernel
theorem dX12_chain_122 : decode cX12_chain 122 = .ok (.goto 4, 3) := by decide +kernel
theorem dX12_chain_125 : decode cX12_chain 125 = .ok (.iconst 0, 1) := by decide +kernel
theorem dX12_chain_126 : decode cX12_chain 126 = .ok (.istore 5, 2) := by decide +kernel
theorem dX12_chain_128 : decode cX12_chain 128 = .ok (.iload 5, 2) := by decide +kernel
theorem dX12_chain_130 : decode cX12_chain 130 = .ok (.ifCond .eq 36, 3) := by decide +kernel
theorem dX12_chain_133 : decode cX12_chain 133 = .ok (.aload_n 0, 1) := by decide +kernel
theorem dX12_chain_134 : decode cX12_chain 134 = .ok (.getfield 54, 3) := by decide +kernel
theorem dX12_chain_137 : decode cX12_chain 137 = .ok (.iload 4, 2) := by decide +kernel
theorem dX12_chain_139 : decode cX12_chain 139 = .ok (.iaload, 1) := by decide +kernel
theorem dX12_chain_140 : decode cX12_chain 140 = .ok (.iconst 1, 1) := by decide +kernel
theorem dX12_chain_141 : decode cX12_chain 141 = .ok (.iadd, 1) := by decide +kernel
theorem dX12_chain_142 : decode cX12_chain 142 = .ok (.aload_n 0, 1) := by decide +kernel
theorem dX12_chain_143 : decode cX12_chain 143 = .ok (.getfield 54, 3) := by decide +kernel
theorem dX12_chain_146 : decode cX12_chain 146 = .ok (.iload_n 3, 1) := by decide +kernel
theorem dX12_chain_147 : decode cX12_chain 147 = .ok (.iaload, 1) := by decide +kernel
theorem dX12_chain_148 : decode cX12_chain 148 = .ok (.if_icmp .le 18, 3) := by decide +kernel
theorem dX12_chain_151 : decode cX12_chain 151 = .ok (.aload_n 0, 1) := by decide +kernel
theorem dX12_chain_152 : decode cX12_chain 152 = .ok (.getfield 54, 3) := by decide +kernel
theorem dX12_chain_155 : decode cX12_chain 155 = .ok (.iload_n 3, 1) := by decide +kernel
theorem dX12_chain_156 : decode cX12_chain 156 = .ok (.aload_n 0, 1) := by decide +kernel
theorem dX12_chain_157 : decode cX12_chain 157 = .ok (.getfield 54, 3) := by decide +kernel
theorem dX12_chain_160 : decode cX12_chain 160 = .ok (.iload 4, 2) := by decide +kernel
theorem dX12_chain_162 : decode cX12_chain 162 = .ok (.iaload, 1) := by decide +kernel
theorem dX12_chain_163 : decode cX12_chain 163 = .ok (.iconst 1, 1) := by decide +kernel
theorem dX12_chain_164 : decode cX12_chain 164 = .ok (.iadd, 1) := by decide +kernel
theorem dX12_chain_165 : decode cX12_chain 165 = .ok (.iastore, 1) := by decide +kernel
theorem dX12_chain_166 : decode cX12_chain 166 = .ok (.iinc 4 1, 3) := by decide +kernel
theorem dX12_chain_169 : decode cX12_chain 169 = .ok (.goto (-103), 3) := by decide +kernel
theorem dX12_chain_172 : decode cX12_chain 172 = .ok (.aload_n 0, 1) := by decide +kernel
theorem dX12_chain_173 : decode cX12_chain 173 = .ok (.getfield 54, 3) := by decide +kernel
theorem dX12_chain_176 : decode cX12_chain 176 = .ok (.iload_n 3, 1) := by decide +kernel
theorem dX12_chain_177 : decode cX12_chain 177 = .ok (.iaload, 1) := by decide +kernel
theorem dX12_chain_178 : decode cX12_chain 178 = .ok (.iload_n 2, 1) := by decide +kernel
theorem dX12_chain_179 : decode cX12_chain 179 = .ok (.if_icmp .le 12, 3) := by decide +kernel
theorem dX12_chain_182 : decode cX12_chain 182 = .ok (.aload_n 0, 1) := by decide +kernel
theorem dX12_chain_183 : decode cX12_chain 183 = .ok (.getfield 54, 3) := by decide +kernel
theorem dX12_chain_186 : decode cX12_chain 186 = .ok (.iload_n 3, 1) := by decide +kernel
theorem dX12_chain_187 : decode cX12_chain 187 = .ok (.iaload, 1) := by decide +kernel
theorem dX12_chain_188 : decode cX12_chain 188 = .ok (.goto 4, 3) := by decide +kernel
theorem dX12_chain_191 : decode cX12_chain 191 = .ok (.iload_n 2, 1) := by decide +kernel
theorem dX12_chain_192 : decode cX12_chain 192 = .ok (.istore_n 2, 1) := by decide +kernel
theorem dX12_chain_193 : decode cX12_chain 193 = .ok (.iinc 3 1, 3) := by decide +kernel
theorem dX12_chain_196 : decode cX12_chain 196 = .ok (.goto (-176), 3) := by decide +kernel
theorem dX12_chain_199 : decode cX12_chain 199 = .ok (.iload_n 2, 1) := by decide +kernel
theorem dX12_chain_200 : decode cX12_chain 200 = .ok (.ireturn, 1) := by decide +kernel
theorem dX12_book_0 : decode cX12_book 0 = .ok (.aload_n 0, 1) := by decide +kernel
theorem dX12_book_1 : decode cX12_book 1 = .ok (.iconst 0, 1) := by decide +kernel
theorem dX12_book_2 : decode cX12_book 2 = .ok (.putfield 1, 3) := by decide +kernel
theorem dX12_book_5 : decode cX12_book 5 = .ok (.iload_n 1, 1) := by decide +kernel
theorem dX12_book_6 : decode cX12_book 6 = .ok (.i2l, 1) := by decide +kernel
theorem dX12_book_7 : decode cX12_book 7 = .ok (.lconst 0, 1) := by decide +kernel
theorem dX12_book_8 : decode cX12_book 8 = .ok (.aload_n 0, 1) := by decide +kernel
theorem dX12_book_9 : decode cX12_book 9 = .ok (.getfield 13, 3) := by decide +kernel
theorem dX12_book_12 : decode cX12_book 12 = .ok (.sipush 708, 3) := by decide +kernel
theorem dX12_book_15 : decode cX12_book 15 = .ok (.iaload, 1) := by decide +kernel
theorem dX12_book_16 : decode cX12_book 16 = .ok (.i2l, 1) := by decide +kernel
theorem dX12_book_17 : decode cX12_book 17 = .ok (.invokestatic 142, 3) := by decide +kernel
theorem dX12_book_20 : decode cX12_book 20 = .ok (.ifCond .eq 15, 3) := by decide +kernel
theorem dX12_book_23 : decode cX12_book 23 = .ok (.iload_n 2, 1) := by decide +kernel
theorem dX12_book_24 : decode cX12_book 24 = .ok (.i2l, 1) := by decide +kernel
theorem dX12_book_25 : decode cX12_book 25 = .ok (.lconst 0, 1) := by decide +kernel
theorem dX12_book_26 : decode cX12_book 26 = .ok (.ldc2_w 326, 3) := by decide +kernel
theorem dX12_book_29 : decode cX12_book 29 = .ok (.invokestatic 142, 3) := by decide +kernel
theorem dX12_book_32 : decode cX12_book 32 = .ok (.ifCond .ne 6, 3) := by decide +kernel
theorem dX12_book_35 : decode cX12_book 35 = .ok (.bipush (-2), 2) := by decide +kernel
theorem dX12_book_37 : decode cX12_book 37 = .ok (.ireturn, 1) := by decide +kernel
theorem dX12_book_38 : decode cX12_book 38 = .ok (.iload_n 2, 1) := by decide +kernel
theorem dX12_book_39 : decode cX12_book 39 = .ok (.tableswitch 73 0 3 #[29, 40, 51, 62], 29) := by decide +kernel
theorem dX12_book_68 : decode cX12_book 68 = .ok (.aload_n 0, 1) := by decide +kernel
theorem dX12_book_69 : decode cX12_book 69 = .ok (.getfield 13, 3) := by decide +kernel
theorem dX12_book_72 : decode cX12_book 72 = .ok (.sipush 1782, 3) := by decide +kernel
theorem dX12_book_75 : decode cX12_book 75 = .ok (.iload_n 1, 1) := by decide +kernel
theorem dX12_book_76 : decode cX12_book 76 = .ok (.iadd, 1) := by decide +kernel
theorem dX12_book_77 : decode cX12_book 77 = .ok (.iaload, 1) := by decide +kernel
theorem dX12_book_78 : decode cX12_book 78 = .ok (.ireturn, 1) := by decide +kernel
theorem dX12_book_79 : decode cX12_book 79 = .ok (.aload_n 0, 1) := by decide +kernel
theorem dX12_book_80 : decode cX12_book 80 = .ok (.getfield 13, 3) := by decide +kernel
theorem dX12_book_83 : decode cX12_book 83 = .ok (.sipush 2083, 3) := by decide +kernel
theorem dX12_book_86 : decode cX12_book 86 = .ok (.iload_n 1, 1) := by decide +kernel
theorem dX12_book_87 : decode cX12_book 87 = .ok (.iadd, 1) := by decide +kernel
theorem dX12_book_88 : decode cX12_book 88 = .ok (.iaload, 1) := by decide +kernel
theorem dX12_book_89 : decode cX12_book 89 = .ok (.ireturn, 1) := by decide +kernel
theorem dX12_book_90 : decode cX12_book 90 = .ok (.aload_n 0, 1) := by decide +kernel
theorem dX12_book_91 : decode cX12_book 91 = .ok (.getfield 13, 3) := by decide +kernel
theorem dX12_book_94 : decode cX12_book 94 = .ok (.sipush 2384, 3) := by decide +kernel
theorem dX12_book_97 : decode cX12_book 97 = .ok (.iload_n 1, 1) := by decide +kernel
theorem dX12_book_98 : decode cX12_book 98 = .ok (.iadd, 1) := by decide +kernel
theorem dX12_book_99 : decode cX12_book 99 = .ok (.iaload, 1) := by decide +kernel
theorem dX12_book_100 : decode cX12_book 100 = .ok (.ireturn, 1) := by decide +kernel
theorem dX12_book_101 : decode cX12_book 101 = .ok (.aload_n 0, 1) := by decide +kernel
theorem dX12_book_102 : decode cX12_book 102 = .ok (.getfield 13, 3) := by decide +kernel
theorem dX12_book_105 : decode cX12_book 105 = .ok (.sipush 2685, 3) := by decide +kernel
theorem dX12_book_108 : decode cX12_book 108 = .ok (.iload_n 1, 1) := by decide +kernel
theorem dX12_book_109 : decode cX12_book 109 = .ok (.iadd, 1) := by decide +kernel
theorem dX12_book_110 : decode cX12_book 110 = .ok (.iaload, 1) := by decide +kernel
theorem dX12_book_111 : decode cX12_book 111 = .ok (.ireturn, 1) := by decide +kernel
theorem dX12_book_112 : decode cX12_book 112 = .ok (.aload_n 0, 1) := by decide +kernel
theorem dX12_book_113 : decode cX12_book 113 = .ok (.getfield 13, 3) := by decide +kernel
theorem dX12_book_116 : decode cX12_book 116 = .ok (.sipush 2986, 3) := by decide +kernel
theorem dX12_book_119 : decode cX12_book 119 = .ok (.iload_n 1, 1) := by decide +kernel
theorem dX12_book_120 : decode cX12_book 120 = .ok (.iadd, 1) := by decide +kernel
theorem dX12_book_121 : decode cX12_book 121 = .ok (.iaload, 1) := by decide +kernel
theorem dX12_book_122 : decode cX12_book 122 = .ok (.ireturn, 1) := by decide +kernel
theorem dX12_worst_0 : decode cX12_worst 0 = .ok (.aload_n 0, 1) := by decide +kernel
theorem dX12_worst_1 : decode cX12_worst 1 = .ok (.iconst 0, 1) := by decide +kernel
theorem dX12_worst_2 : decode cX12_worst 2 = .ok (.putfield 1, 3) := by decide +kernel
theorem dX12_worst_5 : decode cX12_worst 5 = .ok (.iload_n 2, 1) := by decide +kernel
theorem dX12_worst_6 : decode cX12_worst 6 = .ok (.i2l, 1) := by decide +kernel
theorem dX12_worst_7 : decode cX12_worst 7 = .ok (.lconst 0, 1) := by decide +kernel
theorem dX12_worst_8 : decode cX12_worst 8 = .ok (.lconst 1, 1) := by decide +kernel
theorem dX12_worst_9 : decode cX12_worst 9 = .ok (.invokestatic 142, 3) := by decide +kernel
theorem dX12_worst_12 : decode cX12_worst 12 = .ok (.ifCond .ne 6, 3) := by decide +kernel
theorem dX12_worst_15 : decode cX12_worst 15 = .ok (.bipush (-2), 2) := by decide +kernel
theorem dX12_worst_17 : decode cX12_worst 17 = .ok (.ireturn, 1) := by decide +kernel
theorem dX12_worst_18 : decode cX12_worst 18 = .ok (.iload_n 1, 1) := by decide +kernel
theorem dX12_worst_19 : decode cX12_worst 19 = .ok (.i2l, 1) := by decide +kernel
theorem dX12_worst_20 : decode cX12_worst 20 = .ok (.lconst 1, 1) := by decide +kernel
theorem dX12_worst_21 : decode cX12_worst 21 = .ok (.ldc2_w 219, 3) := by decide +kernel
theorem dX12_worst_24 : decode cX12_worst 24 = .ok (.invokestatic 142, 3) := by decide +kernel
theorem dX12_worst_27 : decode cX12_worst 27 = .ok (.ifCond .eq 17, 3) := by decide +kernel
theorem dX12_worst_30 : decode cX12_worst 30 = .ok (.iload_n 1, 1) := by decide +kernel
theorem dX12_worst_31 : decode cX12_worst 31 = .ok (.aload_n 0, 1) := by decide +kernel
theorem dX12_worst_32 : decode cX12_worst 32 = .ok (.getfield 13, 3) := by decide +kernel
theorem dX12_worst_35 : decode cX12_worst 35 = .ok (.sipush 708, 3) := by decide +kernel
theorem dX12_worst_38 : decode cX12_worst 38 = .ok (.iaload, 1) := by decide +kernel
theorem dX12_worst_39 : decode cX12_worst 39 = .ok (.iconst 1, 1) := by decide +kernel
theorem dX12_worst_40 : decode cX12_worst 40 = .ok (.iadd, 1) := by decide +kernel
theorem dX12_worst_41 : decode cX12_worst 41 = .ok (.if_icmp .le 6, 3) := by decide +kernel
theorem dX12_worst_44 : decode cX12_worst 44 = .ok (.bipush (-3), 2) := by decide +kernel
theorem dX12_worst_46 : decode cX12_worst 46 = .ok (.ireturn, 1) := by decide +kernel
theorem dX12_worst_47 : decode cX12_worst 47 = .ok (.iconst 0, 1) := by decide +kernel
theorem dX12_worst_48 : decode cX12_worst 48 = .ok (.istore_n 3, 1) := by decide +kernel
theorem dX12_worst_49 : decode cX12_worst 49 = .ok (.iconst 0, 1) := by decide +kernel
theorem dX12_worst_50 : decode cX12_worst 50 = .ok (.istore 4, 2) := by decide +kernel
theorem dX12_worst_52 : decode cX12_worst 52 = .ok (.iconst 0, 1) := by decide +kernel
theorem dX12_worst_53 : decode cX12_worst 53 = .ok (.istore 5, 2) := by decide +kernel
theorem dX12_worst_55 : decode cX12_worst 55 = .ok (.iload 5, 2) := by decide +kernel
theorem dX12_worst_57 : decode cX12_worst 57 = .ok (.iload_n 1, 1) := by decide +kernel
theorem dX12_worst_58 : decode cX12_worst 58 = .ok (.iadd, 1) := by decide +kernel
theorem dX12_worst_59 : decode cX12_worst 59 = .ok (.aload_n 0, 1) := by decide +kernel
theorem dX12_worst_60 : decode cX12_worst 60 = .ok (.getfield 13, 3) := by decide +kernel
theorem dX12_worst_63 : decode cX12_worst 63 = .ok (.sipush 708, 3) := by decide +kernel
theorem dX12_worst_66 : decode cX12_worst 66 = .ok (.iaload, 1) := by decide +kernel
theorem dX12_worst_67 : decode cX12_worst 67 = .ok (.iconst 1, 1) := by decide +kernel
theorem dX12_worst_68 : decode cX12_worst 68 = .ok (.iadd, 1) := by decide +kernel
theorem dX12_worst_69 : decode cX12_worst 69 = .ok (.if_icmp .gt 81, 3) := by decide +kernel
theorem dX12_worst_72 : decode cX12_worst 72 = .ok (.iconst 0, 1) := by decide +kernel
theorem dX12_worst_73 : decode cX12_worst 73 = .ok (.istore 6, 2) := by decide +kernel
theorem dX12_worst_75 : decode cX12_worst 75 = .ok (.iload 5, 2) := by decide +kernel
theorem dX12_worst_77 : decode cX12_worst 77 = .ok (.istore 7, 2) := by decide +kernel
theorem dX12_worst_79 : decode cX12_worst 79 = .ok (.iload 7, 2) := by decide +kernel
theorem dX12_worst_81 : decode cX12_worst 81 = .ok (.iload 5, 2) := by decide +kernel
theorem dX12_worst_83 : decode cX12_worst 83 = .ok (.iload_n 1, 1) := by decide +kernel
theorem dX12_worst_84 : decode cX12_worst 84 = .ok (.iadd, 1) := by decide +kernel
theorem dX12_worst_85 : decode cX12_worst 85 = .ok (.if_icmp .ge 37, 3) := by decide +kernel
theorem dX12_worst_88 : decode cX12_worst 88 = .ok (.iload 6, 2) := by decide +kernel
theorem dX12_worst_90 : decode cX12_worst 90 = .ok (.aload_n 0, 1) := by decide +kernel
theorem dX12_worst_91 : decode cX12_worst 91 = .ok (.getfield 13, 3) := by decide +kernel
theorem dX12_worst_94 : decode cX12_worst 94 = .ok (.sipush 1782, 3) := by decide +kernel
theorem dX12_worst_97 : decode cX12_worst 97 = .ok (.iload 7, 2) := by decide +kernel
theorem dX12_worst_99 : decode cX12_worst 99 = .ok (.iadd, 1) := by decide +kernel
theorem dX12_worst_100 : decode cX12_worst 100 = .ok (.iaload, 1) := by decide +kernel
theorem dX12_worst_101 : decode cX12_worst 101 = .ok (.aload_n 0, 1) := by decide +kernel
theorem dX12_worst_102 : decode cX12_worst 102 = .ok (.getfield 13, 3) := by decide +kernel
theorem dX12_worst_105 : decode cX12_worst 105 = .ok (.sipush 3287, 3) := by decide +kernel
theorem dX12_worst_108 : decode cX12_worst 108 = .ok (.iload 7, 2) := by decide +kernel
theorem dX12_worst_110 : decode cX12_worst 110 = .ok (.iadd, 1) := by decide +kernel
theorem dX12_worst_111 : decode cX12_worst 111 = .ok (.iaload, 1) := by decide +kernel
theorem dX12_worst_112 : decode cX12_worst 112 = .ok (.isub, 1) := by decide +kernel
theorem dX12_worst_113 : decode cX12_worst 113 = .ok (.iadd, 1) := by decide +kernel
theorem dX12_worst_114 : decode cX12_worst 114 = .ok (.istore 6, 2) := by decide +kernel
theorem dX12_worst_116 : decode cX12_worst 116 = .ok (.iinc 7 1, 3) := by decide +kernel
theorem dX12_worst_119 : decode cX12_worst 119 = .ok (.goto (-40), 3) := by decide +kernel
theorem dX12_worst_122 : decode cX12_worst 122 = .ok (.iload 5, 2) := by decide +kernel
theorem dX12_worst_124 : decode cX12_worst 124 = .ok (.ifCond .le 13, 3) := by decide +kernel
theorem dX12_worst_127 : decode cX12_worst 127 = .ok (.iload 6, 2) := by decide +kernel
theorem dX12_worst_129 : decode cX12_worst 129 = .ok (.iload 4, 2) := by decide +kernel
theorem dX12_worst_131 : decode cX12_worst 131 = .ok (.if_icmp .gt 6, 3) := by decide +kernel
theorem dX12_worst_134 : decode cX12_worst 134 = .ok (.goto 10, 3) := by decide +kernel
theorem dX12_worst_137 : decode cX12_worst 137 = .ok (.iload 5, 2) := by decide +kernel
theorem dX12_worst_139 : decode cX12_worst 139 = .ok (.istore_n 3, 1) := by decide +kernel
theorem dX12_worst_140 : decode cX12_worst 140 = .ok (.iload 6, 2) := by decide +kernel
theorem dX12_worst_142 : decode cX12_worst 142 = .ok (.istore 4, 2) := by decide +kernel
theorem dX12_worst_144 : decode cX12_worst 144 = .ok (.iinc 5 1, 3) := by decide +kernel
theorem dX12_worst_147 : decode cX12_worst 147 = .ok (.goto (-92), 3) := by decide +kernel
theorem dX12_worst_150 : decode cX12_worst 150 = .ok (.iload_n 2, 1) := by decide +kernel
theorem dX12_worst_151 : decode cX12_worst 151 = .ok (.ifCond .ne 7, 3) := by decide +kernel
theorem dX12_worst_154 : decode cX12_worst 154 = .ok (.iload_n 3, 1) := by decide +kernel
theorem dX12_worst_155 : decode cX12_worst 155 = .ok (.goto 5, 3) := by decide +kernel
theorem dX12_worst_158 : decode cX12_worst 158 = .ok (.iload 4, 2) := by decide +kernel
theorem dX12_worst_160 : decode cX12_worst 160 = .ok (.ireturn, 1) := by decide +kernel
theorem dX12_scribe_0 : decode cX12_scribe 0 = .ok (.aload_n 0, 1) := by decide +kernel
theorem dX12_scribe_1 : decode cX12_scribe 1 = .ok (.iconst 0, 1) := by decide +kernel
theorem dX12_scribe_2 : decode cX12_scribe 2 = .ok (.putfield 1, 3) := by decide +kernel
theorem dX12_scribe_5 : decode cX12_scribe 5 = .ok (.iload_n 1, 1) := by decide +kernel
theorem dX12_scribe_6 : decode cX12_scribe 6 = .ok (.i2l, 1) := by decide +kernel
theorem dX12_scribe_7 : decode cX12_scribe 7 = .ok (.lconst 0, 1) := by decide +kernel
theorem dX12_scribe_8 : decode cX12_scribe 8 = .ok (.ldc2_w 159, 3) := by decide +kernel
theorem dX12_scribe_11 : decode cX12_scribe 11 = .ok (.invokestatic 142, 3) := by decide +kernel
theorem dX12_scribe_14 : decode cX12_scribe 14 = .ok (.ifCond .ne 6, 3) := by decide +kernel
theorem dX12_scribe_17 : decode cX12_scribe 17 = .ok (.bipush (-2), 2) := by decide +kernel
theorem dX12_scribe_19 : decode cX12_scribe 19 = .ok (.ireturn, 1) := by decide +kernel
theorem dX12_scribe_20 : decode cX12_scribe 20 = .ok (.iload_n 2, 1) := by decide +kernel
theorem dX12_scribe_21 : decode cX12_scribe 21 = .ok (.iload_n 3, 1) := by decide +kernel
theorem dX12_scribe_22 : decode cX12_scribe 22 = .ok (.iload 4, 2) := by decide +kernel
theorem dX12_scribe_24 : decode cX12_scribe 24 = .ok (.iload 5, 2) := by decide +kernel
theorem dX12_scribe_26 : decode cX12_scribe 26 = .ok (.iload 6, 2) := by decide +kernel
theorem dX12_scribe_28 : decode cX12_scribe 28 = .ok (.invokestatic 328, 3) := by decide +kernel
theorem dX12_scribe_31 : decode cX12_scribe 31 = .ok (.ifCond .ne 6, 3) := by decide +kernel
theorem dX12_scribe_34 : decode cX12_scribe 34 = .ok (.bipush (-3), 2) := by decide +kernel
theorem dX12_scribe_36 : decode cX12_scribe 36 = .ok (.ireturn, 1) := by decide +kernel
theorem dX12_scribe_37 : decode cX12_scribe 37 = .ok (.sipush 3588, 3) := by decide +kernel
theorem dX12_scribe_40 : decode cX12_scribe 40 = .ok (.iconst 5, 1) := by decide +kernel
theorem dX12_scribe_41 : decode cX12_scribe 41 = .ok (.iload_n 1, 1) := by decide +kernel
theorem dX12_scribe_42 : decode cX12_scribe 42 = .ok (.imul, 1) := by decide +kernel
theorem dX12_scribe_43 : decode cX12_scribe 43 = .ok (.iadd, 1) := by decide +kernel
theorem dX12_scribe_44 : decode cX12_scribe 44 = .ok (.istore 7, 2) := by decide +kernel
theorem dX12_scribe_46 : decode cX12_scribe 46 = .ok (.aload_n 0, 1) := by decide +kernel
theorem dX12_scribe_47 : decode cX12_scribe 47 = .ok (.getfield 13, 3) := by decide +kernel
theorem dX12_scribe_50 : decode cX12_scribe 50 = .ok (.iload 7, 2) := by decide +kernel
theorem dX12_scribe_52 : decode cX12_scribe 52 = .ok (.iload_n 2, 1) := by decide +kernel
theorem dX12_scribe_53 : decode cX12_scribe 53 = .ok (.iastore, 1) := by decide +kernel
theorem dX12_scribe_54 : decode cX12_scribe 54 = .ok (.aload_n 0, 1) := by decide +kernel
theorem dX12_scribe_55 : decode cX12_scribe 55 = .ok (.getfield 13, 3) := by decide +kernel
theorem dX12_scribe_58 : decode cX12_scribe 58 = .ok (.iload 7, 2) := by decide +kernel
theorem dX12_scribe_60 : decode cX12_scribe 60 = .ok (.iconst 1, 1) := by decide +kernel
theorem dX12_scribe_61 : decode cX12_scribe 61 = .ok (.iadd, 1) := by decide +kernel
theorem dX12_scribe_62 : decode cX12_scribe 62 = .ok (.iload_n 3, 1) := by decide +kernel
theorem dX12_scribe_63 : decode cX12_scribe 63 = .ok (.iastore, 1) := by decide +kernel
theorem dX12_scribe_64 : decode cX12_scribe 64 = .ok (.aload_n 0, 1) := by decide +kernel
theorem dX12_scribe_65 : decode cX12_scribe 65 = .ok (.getfield 13, 3) := by decide +kernel
theorem dX12_scribe_68 : decode cX12_scribe 68 = .ok (.iload 7, 2) := by decide +kernel
theorem dX12_scribe_70 : decode cX12_scribe 70 = .ok (.iconst 2, 1) := by decide +kernel
theorem dX12_scribe_71 : decode cX12_scribe 71 = .ok (.iadd, 1) := by decide +kernel
theorem dX12_scribe_72 : decode cX12_scribe 72 = .ok (.iload 4, 2) := by decide +kernel
theorem dX12_scribe_74 : decode cX12_scribe 74 = .ok (.iastore, 1) := by decide +kernel
theorem dX12_scribe_75 : decode cX12_scribe 75 = .ok (.aload_n 0, 1) := by decide +kernel
theorem dX12_scribe_76 : decode cX12_scribe 76 = .ok (.getfield 13, 3) := by decide +kernel
theorem dX12_scribe_79 : decode cX12_scribe 79 = .ok (.iload 7, 2) := by decide +kernel
theorem dX12_scribe_81 : decode cX12_scribe 81 = .ok (.iconst 3, 1) := by decide +kernel
theorem dX12_scribe_82 : decode cX12_scribe 82 = .ok (.iadd, 1) := by decide +kernel
theorem dX12_scribe_83 : decode cX12_scribe 83 = .ok (.iload 5, 2) := by decide +kernel
theorem dX12_scribe_85 : decode cX12_scribe 85 = .ok (.iastore, 1) := by decide +kernel
theorem dX12_scribe_86 : decode cX12_scribe 86 = .ok (.aload_n 0, 1) := by decide +kernel
theorem dX12_scribe_87 : decode cX12_scribe 87 = .ok (.getfield 13, 3) := by decide +kernel
theorem dX12_scribe_90 : decode cX12_scribe 90 = .ok (.iload 7, 2) := by decide +kernel
theorem dX12_scribe_92 : decode cX12_scribe 92 = .ok (.iconst 4, 1) := by decide +kernel
theorem dX12_scribe_93 : decode cX12_scribe 93 = .ok (.iadd, 1) := by decide +kernel
theorem dX12_scribe_94 : decode cX12_scribe 94 = .ok (.iload 6, 2) := by decide +kernel
theorem dX12_scribe_96 : decode cX12_scribe 96 = .ok (.iastore, 1) := by decide +kernel
theorem dX12_scribe_97 : decode cX12_scribe 97 = .ok (.iconst 0, 1) := by decide +kernel
theorem dX12_scribe_98 : decode cX12_scribe 98 = .ok (.ireturn, 1) := by decide +kernel
theorem dX12_isHand_0 : decode cX12_isHand 0 = .ok (.iload_n 0, 1) := by decide +kernel
theorem dX12_isHand_1 : decode cX12_isHand 1 = .ok (.i2l, 1) := by decide +kernel
theorem dX12_isHand_2 : decode cX12_isHand 2 = .ok (.lconst 0, 1) := by decide +kernel
theorem dX12_isHand_3 : decode cX12_isHand 3 = .ok (.ldc2_w 209, 3) := by decide +kernel
theorem dX12_isHand_6 : decode cX12_isHand 6 = .ok (.invokestatic 142, 3) := by decide +kernel
theorem dX12_isHand_9 : decode cX12_isHand 9 = .ok (.ifCond .eq 56, 3) := by decide +kernel
theorem dX12_isHand_12 : decode cX12_isHand 12 = .ok (.iload_n 1, 1) := by decide +kernel
theorem dX12_isHand_13 : decode cX12_isHand 13 = .ok (.i2l, 1) := by decide +kernel
theorem dX12_isHand_14 : decode cX12_isHand 14 = .ok (.lconst 0, 1) := by decide +kernel
theorem dX12_isHand_15 : decode cX12_isHand 15 = .ok (.ldc2_w 209, 3) := by decide +kernel
theorem dX12_isHand_18 : decode cX12_isHand 18 = .ok (.invokestatic 142, 3) := by decide +kernel
theorem dX12_isHand_21 : decode cX12_isHand 21 = .ok (.ifCond .eq 44, 3) := by decide +kernel
theorem dX12_isHand_24 : decode cX12_isHand 24 = .ok (.iload_n 2, 1) := by decide +kernel
theorem dX12_isHand_25 : decode cX12_isHand 25 = .ok (.i2l, 1) := by decide +kernel
theorem dX12_isHand_26 : decode cX12_isHand 26 = .ok (.lconst 0, 1) := by decide +kernel
theorem dX12_isHand_27 : decode cX12_isHand 27 = .ok (.ldc2_w 209, 3) := by decide +kernel
theorem dX12_isHand_30 : decode cX12_isHand 30 = .ok (.invokestatic 142, 3) := by decide +kernel
theorem dX12_isHand_33 : decode cX12_isHand 33 = .ok (.ifCond .eq 32, 3) := by decide +kernel
theorem dX12_isHand_36 : decode cX12_isHand 36 = .ok (.iload_n 3, 1) := by decide +kernel
theorem dX12_isHand_37 : decode cX12_isHand 37 = .ok (.i2l, 1) := by decide +kernel
theorem dX12_isHand_38 : decode cX12_isHand 38 = .ok (.lconst 0, 1) := by decide +kernel
theorem dX12_isHand_39 : decode cX12_isHand 39 = .ok (.ldc2_w 209, 3) := by decide +kernel
theorem dX12_isHand_42 : decode cX12_isHand 42 = .ok (.invokestatic 142, 3) := by decide +kernel
theorem dX12_isHand_45 : decode cX12_isHand 45 = .ok (.ifCond .eq 20, 3) := by decide +kernel
theorem dX12_isHand_48 : decode cX12_isHand 48 = .ok (.iload 4, 2) := by decide +kernel
theorem dX12_isHand_50 : decode cX12_isHand 50 = .ok (.i2l, 1) := by decide +kernel
theorem dX12_isHand_51 : decode cX12_isHand 51 = .ok (.lconst 0, 1) := by decide +kernel
theorem dX12_isHand_52 : decode cX12_isHand 52 = .ok (.ldc2_w 209, 3) := by decide +kernel
theorem dX12_isHand_55 : decode cX12_isHand 55 = .ok (.invokestatic 142, 3) := by decide +kernel
theorem dX12_isHand_58 : decode cX12_isHand 58 = .ok (.ifCond .eq 7, 3) := by decide +kernel
theorem dX12_isHand_61 : decode cX12_isHand 61 = .ok (.iconst 1, 1) := by decide +kernel
theorem dX12_isHand_62 : decode cX12_isHand 62 = .ok (.goto 4, 3) := by decide +kernel
theorem dX12_isHand_65 : decode cX12_isHand 65 = .ok (.iconst 0, 1) := by decide +kernel
theorem dX12_isHand_66 : decode cX12_isHand 66 = .ok (.ireturn, 1) := by decide +kernel
theorem dX12_duty_0 : decode cX12_duty 0 = .ok (.aload_n 0, 1) := by decide +kernel
theorem dX12_duty_1 : decode cX12_duty 1 = .ok (.iconst 0, 1) := by decide +kernel
theorem dX12_duty_2 : decode cX12_duty 2 = .ok (.putfield 1, 3) := by decide +kernel
theorem dX12_duty_5 : decode cX12_duty 5 = .ok (.iload_n 1, 1) := by decide +kernel
theorem dX12_duty_6 : decode cX12_duty 6 = .ok (.i2l, 1) := by decide +kernel
theorem dX12_duty_7 : decode cX12_duty 7 = .ok (.lconst 0, 1) := by decide +kernel
theorem dX12_duty_8 : decode cX12_duty 8 = .ok (.ldc2_w 159, 3) := by decide +kernel
theorem dX12_duty_11 : decode cX12_duty 11 = .ok (.invokestatic 142, 3) := by decide +kernel
theorem dX12_duty_14 : decode cX12_duty 14 = .ok (.ifCond .ne 6, 3) := by decide +kernel
theorem dX12_duty_17 : decode cX12_duty 17 = .ok (.bipush (-2), 2) := by decide +kernel
theorem dX12_duty_19 : decode cX12_duty 19 = .ok (.ireturn, 1) := by decide +kernel
theorem dX12_duty_20 : decode cX12_duty 20 = .ok (.aload_n 0, 1) := by decide +kernel
theorem dX12_duty_21 : decode cX12_duty 21 = .ok (.getfield 13, 3) := by decide +kernel
theorem dX12_duty_24 : decode cX12_duty 24 = .ok (.sipush 3608, 3) := by decide +kernel
theorem dX12_duty_27 : decode cX12_duty 27 = .ok (.iaload, 1) := by decide +kernel
theorem dX12_duty_28 : decode cX12_duty 28 = .ok (.istore_n 2, 1) := by decide +kernel
theorem dX12_duty_29 : decode cX12_duty 29 = .ok (.aload_n 0, 1) := by decide +kernel
theorem dX12_duty_30 : decode cX12_duty 30 = .ok (.getfield 13, 3) := by decide +kernel
theorem dX12_duty_33 : decode cX12_duty 33 = .ok (.sipush 3608, 3) := by decide +kernel
theorem dX12_duty_36 : decode cX12_duty 36 = .ok (.iload_n 1, 1) := by decide +kernel
theorem dX12_duty_37 : decode cX12_duty 37 = .ok (.iastore, 1) := by decide +kernel
theorem dX12_duty_38 : decode cX12_duty 38 = .ok (.iload_n 2, 1) := by decide +kernel
theorem dX12_duty_39 : decode cX12_duty 39 = .ok (.ireturn, 1) := by decide +kernel
theorem dX12_apart_0 : decode cX12_apart 0 = .ok (.iload_n 0, 1) := by decide +kernel
theorem dX12_apart_1 : decode cX12_apart 1 = .ok (.iload_n 1, 1) := by decide +kernel
theorem dX12_apart_2 : decode cX12_apart 2 = .ok (.if_icmp .ge 9, 3) := by decide +kernel
theorem dX12_apart_5 : decode cX12_apart 5 = .ok (.iload_n 1, 1) := by decide +kernel
theorem dX12_apart_6 : decode cX12_apart 6 = .ok (.iload_n 0, 1) := by decide +kernel
theorem dX12_apart_7 : decode cX12_apart 7 = .ok (.isub, 1) := by decide +kernel
theorem dX12_apart_8 : decode cX12_apart 8 = .ok (.goto 6, 3) := by decide +kernel
theorem dX12_apart_11 : decode cX12_apart 11 = .ok (.iload_n 0, 1) := by decide +kernel
theorem dX12_apart_12 : decode cX12_apart 12 = .ok (.iload_n 1, 1) := by decide +kernel
theorem dX12_apart_13 : decode cX12_apart 13 = .ok (.isub, 1) := by decide +kernel
theorem dX12_apart_14 : decode cX12_apart 14 = .ok (.ireturn, 1) := by decide +kernel
theorem dX12_hand_0 : decode cX12_hand 0 = .ok (.aload_n 0, 1) := by decide +kernel
theorem dX12_hand_1 : decode cX12_hand 1 = .ok (.iconst 0, 1) := by decide +kernel
theorem dX12_hand_2 : decode cX12_hand 2 = .ok (.putfield 1, 3) := by decide +kernel
theorem dX12_hand_5 : decode cX12_hand 5 = .ok (.aload_n 0, 1) := by decide +kernel
theorem dX12_hand_6 : decode cX12_hand 6 = .ok (.iload_n 1, 1) := by decide +kernel
theorem dX12_hand_7 : decode cX12_hand 7 = .ok (.invokevirtual 237, 3) := by decide +kernel
theorem dX12_hand_10 : decode cX12_hand 10 = .ok (.iconst 1, 1) := by decide +kernel
theorem dX12_hand_11 : decode cX12_hand 11 = .ok (.if_icmp .le 6, 3) := by decide +kernel
theorem dX12_hand_14 : decode cX12_hand 14 = .ok (.bipush (-2), 2) := by decide +kernel
theorem dX12_hand_16 : decode cX12_hand 16 = .ok (.ireturn, 1) := by decide +kernel
theorem dX12_hand_17 : decode cX12_hand 17 = .ok (.iload_n 2, 1) := by decide +kernel
theorem dX12_hand_18 : decode cX12_hand 18 = .ok (.iload_n 3, 1) := by decide +kernel
theorem dX12_hand_19 : decode cX12_hand 19 = .ok (.iload 4, 2) := by decide +kernel
theorem dX12_hand_21 : decode cX12_hand 21 = .ok (.iload 5, 2) := by decide +kernel
theorem dX12_hand_23 : decode cX12_hand 23 = .ok (.iload 6, 2) := by decide +kernel
theorem dX12_hand_25 : decode cX12_hand 25 = .ok (.invokestatic 328, 3) := by decide +kernel
theorem dX12_hand_28 : decode cX12_hand 28 = .ok (.ifCond .ne 6, 3) := by decide +kernel
theorem dX12_hand_31 : decode cX12_hand 31 = .ok (.bipush (-3), 2) := by decide +kernel
theorem dX12_hand_33 : decode cX12_hand 33 = .ok (.ireturn, 1) := by decide +kernel
theorem dX12_hand_34 : decode cX12_hand 34 = .ok (.aload_n 0, 1) := by decide +kernel
theorem dX12_hand_35 : decode cX12_hand 35 = .ok (.getfield 13, 3) := by decide +kernel
theorem dX12_hand_38 : decode cX12_hand 38 = .ok (.sipush 3609, 3) := by decide +kernel
theorem dX12_hand_41 : decode cX12_hand 41 = .ok (.iload_n 1, 1) := by decide +kernel
theorem dX12_hand_42 : decode cX12_hand 42 = .ok (.bipush 100, 2) := by decide +kernel
theorem dX12_hand_44 : decode cX12_hand 44 = .ok (.idiv, 1) := by decide +kernel
theorem dX12_hand_45 : decode cX12_hand 45 = .ok (.iadd, 1) := by decide +kernel
theorem dX12_hand_46 : decode cX12_hand 46 = .ok (.iconst 1, 1) := by decide +kernel
theorem dX12_hand_47 : decode cX12_hand 47 = .ok (.isub, 1) := by decide +kernel
theorem dX12_hand_48 : decode cX12_hand 48 = .ok (.iaload, 1) := by decide +kernel
theorem dX12_hand_49 : decode cX12_hand 49 = .ok (.istore 7, 2) := by decide +kernel
theorem dX12_hand_51 : decode cX12_hand 51 = .ok (.iconst 0, 1) := by decide +kernel
theorem dX12_hand_52 : decode cX12_hand 52 = .ok (.istore 8, 2) := by decide +kernel
theorem dX12_hand_54 : decode cX12_hand 54 = .ok (.sipush 1000, 3) := by decide +kernel
theorem dX12_hand_57 : decode cX12_hand 57 = .ok (.istore 9, 2) := by decide +kernel
theorem dX12_hand_59 : decode cX12_hand 59 = .ok (.iconst 0, 1) := by decide +kernel
theorem dX12_hand_60 : decode cX12_hand 60 = .ok (.istore 10, 2) := by decide +kernel
theorem dX12_hand_62 : decode cX12_hand 62 = .ok (.iload 10, 2) := by decide +kernel
theorem dX12_hand_64 : decode cX12_hand 64 = .ok (.iconst 4, 1) := by decide +kernel
theorem dX12_hand_65 : decode cX12_hand 65 = .ok (.if_icmp .ge 123, 3) := by decide +kernel
theorem dX12_hand_68 : decode cX12_hand 68 = .ok (.sipush 3588, 3) := by decide +kernel
theorem dX12_hand_71 : decode cX12_hand 71 = .ok (.iconst 5, 1) := by decide +kernel
theorem dX12_hand_72 : decode cX12_hand 72 = .ok (.iload 10, 2) := by decide +kernel
theorem dX12_hand_74 : decode cX12_hand 74 = .ok (.imul, 1) := by decide +kernel
theorem dX12_hand_75 : decode cX12_hand 75 = .ok (.iadd, 1) := by decide +kernel
theorem dX12_hand_76 : decode cX12_hand 76 = .ok (.istore 11, 2) := by decide +kernel
theorem dX12_hand_78 : decode cX12_hand 78 = .ok (.iload_n 2, 1) := by decide +kernel
theorem dX12_hand_79 : decode cX12_hand 79 = .ok (.aload_n 0, 1) := by decide +kernel
theorem dX12_hand_80 : decode cX12_hand 80 = .ok (.getfield 13, 3) := by decide +kernel
theorem dX12_hand_83 : decode cX12_hand 83 = .ok (.iload 11, 2) := by decide +kernel
theorem dX12_hand_85 : decode cX12_hand 85 = .ok (.iaload, 1) := by decide +kernel
theorem dX12_hand_86 : decode cX12_hand 86 = .ok (.invokestatic 332, 3) := by decide +kernel
theorem dX12_hand_89 : decode cX12_hand 89 = .ok (.iload_n 3, 1) := by decide +kernel
theorem dX12_hand_90 : decode cX12_hand 90 = .ok (.aload_n 0, 1) := by decide +kernel
theorem dX12_hand_91 : decode cX12_hand 91 = .ok (.getfield 13, 3) := by decide +kernel
theorem dX12_hand_94 : decode cX12_hand 94 = .ok (.iload 11, 2) := by decide +kernel
theorem dX12_hand_96 : decode cX12_hand 96 = .ok (.iconst 1, 1) := by decide +kernel
theorem dX12_hand_97 : decode cX12_hand 97 = .ok (.iadd, 1) := by decide +kernel
theorem dX12_hand_98 : decode cX12_hand 98 = .ok (.iaload, 1) := by decide +kernel
theorem dX12_hand_99 : decode cX12_hand 99 = .ok (.invokestatic 332, 3) := by decide +kernel
theorem dX12_hand_102 : decode cX12_hand 102 = .ok (.iadd, 1) := by decide +kernel
theorem dX12_hand_103 : decode cX12_hand 103 = .ok (.iload 4, 2) := by decide +kernel
theorem dX12_hand_105 : decode cX12_hand 105 = .ok (.aload_n 0, 1) := by decide +kernel
theorem dX12_hand_106 : decode cX12_hand 106 = .ok (.getfield 13, 3) := by decide +kernel
theorem dX12_hand_109 : decode cX12_hand 109 = .ok (.iload 11, 2) := by decide +kernel
theorem dX12_hand_111 : decode cX12_hand 111 = .ok (.iconst 2, 1) := by decide +kernel
theorem dX12_hand_112 : decode cX12_hand 112 = .ok (.iadd, 1) := by decide +kernel
theorem dX12_hand_113 : decode cX12_hand 113 = .ok (.iaload, 1) := by decide +kernel
theorem dX12_hand_114 : decode cX12_hand 114 = .ok (.invokestatic 332, 3) := by decide +kernel
theorem dX12_hand_117 : decode cX12_hand 117 = .ok (.iadd, 1) := by decide +kernel
theorem dX12_hand_118 : decode cX12_hand 118 = .ok (.iload 5, 2) := by decide +kernel
theorem dX12_hand_120 : decode cX12_hand 120 = .ok (.aload_n 0, 1) := by decide +kernel
theorem dX12_hand_121 : decode cX12_hand 121 = .ok (.getfield 13, 3) := by decide +kernel
theorem dX12_hand_124 : decode cX12_hand 124 = .ok (.iload 11, 2) := by decide +kernel
theorem dX12_hand_126 : decode cX12_hand 126 = .ok (.iconst 3, 1) := by decide +kernel
theorem dX12_hand_127 : decode cX12_hand 127 = .ok (.iadd, 1) := by decide +kernel
theorem dX12_hand_128 : decode cX12_hand 128 = .ok (.iaload, 1) := by decide +kernel
theorem dX12_hand_129 : decode cX12_hand 129 = .ok (.invokestatic 332, 3) := by decide +kernel
theorem dX12_hand_132 : decode cX12_hand 132 = .ok (.iadd, 1) := by decide +kernel
theorem dX12_hand_133 : decode cX12_hand 133 = .ok (.iload 6, 2) := by decide +kernel
theorem dX12_hand_135 : decode cX12_hand 135 = .ok (.aload_n 0, 1) := by decide +kernel
theorem dX12_hand_136 : decode cX12_hand 136 = .ok (.getfield 13, 3) := by decide +kernel
theorem dX12_hand_139 : decode cX12_hand 139 = .ok (.iload 11, 2) := by decide +kernel
theorem dX12_hand_141 : decode cX12_hand 141 = .ok (.iconst 4, 1) := by decide +kernel
theorem dX12_hand_142 : decode cX12_hand 142 = .ok (.iadd, 1) := by decide +kernel
theorem dX12_hand_143 : decode cX12_hand 143 = .ok (.iaload, 1) := by decide +kernel
theorem dX12_hand_144 : decode cX12_hand 144 = .ok (.invokestatic 332, 3) := by decide +kernel
theorem dX12_hand_147 : decode cX12_hand 147 = .ok (.iadd, 1) := by decide +kernel
theorem dX12_hand_148 : decode cX12_hand 148 = .ok (.istore 12, 2) := by decide +kernel
theorem dX12_hand_150 : decode cX12_hand 150 = .ok (.iload 10, 2) := by decide +kernel
theorem dX12_hand_152 : decode cX12_hand 152 = .ok (.iload 7, 2) := by decide +kernel
theorem dX12_hand_154 : decode cX12_hand 154 = .ok (.if_icmp .ne 8, 3) := by decide +kernel
theorem dX12_hand_157 : decode cX12_hand 157 = .ok (.iload 12, 2) := by decide +kernel
theorem dX12_hand_159 : decode cX12_hand 159 = .ok (.goto 5, 3) := by decide +kernel
theorem dX12_hand_162 : decode cX12_hand 162 = .ok (.iload 8, 2) := by decide +kernel
theorem dX12_hand_164 : decode cX12_hand 164 = .ok (.istore 8, 2) := by decide +kernel
theorem dX12_hand_166 : decode cX12_hand 166 = .ok (.iload 12, 2) := by decide +kernel
theorem dX12_hand_168 : decode cX12_hand 168 = .ok (.iload 9, 2) := by decide +kernel
theorem dX12_hand_170 : decode cX12_hand 170 = .ok (.if_icmp .ge 8, 3) := by decide +kernel
theorem dX12_hand_173 : decode cX12_hand 173 = .ok (.iload 12, 2) := by decide +kernel
theorem dX12_hand_175 : decode cX12_hand 175 = .ok (.goto 5, 3) := by decide +kernel
theorem dX12_hand_178 : decode cX12_hand 178 = .ok (.iload 9, 2) := by decide +kernel
theorem dX12_hand_180 : decode cX12_hand 180 = .ok (.istore 9, 2) := by decide +kernel
theorem dX12_hand_182 : decode cX12_hand 182 = .ok (.iinc 10 1, 3) := by decide +kernel
theorem dX12_hand_185 : decode cX12_hand 185 = .ok (.goto (-123), 3) := by decide +kernel
theorem dX12_hand_188 : decode cX12_hand 188 = .ok (.iload 8, 2) := by decide +kernel
theorem dX12_hand_190 : decode cX12_hand 190 = .ok (.iload 9, 2) := by decide +kernel
theorem dX12_hand_192 : decode cX12_hand 192 = .ok (.if_icmp .ne 14, 3) := by decide +kernel
theorem dX12_hand_195 : decode cX12_hand 195 = .ok (.iload 8, 2) := by decide +kernel
theorem dX12_hand_197 : decode cX12_hand 197 = .ok (.bipush 6, 2) := by decide +kernel
theorem dX12_hand_199 : decode cX12_hand 199 = .ok (.if_icmp .gt 7, 3) := by decide +kernel
theorem dX12_hand_202 : decode cX12_hand 202 = .ok (.iconst 0, 1) := by decide +kernel
theorem dX12_hand_203 : decode cX12_hand 203 = .ok (.goto 15, 3) := by decide +kernel
theorem dX12_hand_206 : decode cX12_hand 206 = .ok (.iload 9, 2) := by decide +kernel
theorem dX12_hand_208 : decode cX12_hand 208 = .ok (.bipush 6, 2) := by decide +kernel
theorem dX12_hand_210 : decode cX12_hand 210 = .ok (.if_icmp .gt 7, 3) := by decide +kernel
theorem dX12_hand_213 : decode cX12_hand 213 = .ok (.iconst 1, 1) := by decide +kernel
theorem dX12_hand_214 : decode cX12_hand 214 = .ok (.goto 4, 3) := by decide +kernel
theorem dX12_hand_217 : decode cX12_hand 217 = .ok (.iconst 2, 1) := by decide +kernel
theorem dX12_hand_218 : decode cX12_hand 218 = .ok (.ireturn, 1) := by decide +kernel
theorem dX12_suit_0 : decode cX12_suit 0 = .ok (.aload_n 0, 1) := by decide +kernel
theorem dX12_suit_1 : decode cX12_suit 1 = .ok (.iconst 0, 1) := by decide +kernel
theorem dX12_suit_2 : decode cX12_suit 2 = .ok (.putfield 1, 3) := by decide +kernel
theorem dX12_suit_5 : decode cX12_suit 5 = .ok (.aload_n 0, 1) := by decide +kernel
theorem dX12_suit_6 : decode cX12_suit 6 = .ok (.iload_n 1, 1) := by decide +kernel
theorem dX12_suit_7 : decode cX12_suit 7 = .ok (.invokevirtual 215, 3) := by decide +kernel
theorem dX12_suit_10 : decode cX12_suit 10 = .ok (.ifCond .eq 11, 3) := by decide +kernel
theorem dX12_suit_13 : decode cX12_suit 13 = .ok (.aload_n 0, 1) := by decide +kernel
theorem dX12_suit_14 : decode cX12_suit 14 = .ok (.iload_n 2, 1) := by decide +kernel
theorem dX12_suit_15 : decode cX12_suit 15 = .ok (.invokevirtual 273, 3) := by decide +kernel
theorem dX12_suit_18 : decode cX12_suit 18 = .ok (.ifCond .ne 6, 3) := by decide +kernel
theorem dX12_suit_21 : decode cX12_suit 21 = .ok (.bipush (-2), 2) := by decide +kernel
theorem dX12_suit_23 : decode cX12_suit 23 = .ok (.ireturn, 1) := by decide +kernel
theorem dX12_suit_24 : decode cX12_suit 24 = .ok (.iload_n 3, 1) := by decide +kernel
theorem dX12_suit_25 : decode cX12_suit 25 = .ok (.i2l, 1) := by decide +kernel
theorem dX12_suit_26 : decode cX12_suit 26 = .ok (.lconst 1, 1) := by decide +kernel
theorem dX12_suit_27 : decode cX12_suit 27 = .ok (.ldc2_w 198, 3) := by decide +kernel
theorem dX12_suit_30 : decode cX12_suit 30 = .ok (.invokestatic 142, 3) := by decide +kernel
theorem dX12_suit_33 : decode cX12_suit 33 = .ok (.ifCond .ne 6, 3) := by decide +kernel
theorem dX12_suit_36 : decode cX12_suit 36 = .ok (.bipush (-3), 2) := by decide +kernel
theorem dX12_suit_38 : decode cX12_suit 38 = .ok (.ireturn, 1) := by decide +kernel
theorem dX12_suit_39 : decode cX12_suit 39 = .ok (.aload_n 0, 1) := by decide +kernel
theorem dX12_suit_40 : decode cX12_suit 40 = .ok (.getfield 13, 3) := by decide +kernel
theorem dX12_suit_43 : decode cX12_suit 43 = .ok (.sipush 3759, 3) := by decide +kernel
theorem dX12_suit_46 : decode cX12_suit 46 = .ok (.iload_n 1, 1) := by decide +kernel
theorem dX12_suit_47 : decode cX12_suit 47 = .ok (.iadd, 1) := by decide +kernel
theorem dX12_suit_48 : decode cX12_suit 48 = .ok (.iload_n 3, 1) := by decide +kernel
theorem dX12_suit_49 : decode cX12_suit 49 = .ok (.iastore, 1) := by decide +kernel
theorem dX12_suit_50 : decode cX12_suit 50 = .ok (.iconst 0, 1) := by decide +kernel
theorem dX12_suit_51 : decode cX12_suit 51 = .ok (.ireturn, 1) := by decide +kernel
theorem dX12_sinks_0 : decode cX12_sinks 0 = .ok (.aload_n 0, 1) := by decide +kernel
theorem dX12_sinks_1 : decode cX12_sinks 1 = .ok (.getfield 13, 3) := by decide +kernel
theorem dX12_sinks_4 : decode cX12_sinks 4 = .ok (.sipush 3759, 3) := by decide +kernel
theorem dX12_sinks_7 : decode cX12_sinks 7 = .ok (.iload_n 1, 1) := by decide +kernel
theorem dX12_sinks_8 : decode cX12_sinks 8 = .ok (.iadd, 1) := by decide +kernel
theorem dX12_sinks_9 : decode cX12_sinks 9 = .ok (.iaload, 1) := by decide +kernel
theorem dX12_sinks_10 : decode cX12_sinks 10 = .ok (.istore 4, 2) := by decide +kernel
theorem dX12_sinks_12 : decode cX12_sinks 12 = .ok (.iload 4, 2) := by decide +kernel
theorem dX12_sinks_14 : decode cX12_sinks 14 = .ok (.ifCond .le 32, 3) := by decide +kernel
theorem dX12_sinks_17 : decode cX12_sinks 17 = .ok (.aload_n 0, 1) := by decide +kernel
theorem dX12_sinks_18 : decode cX12_sinks 18 = .ok (.iconst 0, 1) := by decide +kernel
theorem dX12_sinks_19 : decode cX12_sinks 19 = .ok (.iload 4, 2) := by decide +kernel
theorem dX12_sinks_21 : decode cX12_sinks 21 = .ok (.iconst 1, 1) := by decide +kernel
theorem dX12_sinks_22 : decode cX12_sinks 22 = .ok (.invokevirtual 205, 3) := by decide +kernel
theorem dX12_sinks_25 : decode cX12_sinks 25 = .ok (.iconst (-1), 1) := by decide +kernel
theorem dX12_sinks_26 : decode cX12_sinks 26 = .ok (.if_icmp .eq 20, 3) := by decide +kernel
theorem dX12_sinks_29 : decode cX12_sinks 29 = .ok (.aload_n 0, 1) := by decide +kernel
theorem dX12_sinks_30 : decode cX12_sinks 30 = .ok (.iload_n 1, 1) := by decide +kernel
theorem dX12_sinks_31 : decode cX12_sinks 31 = .ok (.iload 4, 2) := by decide +kernel
theorem dX12_sinks_33 : decode cX12_sinks 33 = .ok (.iload_n 2, 1) := by decide +kernel
theorem dX12_sinks_34 : decode cX12_sinks 34 = .ok (.iload_n 3, 1) := by decide +kernel
theorem dX12_sinks_35 : decode cX12_sinks 35 = .ok (.invokevirtual 310, 3) := by decide +kernel
theorem dX12_sinks_38 : decode cX12_sinks 38 = .ok (.iconst (-1), 1) := by decide +kernel
theorem dX12_sinks_39 : decode cX12_sinks 39 = .ok (.if_icmp .eq 7, 3) := by decide +kernel
theorem dX12_sinks_42 : decode cX12_sinks 42 = .ok (.iconst 1, 1) := by decide +kernel
theorem dX12_sinks_43 : decode cX12_sinks 43 = .ok (.goto 4, 3) := by decide +kernel
theorem dX12_sinks_46 : decode cX12_sinks 46 = .ok (.iconst 0, 1) := by decide +kernel
theorem dX12_sinks_47 : decode cX12_sinks 47 = .ok (.ireturn, 1) := by decide +kernel
theorem dX12_street_0 : decode cX12_street 0 = .ok (.aload_n 0, 1) := by decide +kernel
theorem dX12_street_1 : decode cX12_street 1 = .ok (.iconst 0, 1) := by decide +kernel
theorem dX12_street_2 : decode cX12_street 2 = .ok (.putfield 1, 3) := by decide +kernel
theorem dX12_street_5 : decode cX12_street 5 = .ok (.iload_n 1, 1) := by decide +kernel
theorem dX12_street_6 : decode cX12_street 6 = .ok (.i2l, 1) := by decide +kernel
theorem dX12_street_7 : decode cX12_street 7 = .ok (.lconst 1, 1) := by decide +kernel
theorem dX12_street_8 : decode cX12_street 8 = .ok (.ldc2_w 304, 3) := by decide +kernel
theorem dX12_street_11 : decode cX12_street 11 = .ok (.invokestatic 142, 3) := by decide +kernel
theorem dX12_street_14 : decode cX12_street 14 = .ok (.ifCond .eq 15, 3) := by decide +kernel
theorem dX12_street_17 : decode cX12_street 17 = .ok (.iload_n 2, 1) := by decide +kernel
theorem dX12_street_18 : decode cX12_street 18 = .ok (.i2l, 1) := by decide +kernel
theorem dX12_street_19 : decode cX12_street 19 = .ok (.lconst 0, 1) := by decide +kernel
theorem dX12_street_20 : decode cX12_street 20 = .ok (.ldc2_w 198, 3) := by decide +kernel
theorem dX12_street_23 : decode cX12_street 23 = .ok (.invokestatic 142, 3) := by decide +kernel
theorem dX12_street_26 : decode cX12_street 26 = .ok (.ifCond .ne 6, 3) := by decide +kernel
theorem dX12_street_29 : decode cX12_street 29 = .ok (.bipush (-3), 2) := by decide +kernel
theorem dX12_street_31 : decode cX12_street 31 = .ok (.ireturn, 1) := by decide +kernel
theorem dX12_street_32 : decode cX12_street 32 = .ok (.iconst 0, 1) := by decide +kernel
theorem dX12_street_33 : decode cX12_street 33 = .ok (.istore_n 3, 1) := by decide +kernel
theorem dX12_street_34 : decode cX12_street 34 = .ok (.iconst 0, 1) := by decide +kernel
theorem dX12_street_35 : decode cX12_street 35 = .ok (.istore 4, 2) := by decide +kernel
theorem dX12_street_37 : decode cX12_street 37 = .ok (.iload 4, 2) := by decide +kernel
theorem dX12_street_39 : decode cX12_street 39 = .ok (.aload_n 0, 1) := by decide +kernel
theorem dX12_street_40 : decode cX12_street 40 = .ok (.getfield 13, 3) := by decide +kernel
theorem dX12_street_43 : decode cX12_street 43 = .ok (.sipush 643, 3) := by decide +kernel
theorem dX12_street_46 : decode cX12_street 46 = .ok (.iaload, 1) := by decide +kernel
theorem dX12_street_47 : decode cX12_street 47 = .ok (.if_icmp .ge 31, 3) := by decide +kernel
theorem dX12_street_50 : decode cX12_street 50 = .ok (.iload_n 3, 1) := by decide +kernel
theorem dX12_street_51 : decode cX12_street 51 = .ok (.aload_n 0, 1) := by decide +kernel
theorem dX12_street_52 : decode cX12_street 52 = .ok (.iload 4, 2) := by decide +kernel
theorem dX12_street_54 : decode cX12_street 54 = .ok (.iload_n 1, 1) := by decide +kernel
theorem dX12_street_55 : decode cX12_street 55 = .ok (.iload_n 2, 1) := by decide +kernel
theorem dX12_street_56 : decode cX12_street 56 = .ok (.invokevirtual 335, 3) := by decide +kernel
theorem dX12_street_59 : decode cX12_street 59 = .ok (.ifCond .eq 10, 3) := by decide +kernel
theorem dX12_street_62 : decode cX12_street 62 = .ok (.iconst 1, 1) := by decide +kernel
theorem dX12_street_63 : decode cX12_street 63 = .ok (.iload 4, 2) := by decide +kernel
theorem dX12_street_65 : decode cX12_street 65 = .ok (.ishl, 1) := by decide +kernel
theorem dX12_street_66 : decode cX12_street 66 = .ok (.goto 4, 3) := by decide +kernel
theorem dX12_street_69 : decode cX12_street 69 = .ok (.iconst 0, 1) := by decide +kernel
theorem dX12_street_70 : decode cX12_street 70 = .ok (.ior, 1) := by decide +kernel
theorem dX12_street_71 : decode cX12_street 71 = .ok (.istore_n 3, 1) := by decide +kernel
theorem dX12_street_72 : decode cX12_street 72 = .ok (.iinc 4 1, 3) := by decide +kernel
theorem dX12_street_75 : decode cX12_street 75 = .ok (.goto (-38), 3) := by decide +kernel
theorem dX12_street_78 : decode cX12_street 78 = .ok (.iload_n 3, 1) := by decide +kernel
theorem dX12_street_79 : decode cX12_street 79 = .ok (.ireturn, 1) := by decide +kernel
theorem dX12_shilling_0 : decode cX12_shilling 0 = .ok (.aload_n 0, 1) := by decide +kernel
theorem dX12_shilling_1 : decode cX12_shilling 1 = .ok (.iconst 0, 1) := by decide +kernel
theorem dX12_shilling_2 : decode cX12_shilling 2 = .ok (.putfield 1, 3) := by decide +kernel
theorem dX12_shilling_5 : decode cX12_shilling 5 = .ok (.iload_n 1, 1) := by decide +kernel
theorem dX12_shilling_6 : decode cX12_shilling 6 = .ok (.i2l, 1) := by decide +kernel
theorem dX12_shilling_7 : decode cX12_shilling 7 = .ok (.lconst 1, 1) := by decide +kernel
theorem dX12_shilling_8 : decode cX12_shilling 8 = .ok (.ldc2_w 304, 3) := by decide +kernel
theorem dX12_shilling_11 : decode cX12_shilling 11 = .ok (.invokestatic 142, 3) := by decide +kernel
theorem dX12_shilling_14 : decode cX12_shilling 14 = .ok (.ifCond .ne 6, 3) := by decide +kernel
theorem dX12_shilling_17 : decode cX12_shilling 17 = .ok (.bipush (-3), 2) := by decide +kernel
theorem dX12_shilling_19 : decode cX12_shilling 19 = .ok (.ireturn, 1) := by decide +kernel
theorem dX12_shilling_20 : decode cX12_shilling 20 = .ok (.iconst 0, 1) := by decide +kernel
theorem dX12_shilling_21 : decode cX12_shilling 21 = .ok (.istore_n 2, 1) := by decide +kernel
theorem dX12_shilling_22 : decode cX12_shilling 22 = .ok (.iconst 0, 1) := by decide +kernel
theorem dX12_shilling_23 : decode cX12_shilling 23 = .ok (.istore_n 3, 1) := by decide +kernel
theorem dX12_shilling_24 : decode cX12_shilling 24 = .ok (.iload_n 3, 1) := by decide +kernel
theorem dX12_shilling_25 : decode cX12_shilling 25 = .ok (.aload_n 0, 1) := by decide +kernel
theorem dX12_shilling_26 : decode cX12_shilling 26 = .ok (.getfield 13, 3) := by decide +kernel
theorem dX12_shilling_29 : decode cX12_shilling 29 = .ok (.sipush 643, 3) := by decide +kernel
theorem dX12_shilling_32 : decode cX12_shilling 32 = .ok (.iaload, 1) := by decide +kernel
theorem dX12_shilling_33 : decode cX12_shilling 33 = .ok (.if_icmp .ge 40, 3) := by decide +kernel
theorem dX12_shilling_36 : decode cX12_shilling 36 = .ok (.iload_n 2, 1) := by decide +kernel
theorem dX12_shilling_37 : decode cX12_shilling 37 = .ok (.aload_n 0, 1) := by decide +kernel
theorem dX12_shilling_38 : decode cX12_shilling 38 = .ok (.iload_n 3, 1) := by decide +kernel
theorem dX12_shilling_39 : decode cX12_shilling 39 = .ok (.iload_n 1, 1) := by decide +kernel
theorem dX12_shilling_40 : decode cX12_shilling 40 = .ok (.iconst 0, 1) := by decide +kernel
theorem dX12_shilling_41 : decode cX12_shilling 41 = .ok (.invokevirtual 335, 3) := by decide +kernel
theorem dX12_shilling_44 : decode cX12_shilling 44 = .ok (.ifCond .eq 20, 3) := by decide +kernel
theorem dX12_shilling_47 : decode cX12_shilling 47 = .ok (.aload_n 0, 1) := by decide +kernel
theorem dX12_shilling_48 : decode cX12_shilling 48 = .ok (.iload_n 3, 1) := by decide +kernel
theorem dX12_shilling_49 : decode cX12_shilling 49 = .ok (.iload_n 1, 1) := by decide +kernel
theorem dX12_shilling_50 : decode cX12_shilling 50 = .ok (.bipush 12, 2) := by decide +kernel
theorem dX12_shilling_52 : decode cX12_shilling 52 = .ok (.invokevirtual 335, 3) := by decide +kernel
theorem dX12_shilling_55 : decode cX12_shilling 55 = .ok (.ifCond .ne 9, 3) := by decide +kernel
theorem dX12_shilling_58 : decode cX12_shilling 58 = .ok (.iconst 1, 1) := by decide +kernel
theorem dX12_shilling_59 : decode cX12_shilling 59 = .ok (.iload_n 3, 1) := by decide +kernel
theorem dX12_shilling_60 : decode cX12_shilling 60 = .ok (.ishl, 1) := by decide +kernel
theorem dX12_shilling_61 : decode cX12_shilling 61 = .ok (.goto 4, 3) := by decide +kernel
theorem dX12_shilling_64 : decode cX12_shilling 64 = .ok (.iconst 0, 1) := by decide +kernel
theorem dX12_shilling_65 : decode cX12_shilling 65 = .ok (.ior, 1) := by decide +kernel
theorem dX12_shilling_66 : decode cX12_shilling 66 = .ok (.istore_n 2, 1) := by decide +kernel
theorem dX12_shilling_67 : decode cX12_shilling 67 = .ok (.iinc 3 1, 3) := by decide +kernel
theorem dX12_shilling_70 : decode cX12_shilling 70 = .ok (.goto (-46), 3) := by decide +kernel
theorem dX12_shilling_73 : decode cX12_shilling 73 = .ok (.iload_n 2, 1) := by decide +kernel
theorem dX12_shilling_74 : decode cX12_shilling 74 = .ok (.ireturn, 1) := by decide +kernel
theorem dX12_tripOf_0 : decode cX12_tripOf 0 = .ok (.iconst 0, 1) := by decide +kernel
theorem dX12_tripOf_1 : decode cX12_tripOf 1 = .ok (.istore 4, 2) := by decide +kernel
theorem dX12_tripOf_3 : decode cX12_tripOf 3 = .ok (.iconst 0, 1) := by decide +kernel
theorem dX12_tripOf_4 : decode cX12_tripOf 4 = .ok (.istore 5, 2) := by decide +kernel
theorem dX12_tripOf_6 : decode cX12_tripOf 6 = .ok (.iconst 0, 1) := by decide +kernel
theorem dX12_tripOf_7 : decode cX12_tripOf 7 = .ok (.istore 6, 2) := by decide +kernel
theorem dX12_tripOf_9 : decode cX12_tripOf 9 = .ok (.iload 6, 2) := by decide +kernel
theorem dX12_tripOf_11 : decode cX12_tripOf 11 = .ok (.bipush 8, 2) := by decide +kernel
theorem dX12_tripOf_13 : decode cX12_tripOf 13 = .ok (.if_icmp .ge 74, 3) := by decide +kernel
theorem dX12_tripOf_16 : decode cX12_tripOf 16 = .ok (.iload_n 2, 1) := by decide +kernel
theorem dX12_tripOf_17 : decode cX12_tripOf 17 = .ok (.iload 6, 2) := by decide +kernel
theorem dX12_tripOf_19 : decode cX12_tripOf 19 = .ok (.ishr, 1) := by decide +kernel
theorem dX12_tripOf_20 : decode cX12_tripOf 20 = .ok (.iconst 1, 1) := by decide +kernel
theorem dX12_tripOf_21 : decode cX12_tripOf 21 = .ok (.iand, 1) := by decide +kernel
theorem dX12_tripOf_22 : decode cX12_tripOf 22 = .ok (.ifCond .ne 6, 3) := by decide +kernel
theorem dX12_tripOf_25 : decode cX12_tripOf 25 = .ok (.goto 56, 3) := by decide +kernel
theorem dX12_tripOf_28 : decode cX12_tripOf 28 = .ok (.iload 4, 2) := by decide +kernel
theorem dX12_tripOf_30 : decode cX12_tripOf 30 = .ok (.aload_n 0, 1) := by decide +kernel
theorem dX12_tripOf_31 : decode cX12_tripOf 31 = .ok (.iload_n 1, 1) := by decide +kernel
theorem dX12_tripOf_32 : decode cX12_tripOf 32 = .ok (.iload 6, 2) := by decide +kernel
theorem dX12_tripOf_34 : decode cX12_tripOf 34 = .ok (.iadd, 1) := by decide +kernel
theorem dX12_tripOf_35 : decode cX12_tripOf 35 = .ok (.invokevirtual 288, 3) := by decide +kernel
theorem dX12_tripOf_38 : decode cX12_tripOf 38 = .ok (.iadd, 1) := by decide +kernel
theorem dX12_tripOf_39 : decode cX12_tripOf 39 = .ok (.istore 4, 2) := by decide +kernel
theorem dX12_tripOf_41 : decode cX12_tripOf 41 = .ok (.aload_n 0, 1) := by decide +kernel
theorem dX12_tripOf_42 : decode cX12_tripOf 42 = .ok (.getfield 13, 3) := by decide +kernel
theorem dX12_tripOf_45 : decode cX12_tripOf 45 = .ok (.sipush 1772, 3) := by decide +kernel
theorem dX12_tripOf_48 : decode cX12_tripOf 48 = .ok (.aload_n 0, 1) := by decide +kernel
theorem dX12_tripOf_49 : decode cX12_tripOf 49 = .ok (.getfield 13, 3) := by decide +kernel
theorem dX12_tripOf_52 : decode cX12_tripOf 52 = .ok (.sipush 950, 3) := by decide +kernel
theorem dX12_tripOf_55 : decode cX12_tripOf 55 = .ok (.iload_n 1, 1) := by decide +kernel
theorem dX12_tripOf_56 : decode cX12_tripOf 56 = .ok (.iadd, 1) := by decide +kernel
theorem dX12_tripOf_57 : decode cX12_tripOf 57 = .ok (.iload 6, 2) := by decide +kernel
theorem dX12_tripOf_59 : decode cX12_tripOf 59 = .ok (.iadd, 1) := by decide +kernel
theorem dX12_tripOf_60 : decode cX12_tripOf 60 = .ok (.iaload, 1) := by decide +kernel
theorem dX12_tripOf_61 : decode cX12_tripOf 61 = .ok (.iadd, 1) := by decide +kernel
theorem dX12_tripOf_62 : decode cX12_tripOf 62 = .ok (.iaload, 1) := by decide +kernel
theorem dX12_tripOf_63 : decode cX12_tripOf 63 = .ok (.istore 7, 2) := by decide +kernel
theorem dX12_tripOf_65 : decode cX12_tripOf 65 = .ok (.iload 7, 2) := by decide +kernel
theorem dX12_tripOf_67 : decode cX12_tripOf 67 = .ok (.iload 5, 2) := by decide +kernel
theorem dX12_tripOf_69 : decode cX12_tripOf 69 = .ok (.if_icmp .le 8, 3) := by decide +kernel
theorem dX12_tripOf_72 : decode cX12_tripOf 72 = .ok (.iload 7, 2) := by decide +kernel
theorem dX12_tripOf_74 : decode cX12_tripOf 74 = .ok (.goto 5, 3) := by decide +kernel
theorem dX12_tripOf_77 : decode cX12_tripOf 77 = .ok (.iload 5, 2) := by decide +kernel
theorem dX12_tripOf_79 : decode cX12_tripOf 79 = .ok (.istore 5, 2) := by decide +kernel
theorem dX12_tripOf_81 : decode cX12_tripOf 81 = .ok (.iinc 6 1, 3) := by decide +kernel
theorem dX12_tripOf_84 : decode cX12_tripOf 84 = .ok (.goto (-75), 3) := by decide +kernel
theorem dX12_tripOf_87 : decode cX12_tripOf 87 = .ok (.iload 4, 2) := by decide +kernel
theorem dX12_tripOf_89 : decode cX12_tripOf 89 = .ok (.iload_n 3, 1) := by decide +kernel
theorem dX12_tripOf_90 : decode cX12_tripOf 90 = .ok (.if_icmp .le 7, 3) := by decide +kernel
theorem dX12_tripOf_93 : decode cX12_tripOf 93 = .ok (.iconst (-1), 1) := by decide +kernel
theorem dX12_tripOf_94 : decode cX12_tripOf 94 = .ok (.goto 7, 3) := by decide +kernel
theorem dX12_tripOf_97 : decode cX12_tripOf 97 = .ok (.iconst 2, 1) := by decide +kernel
theorem dX12_tripOf_98 : decode cX12_tripOf 98 = .ok (.iload 5, 2) := by decide +kernel
theorem dX12_tripOf_100 : decode cX12_tripOf 100 = .ok (.imul, 1) := by decide +kernel
theorem dX12_tripOf_101 : decode cX12_tripOf 101 = .ok (.ireturn, 1) := by decide +kernel
theorem dX12_trips_0 : decode cX12_trips 0 = .ok (.aload_n 0, 1) := by decide +kernel
theorem dX12_trips_1 : decode cX12_trips 1 = .ok (.iconst 0, 1) := by decide +kernel
theorem dX12_trips_2 : decode cX12_trips 2 = .ok (.putfield 1, 3) := by decide +kernel
theorem dX12_trips_5 : decode cX12_trips 5 = .ok (.iload_n 2, 1) := by decide +kernel
theorem dX12_trips_6 : decode cX12_trips 6 = .ok (.i2l, 1) := by decide +kernel
theorem dX12_trips_7 : decode cX12_trips 7 = .ok (.lconst 0, 1) := by decide +kernel
theorem dX12_trips_8 : decode cX12_trips 8 = .ok (.ldc2_w 294, 3) := by decide +kernel
theorem dX12_trips_11 : decode cX12_trips 11 = .ok (.invokestatic 142, 3) := by decide +kernel
theorem dX12_trips_14 : decode cX12_trips 14 = .ok (.ifCond .eq 15, 3) := by decide +kernel
theorem dX12_trips_17 : decode cX12_trips 17 = .ok (.iload_n 3, 1) := by decide +kernel
theorem dX12_trips_18 : decode cX12_trips 18 = .ok (.i2l, 1) := by decide +kernel
theorem dX12_trips_19 : decode cX12_trips 19 = .ok (.lconst 1, 1) := by decide +kernel
theorem dX12_trips_20 : decode cX12_trips 20 = .ok (.ldc2_w 211, 3) := by decide +kernel
theorem dX12_trips_23 : decode cX12_trips 23 = .ok (.invokestatic 142, 3) := by decide +kernel
theorem dX12_trips_26 : decode cX12_trips 26 = .ok (.ifCond .ne 6, 3) := by decide +kernel
theorem dX12_trips_29 : decode cX12_trips 29 = .ok (.bipush (-3), 2) := by decide +kernel
theorem dX12_trips_31 : decode cX12_trips 31 = .ok (.ireturn, 1) := by decide +kernel
theorem dX12_trips_32 : decode cX12_trips 32 = .ok (.iconst 0, 1) := by decide +kernel
theorem dX12_trips_33 : decode cX12_trips 33 = .ok (.istore 4, 2) := by decide +kernel
theorem dX12_trips_35 : decode cX12_trips 35 = .ok (.iload 4, 2) := by decide +kernel
theorem dX12_trips_37 : decode cX12_trips 37 = .ok (.bipush 8, 2) := by decide +kernel
theorem dX12_trips_39 : decode cX12_trips 39 = .ok (.if_icmp .ge 66, 3) := by decide +kernel
theorem dX12_trips_42 : decode cX12_trips 42 = .ok (.iload_n 1, 1) := by decide +kernel
theorem dX12_trips_43 : decode cX12_trips 43 = .ok (.i2l, 1) := by decide +kernel
theorem dX12_trips_44 : decode cX12_trips 44 = .ok (.iload 4, 2) := by decide +kernel
theorem dX12_trips_46 : decode cX12_trips 46 = .ok (.i2l, 1) := by decide +kernel
theorem dX12_trips_47 : decode cX12_trips 47 = .ok (.ladd, 1) := by decide +kernel
theorem dX12_trips_48 : decode cX12_trips 48 = .ok (.lstore 5, 2) := by decide +kernel
theorem dX12_trips_50 : decode cX12_trips 50 = .ok (.iload_n 2, 1) := by decide +kernel
theorem dX12_trips_51 : decode cX12_trips 51 = .ok (.iload 4, 2) := by decide +kernel
theorem dX12_trips_53 : decode cX12_trips 53 = .ok (.ishr, 1) := by decide +kernel
theorem dX12_trips_54 : decode cX12_trips 54 = .ok (.iconst 1, 1) := by decide +kernel
theorem dX12_trips_55 : decode cX12_trips 55 = .ok (.iand, 1) := by decide +kernel
theorem dX12_trips_56 : decode cX12_trips 56 = .ok (.iconst 1, 1) := by decide +kernel
theorem dX12_trips_57 : decode cX12_trips 57 = .ok (.if_icmp .ne 42, 3) := by decide +kernel
theorem dX12_trips_60 : decode cX12_trips 60 = .ok (.lload 5, 2) := by decide +kernel
theorem dX12_trips_62 : decode cX12_trips 62 = .ok (.lconst 0, 1) := by decide +kernel
theorem dX12_trips_63 : decode cX12_trips 63 = .ok (.aload_n 0, 1) := by decide +kernel
theorem dX12_trips_64 : decode cX12_trips 64 = .ok (.getfield 13, 3) := by decide +kernel
theorem dX12_trips_67 : decode cX12_trips 67 = .ok (.sipush 709, 3) := by decide +kernel
theorem dX12_trips_70 : decode cX12_trips 70 = .ok (.iaload, 1) := by decide +kernel
theorem dX12_trips_71 : decode cX12_trips 71 = .ok (.iconst 1, 1) := by decide +kernel
theorem dX12_trips_72 : decode cX12_trips 72 = .ok (.isub, 1) := by decide +kernel
theorem dX12_trips_73 : decode cX12_trips 73 = .ok (.i2l, 1) := by decide +kernel
theorem dX12_trips_74 : decode cX12_trips 74 = .ok (.invokestatic 142, 3) := by decide +kernel
theorem dX12_trips_77 : decode cX12_trips 77 = .ok (.ifCond .eq 19, 3) := by decide +kernel
theorem dX12_trips_80 : decode cX12_trips 80 = .ok (.aload_n 0, 1) := by decide +kernel
theorem dX12_trips_81 : decode cX12_trips 81 = .ok (.getfield 13, 3) := by decide +kernel
theorem dX12_trips_84 : decode cX12_trips 84 = .ok (.sipush 950, 3) := by decide +kernel
theorem dX12_trips_87 : decode cX12_trips 87 = .ok (.lload 5, 2) := by decide +kernel
theorem dX12_trips_89 : decode cX12_trips 89 = .ok (.l2i, 1) := by decide +kernel
theorem dX12_trips_90 : decode cX12_trips 90 = .ok (.iadd, 1) := by decide +kernel
theorem dX12_trips_91 : decode cX12_trips 91 = .ok (.iaload, 1) := by decide +kernel
theorem dX12_trips_92 : decode cX12_trips 92 = .ok (.iconst (-1), 1) := by decide +kernel
theorem dX12_trips_93 : decode cX12_trips 93 = .ok (.if_icmp .ne 6, 3) := by decide +kernel
theorem dX12_trips_96 : decode cX12_trips 96 = .ok (.bipush (-5), 2) := by decide +kernel
theorem dX12_trips_98 : decode cX12_trips 98 = .ok (.ireturn, 1) := by decide +kernel
theorem dX12_trips_99 : decode cX12_trips 99 = .ok (.iinc 4 1, 3) := by decide +kernel
theorem dX12_trips_102 : decode cX12_trips 102 = .ok (.goto (-67), 3) := by decide +kernel
theorem dX12_trips_105 : decode cX12_trips 105 = .ok (.iconst 0, 1) := by decide +kernel
theorem dX12_trips_106 : decode cX12_trips 106 = .ok (.istore 4, 2) := by decide +kernel
theorem dX12_trips_108 : decode cX12_trips 108 = .ok (.iload 4, 2) := by decide +kernel
theorem dX12_trips_110 : decode cX12_trips 110 = .ok (.sipush 256, 3) := by decide +kernel
theorem dX12_trips_113 : decode cX12_trips 113 = .ok (.if_icmp .ge 149, 3) := by decide +kernel
theorem dX12_trips_116 : decode cX12_trips 116 = .ok (.aload_n 0, 1) := by decide +kernel
theorem dX12_trips_117 : decode cX12_trips 117 = .ok (.getfield 57, 3) := by decide +kernel
theorem dX12_trips_120 : decode cX12_trips 120 = .ok (.iload 4, 2) := by decide +kernel
theorem dX12_trips_122 : decode cX12_trips 122 = .ok (.iload 4, 2) := by decide +kernel
theorem dX12_trips_124 : decode cX12_trips 124 = .ok (.ifCond .ne 7, 3) := by decide +kernel
theorem dX12_trips_127 : decode cX12_trips 127 = .ok (.iconst 0, 1) := by decide +kernel
theorem dX12_trips_128 : decode cX12_trips 128 = .ok (.goto 4, 3) := by decide +kernel
theorem dX12_trips_131 : decode cX12_trips 131 = .ok (.iconst (-1), 1) := by decide +kernel
theorem dX12_trips_132 : decode cX12_trips 132 = .ok (.iastore, 1) := by decide +kernel
theorem dX12_trips_133 : decode cX12_trips 133 = .ok (.iload 4, 2) := by decide +kernel
theorem dX12_trips_135 : decode cX12_trips 135 = .ok (.iload_n 2, 1) := by decide +kernel
theorem dX12_trips_136 : decode cX12_trips 136 = .ok (.iconst (-1), 1) := by decide +kernel
theorem dX12_trips_137 : decode cX12_trips 137 = .ok (.ixor, 1) := by decide +kernel
theorem dX12_trips_138 : decode cX12_trips 138 = .ok (.iand, 1) := by decide +kernel
theorem dX12_trips_139 : decode cX12_trips 139 = .ok (.ifCond .eq 6, 3) := by decide +kernel
theorem dX12_trips_142 : decode cX12_trips 142 = .ok (.goto 114, 3) := by decide +kernel
theorem dX12_trips_145 : decode cX12_trips 145 = .ok (.iload 4, 2) := by decide +kernel
theorem dX12_trips_147 : decode cX12_trips 147 = .ok (.istore 5, 2) := by decide +kernel
theorem dX12_trips_149 : decode cX12_trips 149 = .ok (.iload 5, 2) := by decide +kernel
theorem dX12_trips_151 : decode cX12_trips 151 = .ok (.ifCond .le 105, 3) := by decide +kernel
theorem dX12_trips_154 : decode cX12_trips 154 = .ok (.aload_n 0, 1) := by decide +kernel
theorem dX12_trips_155 : decode cX12_trips 155 = .ok (.iload_n 1, 1) := by decide +kernel
theorem dX12_trips_156 : decode cX12_trips 156 = .ok (.iload 5, 2) := by decide +kernel
theorem dX12_trips_158 : decode cX12_trips 158 = .ok (.iload_n 3, 1) := by decide +kernel
theorem dX12_trips_159 : decode cX12_trips 159 = .ok (.invokevirtual 338, 3) := by decide +kernel
theorem dX12_trips_162 : decode cX12_trips 162 = .ok (.istore 6, 2) := by decide +kernel
theorem dX12_trips_164 : decode cX12_trips 164 = .ok (.iload 6, 2) := by decide +kernel
theorem dX12_trips_166 : decode cX12_trips 166 = .ok (.iconst (-1), 1) := by decide +kernel
theorem dX12_trips_167 : decode cX12_trips 167 = .ok (.if_icmp .eq 77, 3) := by decide +kernel
theorem dX12_trips_170 : decode cX12_trips 170 = .ok (.aload_n 0, 1) := by decide +kernel
theorem dX12_trips_171 : decode cX12_trips 171 = .ok (.getfield 57, 3) := by decide +kernel
theorem dX12_trips_174 : decode cX12_trips 174 = .ok (.iload 4, 2) := by decide +kernel
theorem dX12_trips_176 : decode cX12_trips 176 = .ok (.iload 5, 2) := by decide +kernel
theorem dX12_trips_178 : decode cX12_trips 178 = .ok (.ixor, 1) := by decide +kernel
theorem dX12_trips_179 : decode cX12_trips 179 = .ok (.iaload, 1) := by decide +kernel
theorem dX12_trips_180 : decode cX12_trips 180 = .ok (.iconst (-1), 1) := by decide +kernel
theorem dX12_trips_181 : decode cX12_trips 181 = .ok (.if_icmp .ne 6, 3) := by decide +kernel
theorem dX12_trips_184 : decode cX12_trips 184 = .ok (.goto 60, 3) := by decide +kernel
theorem dX12_trips_187 : decode cX12_trips 187 = .ok (.iload 6, 2) := by decide +kernel
theorem dX12_trips_189 : decode cX12_trips 189 = .ok (.aload_n 0, 1) := by decide +kernel
theorem dX12_trips_190 : decode cX12_trips 190 = .ok (.getfield 57, 3) := by decide +kernel
theorem dX12_trips_193 : decode cX12_trips 193 = .ok (.iload 4, 2) := by decide +kernel
theorem dX12_trips_195 : decode cX12_trips 195 = .ok (.iload 5, 2) := by decide +kernel
theorem dX12_trips_197 : decode cX12_trips 197 = .ok (.ixor, 1) := by decide +kernel
theorem dX12_trips_198 : decode cX12_trips 198 = .ok (.iaload, 1) := by decide +kernel
theorem dX12_trips_199 : decode cX12_trips 199 = .ok (.iadd, 1) := by decide +kernel
theorem dX12_trips_200 : decode cX12_trips 200 = .ok (.istore 6, 2) := by decide +kernel
theorem dX12_trips_202 : decode cX12_trips 202 = .ok (.aload_n 0, 1) := by decide +kernel
theorem dX12_trips_203 : decode cX12_trips 203 = .ok (.getfield 57, 3) := by decide +kernel
theorem dX12_trips_206 : decode cX12_trips 206 = .ok (.iload 4, 2) := by decide +kernel
theorem dX12_trips_208 : decode cX12_trips 208 = .ok (.aload_n 0, 1) := by decide +kernel
theorem dX12_trips_209 : decode cX12_trips 209 = .ok (.getfield 57, 3) := by decide +kernel
theorem dX12_trips_212 : decode cX12_trips 212 = .ok (.iload 4, 2) := by decide +kernel
theorem dX12_trips_214 : decode cX12_trips 214 = .ok (.iaload, 1) := by decide +kernel
theorem dX12_trips_215 : decode cX12_trips 215 = .ok (.iconst (-1), 1) := by decide +kernel
theorem dX12_trips_216 : decode cX12_trips 216 = .ok (.if_icmp .eq 15, 3) := by decide +kernel
theorem dX12_trips_219 : decode cX12_trips 219 = .ok (.iload 6, 2) := by decide +kernel
theorem dX12_trips_221 : decode cX12_trips 221 = .ok (.aload_n 0, 1) := by decide +kernel
theorem dX12_trips_222 : decode cX12_trips 222 = .ok (.getfield 57, 3) := by decide +kernel
theorem dX12_trips_225 : decode cX12_trips 225 = .ok (.iload 4, 2) := by decide +kernel
theorem dX12_trips_227 : decode cX12_trips 227 = .ok (.iaload, 1) := by decide +kernel
theorem dX12_trips_228 : decode cX12_trips 228 = .ok (.if_icmp .ge 8, 3) := by decide +kernel
theorem dX12_trips_231 : decode cX12_trips 231 = .ok (.iload 6, 2) := by decide +kernel
theorem dX12_trips_233 : decode cX12_trips 233 = .ok (.goto 10, 3) := by decide +kernel
theorem dX12_trips_236 : decode cX12_trips 236 = .ok (.aload_n 0, 1) := by decide +kernel
theorem dX12_trips_237 : decode cX12_trips 237 = .ok (.getfield 57, 3) := by decide +kernel
theorem dX12_trips_240 : decode cX12_trips 240 = .ok (.iload 4, 2) := by decide +kernel
theorem dX12_trips_242 : decode cX12_trips 242 = .ok (.iaload, 1) := by decide +kernel
theorem dX12_trips_243 : decode cX12_trips 243 = .ok (.iastore, 1) := by decide +kernel
theorem dX12_trips_244 : decode cX12_trips 244 = .ok (.iload 5, 2) := by decide +kernel
theorem dX12_trips_246 : decode cX12_trips 246 = .ok (.iconst 1, 1) := by decide +kernel
theorem dX12_trips_247 : decode cX12_trips 247 = .ok (.isub, 1) := by decide +kernel
theorem dX12_trips_248 : decode cX12_trips 248 = .ok (.iload 4, 2) := by decide +kernel
theorem dX12_trips_250 : decode cX12_trips 250 = .ok (.iand, 1) := by decide +kernel
theorem dX12_trips_251 : decode cX12_trips 251 = .ok (.istore 5, 2) := by decide +kernel
theorem dX12_trips_253 : decode cX12_trips 253 = .ok (.goto (-104), 3) := by decide +kernel
theorem dX12_trips_256 : decode cX12_trips 256 = .ok (.iinc 4 1, 3) := by decide +kernel
theorem dX12_trips_259 : decode cX12_trips 259 = .ok (.goto (-151), 3) := by decide +kernel
theorem dX12_trips_262 : decode cX12_trips 262 = .ok (.aload_n 0, 1) := by decide +kernel
theorem dX12_trips_263 : decode cX12_trips 263 = .ok (.getfield 57, 3) := by decide +kernel
theorem dX12_trips_266 : decode cX12_trips 266 = .ok (.iload_n 2, 1) := by decide +kernel
theorem dX12_trips_267 : decode cX12_trips 267 = .ok (.iaload, 1) := by decide +kernel
theorem dX12_trips_268 : decode cX12_trips 268 = .ok (.ireturn, 1) := by decide +kernel
theorem dX12_renewals_0 : decode cX12_renewals 0 = .ok (.aload_n 0, 1) := by decide +kernel
theorem dX12_renewals_1 : decode cX12_renewals 1 = .ok (.iconst 0, 1) := by decide +kernel
theorem dX12_renewals_2 : decode cX12_renewals 2 = .ok (.putfield 1, 3) := by decide +kernel
theorem dX12_renewals_5 : decode cX12_renewals 5 = .ok (.aload_n 0, 1) := by decide +kernel
theorem dX12_renewals_6 : decode cX12_renewals 6 = .ok (.iload_n 1, 1) := by decide +kernel
theorem dX12_renewals_7 : decode cX12_renewals 7 = .ok (.invokevirtual 257, 3) := by decide +kernel
theorem dX12_renewals_10 : decode cX12_renewals 10 = .ok (.ifCond .eq 13, 3) := by decide +kernel
theorem dX12_renewals_13 : decode cX12_renewals 13 = .ok (.iload_n 2, 1) := by decide +kernel
theorem dX12_renewals_14 : decode cX12_renewals 14 = .ok (.i2l, 1) := by decide +kernel
theorem dX12_renewals_15 : decode cX12_renewals 15 = .ok (.lconst 0, 1) := by decide +kernel
theorem dX12_renewals_16 : decode cX12_renewals 16 = .ok (.lconst 1, 1) := by decide +kernel
theorem dX12_renewals_17 : decode cX12_renewals 17 = .ok (.invokestatic 142, 3) := by decide +kernel
theorem dX12_renewals_20 : decode cX12_renewals 20 = .ok (.ifCond .ne 6, 3) := by decide +kernel
theorem dX12_renewals_23 : decode cX12_renewals 23 = .ok (.bipush (-2), 2) := by decide +kernel
theorem dX12_renewals_25 : decode cX12_renewals 25 = .ok (.ireturn, 1) := by decide +kernel
theorem dX12_renewals_26 : decode cX12_renewals 26 = .ok (.iload_n 2, 1) := by decide +kernel
theorem dX12_renewals_27 : decode cX12_renewals 27 = .ok (.ifCond .ne 16, 3) := by decide +kernel
theorem dX12_renewals_30 : decode cX12_renewals 30 = .ok (.aload_n 0, 1) := by decide +kernel
theorem dX12_renewals_31 : decode cX12_renewals 31 = .ok (.getfield 13, 3) := by decide +kernel
theorem dX12_renewals_34 : decode cX12_renewals 34 = .ok (.sipush 3775, 3) := by decide +kernel
theorem dX12_renewals_37 : decode cX12_renewals 37 = .ok (.iload_n 1, 1) := by decide +kernel
theorem dX12_renewals_38 : decode cX12_renewals 38 = .ok (.iadd, 1) := by decide +kernel
theorem dX12_renewals_39 : decode cX12_renewals 39 = .ok (.iaload, 1) := by decide +kernel
theorem dX12_renewals_40 : decode cX12_renewals 40 = .ok (.goto 13, 3) := by decide +kernel
theorem dX12_renewals_43 : decode cX12_renewals 43 = .ok (.aload_n 0, 1) := by decide +kernel
theorem dX12_renewals_44 : decode cX12_renewals 44 = .ok (.getfield 13, 3) := by decide +kernel
theorem dX12_renewals_47 : decode cX12_renewals 47 = .ok (.sipush 3835, 3) := by decide +kernel
theorem dX12_renewals_50 : decode cX12_renewals 50 = .ok (.iload_n 1, 1) := by decide +kernel
theorem dX12_renewals_51 : decode cX12_renewals 51 = .ok (.iadd, 1) := by decide +kernel
theorem dX12_renewals_52 : decode cX12_renewals 52 = .ok (.iaload, 1) := by decide +kernel
theorem dX12_renewals_53 : decode cX12_renewals 53 = .ok (.ireturn, 1) := by decide +kernel
theorem dX12_foresee_0 : decode cX12_foresee 0 = .ok (.aload_n 0, 1) := by decide +kernel
theorem dX12_foresee_1 : decode cX12_foresee 1 = .ok (.iconst 0, 1) := by decide +kernel
theorem dX12_foresee_2 : decode cX12_foresee 2 = .ok (.putfield 1, 3) := by decide +kernel
theorem dX12_foresee_5 : decode cX12_foresee 5 = .ok (.iconst 0, 1) := by decide +kernel
theorem dX12_foresee_6 : decode cX12_foresee 6 = .ok (.istore_n 2, 1) := by decide +kernel
theorem dX12_foresee_7 : decode cX12_foresee 7 = .ok (.iconst 0, 1) := by decide +kernel
theorem dX12_foresee_8 : decode cX12_foresee 8 = .ok (.istore_n 3, 1) := by decide +kernel
theorem dX12_foresee_9 : decode cX12_foresee 9 = .ok (.iload_n 3, 1) := by decide +kernel
theorem dX12_foresee_10 : decode cX12_foresee 10 = .ok (.aload_n 0, 1) := by decide +kernel
theorem dX12_foresee_11 : decode cX12_foresee 11 = .ok (.getfield 13, 3) := by decide +kernel
theorem dX12_foresee_14 : decode cX12_foresee 14 = .ok (.sipush 709, 3) := by decide +kernel
theorem dX12_foresee_17 : decode cX12_foresee 17 = .ok (.iaload, 1) := by decide +kernel
theorem dX12_foresee_18 : decode cX12_foresee 18 = .ok (.if_icmp .ge 62, 3) := by decide +kernel
theorem dX12_foresee_21 : decode cX12_foresee 21 = .ok (.aload_n 0, 1) := by decide +kernel
theorem dX12_foresee_22 : decode cX12_foresee 22 = .ok (.iload_n 3, 1) := by decide +kernel
theorem dX12_foresee_23 : decode cX12_foresee 23 = .ok (.invokevirtual 266, 3) := by decide +kernel
theorem dX12_foresee_26 : decode cX12_foresee 26 = .ok (.ifCond .eq 48, 3) := by decide +kernel
theorem dX12_foresee_29 : decode cX12_foresee 29 = .ok (.iload_n 2, 1) := by decide +kernel
theorem dX12_foresee_30 : decode cX12_foresee 30 = .ok (.iconst 2, 1) := by decide +kernel
theorem dX12_foresee_31 : decode cX12_foresee 31 = .ok (.aload_n 0, 1) := by decide +kernel
theorem dX12_foresee_32 : decode cX12_foresee 32 = .ok (.iload_n 3, 1) := by decide +kernel
theorem dX12_foresee_33 : decode cX12_foresee 33 = .ok (.aload_n 0, 1) := by decide +kernel
theorem dX12_foresee_34 : decode cX12_foresee 34 = .ok (.getfield 13, 3) := by decide +kernel
theorem dX12_foresee_37 : decode cX12_foresee 37 = .ok (.iload_n 1, 1) := by decide +kernel
theorem dX12_foresee_38 : decode cX12_foresee 38 = .ok (.ifCond .eq 9, 3) := by decide +kernel
theorem dX12_foresee_41 : decode cX12_foresee 41 = .ok (.sipush 607, 3) := by decide +kernel
theorem dX12_foresee_44 : decode cX12_foresee 44 = .ok (.goto 6, 3) := by decide +kernel
theorem dX12_foresee_47 : decode cX12_foresee 47 = .ok (.sipush 595, 3) := by decide +kernel
theorem dX12_foresee_50 : decode cX12_foresee 50 = .ok (.aload_n 0, 1) := by decide +kernel
theorem dX12_foresee_51 : decode cX12_foresee 51 = .ok (.getfield 13, 3) := by decide +kernel
theorem dX12_foresee_54 : decode cX12_foresee 54 = .ok (.sipush 710, 3) := by decide +kernel
theorem dX12_foresee_57 : decode cX12_foresee 57 = .ok (.iload_n 3, 1) := by decide +kernel
theorem dX12_foresee_58 : decode cX12_foresee 58 = .ok (.iadd, 1) := by decide +kernel
theorem dX12_foresee_59 : decode cX12_foresee 59 = .ok (.iaload, 1) := by decide +kernel
theorem dX12_foresee_60 : decode cX12_foresee 60 = .ok (.iadd, 1) := by decide +kernel
theorem dX12_foresee_61 : decode cX12_foresee 61 = .ok (.iaload, 1) := by decide +kernel
theorem dX12_foresee_62 : decode cX12_foresee 62 = .ok (.invokevirtual 260, 3) := by decide +kernel
theorem dX12_foresee_65 : decode cX12_foresee 65 = .ok (.imul, 1) := by decide +kernel
theorem dX12_foresee_66 : decode cX12_foresee 66 = .ok (.aload_n 0, 1) := by decide +kernel
theorem dX12_foresee_67 : decode cX12_foresee 67 = .ok (.iload_n 3, 1) := by decide +kernel
theorem dX12_foresee_68 : decode cX12_foresee 68 = .ok (.invokevirtual 245, 3) := by decide +kernel
theorem dX12_foresee_71 : decode cX12_foresee 71 = .ok (.isub, 1) := by decide +kernel
theorem dX12_foresee_72 : decode cX12_foresee 72 = .ok (.iadd, 1) := by decide +kernel
theorem dX12_foresee_73 : decode cX12_foresee 73 = .ok (.istore_n 2, 1) := by decide +kernel
theorem dX12_foresee_74 : decode cX12_foresee 74 = .ok (.iinc 3 1, 3) := by decide +kernel
theorem dX12_foresee_77 : decode cX12_foresee 77 = .ok (.goto (-68), 3) := by decide +kernel
theorem dX12_foresee_80 : decode cX12_foresee 80 = .ok (.iload_n 2, 1) := by decide +kernel
theorem dX12_foresee_81 : decode cX12_foresee 81 = .ok (.ireturn, 1) := by decide +kernel
theorem dX12_list_0 : decode cX12_list 0 = .ok (.aload_n 0, 1) := by decide +kernel
theorem dX12_list_1 : decode cX12_list 1 = .ok (.iconst 0, 1) := by decide +kernel
theorem dX12_list_2 : decode cX12_list 2 = .ok (.putfield 1, 3) := by decide +kernel
theorem dX12_list_5 : decode cX12_list 5 = .ok (.aload_n 0, 1) := by decide +kernel
theorem dX12_list_6 : decode cX12_list 6 = .ok (.iload_n 1, 1) := by decide +kernel
theorem dX12_list_7 : decode cX12_list 7 = .ok (.invokevirtual 273, 3) := by decide +kernel
theorem dX12_list_10 : decode cX12_list 10 = .ok (.ifCond .ne 6, 3) := by decide +kernel
theorem dX12_list_13 : decode cX12_list 13 = .ok (.bipush (-2), 2) := by decide +kernel
theorem dX12_list_15 : decode cX12_list 15 = .ok (.ireturn, 1) := by decide +kernel
theorem dX12_list_16 : decode cX12_list 16 = .ok (.iload_n 2, 1) := by decide +kernel
theorem dX12_list_17 : decode cX12_list 17 = .ok (.i2l, 1) := by decide +kernel
theorem dX12_list_18 : decode cX12_list 18 = .ok (.lconst 0, 1) := by decide +kernel
theorem dX12_list_19 : decode cX12_list 19 = .ok (.ldc2_w 200, 3) := by decide +kernel
theorem dX12_list_22 : decode cX12_list 22 = .ok (.invokestatic 142, 3) := by decide +kernel
theorem dX12_list_25 : decode cX12_list 25 = .ok (.ifCond .ne 6, 3) := by decide +kernel
theorem dX12_list_28 : decode cX12_list 28 = .ok (.bipush (-3), 2) := by decide +kernel
theorem dX12_list_30 : decode cX12_list 30 = .ok (.ireturn, 1) := by decide +kernel
theorem dX12_list_31 : decode cX12_list 31 = .ok (.aload_n 0, 1) := by decide +kernel
theorem dX12_list_32 : decode cX12_list 32 = .ok (.getfield 13, 3) := by decide +kernel
theorem dX12_list_35 : decode cX12_list 35 = .ok (.sipush 3895, 3) := by decide +kernel
theorem dX12_list_38 : decode cX12_list 38 = .ok (.iaload, 1) := by decide +kernel
theorem dX12_list_39 : decode cX12_list 39 = .ok (.istore_n 3, 1) := by decide +kernel
theorem dX12_list_40 : decode cX12_list 40 = .ok (.iload_n 3, 1) := by decide +kernel
theorem dX12_list_41 : decode cX12_list 41 = .ok (.bipush 12, 2) := by decide +kernel
theorem dX12_list_43 : decode cX12_list 43 = .ok (.if_icmp .ne 6, 3) := by decide +kernel
theorem dX12_list_46 : decode cX12_list 46 = .ok (.bipush (-4), 2) := by decide +kernel
theorem dX12_list_48 : decode cX12_list 48 = .ok (.ireturn, 1) := by decide +kernel
theorem dX12_list_49 : decode cX12_list 49 = .ok (.aload_n 0, 1) := by decide +kernel
theorem dX12_list_50 : decode cX12_list 50 = .ok (.getfield 13, 3) := by decide +kernel
theorem dX12_list_53 : decode cX12_list 53 = .ok (.sipush 3896, 3) := by decide +kernel
theorem dX12_list_56 : decode cX12_list 56 = .ok (.iload_n 3, 1) := by decide +kernel
theorem dX12_list_57 : decode cX12_list 57 = .ok (.iadd, 1) := by decide +kernel
theorem dX12_list_58 : decode cX12_list 58 = .ok (.iload_n 1, 1) := by decide +kernel
theorem dX12_list_59 : decode cX12_list 59 = .ok (.iastore, 1) := by decide +kernel
theorem dX12_list_60 : decode cX12_list 60 = .ok (.aload_n 0, 1) := by decide +kernel
theorem dX12_list_61 : decode cX12_list 61 = .ok (.getfield 13, 3) := by decide +kernel
theorem dX12_list_64 : decode cX12_list 64 = .ok (.sipush 3908, 3) := by decide +kernel
theorem dX12_list_67 : decode cX12_list 67 = .ok (.iload_n 3, 1) := by decide +kernel
theorem dX12_list_68 : decode cX12_list 68 = .ok (.iadd, 1) := by decide +kernel
theorem dX12_list_69 : decode cX12_list 69 = .ok (.iload_n 2, 1) := by decide +kernel
theorem dX12_list_70 : decode cX12_list 70 = .ok (.iastore, 1) := by decide +kernel
theorem dX12_list_71 : decode cX12_list 71 = .ok (.aload_n 0, 1) := by decide +kernel
theorem dX12_list_72 : decode cX12_list 72 = .ok (.getfield 13, 3) := by decide +kernel
theorem dX12_list_75 : decode cX12_list 75 = .ok (.sipush 3895, 3) := by decide +kernel
theorem dX12_list_78 : decode cX12_list 78 = .ok (.dup2, 1) := by decide +kernel
theorem dX12_list_79 : decode cX12_list 79 = .ok (.iaload, 1) := by decide +kernel
theorem dX12_list_80 : decode cX12_list 80 = .ok (.iconst 1, 1) := by decide +kernel
theorem dX12_list_81 : decode cX12_list 81 = .ok (.iadd, 1) := by decide +kernel
theorem dX12_list_82 : decode cX12_list 82 = .ok (.iastore, 1) := by decide +kernel
theorem dX12_list_83 : decode cX12_list 83 = .ok (.iload_n 3, 1) := by decide +kernel
theorem dX12_list_84 : decode cX12_list 84 = .ok (.ireturn, 1) := by decide +kernel
theorem dX12_mayBe_0 : decode cX12_mayBe 0 = .ok (.aload_n 0, 1) := by decide +kernel
theorem dX12_mayBe_1 : decode cX12_mayBe 1 = .ok (.getfield 13, 3) := by decide +kernel
theorem dX12_mayBe_4 : decode cX12_mayBe 4 = .ok (.sipush 1010, 3) := by decide +kernel
theorem dX12_mayBe_7 : decode cX12_mayBe 7 = .ok (.iload_n 2, 1) := by decide +kernel
theorem dX12_mayBe_8 : decode cX12_mayBe 8 = .ok (.iadd, 1) := by decide +kernel
theorem dX12_mayBe_9 : decode cX12_mayBe 9 = .ok (.iaload, 1) := by decide +kernel
theorem dX12_mayBe_10 : decode cX12_mayBe 10 = .ok (.ifCond .ne 53, 3) := by decide +kernel
theorem dX12_mayBe_13 : decode cX12_mayBe 13 = .ok (.aload_n 0, 1) := by decide +kernel
theorem dX12_mayBe_14 : decode cX12_mayBe 14 = .ok (.getfield 13, 3) := by decide +kernel
theorem dX12_mayBe_17 : decode cX12_mayBe 17 = .ok (.sipush 710, 3) := by decide +kernel
theorem dX12_mayBe_20 : decode cX12_mayBe 20 = .ok (.iload_n 2, 1) := by decide +kernel
theorem dX12_mayBe_21 : decode cX12_mayBe 21 = .ok (.iadd, 1) := by decide +kernel
theorem dX12_mayBe_22 : decode cX12_mayBe 22 = .ok (.iaload, 1) := by decide +kernel
theorem dX12_mayBe_23 : decode cX12_mayBe 23 = .ok (.aload_n 0, 1) := by decide +kernel
theorem dX12_mayBe_24 : decode cX12_mayBe 24 = .ok (.getfield 13, 3) := by decide +kernel
theorem dX12_mayBe_27 : decode cX12_mayBe 27 = .ok (.sipush 3896, 3) := by decide +kernel
theorem dX12_mayBe_30 : decode cX12_mayBe 30 = .ok (.iload_n 1, 1) := by decide +kernel
theorem dX12_mayBe_31 : decode cX12_mayBe 31 = .ok (.iadd, 1) := by decide +kernel
theorem dX12_mayBe_32 : decode cX12_mayBe 32 = .ok (.iaload, 1) := by decide +kernel
theorem dX12_mayBe_33 : decode cX12_mayBe 33 = .ok (.if_icmp .ne 30, 3) := by decide +kernel
theorem dX12_mayBe_36 : decode cX12_mayBe 36 = .ok (.aload_n 0, 1) := by decide +kernel
theorem dX12_mayBe_37 : decode cX12_mayBe 37 = .ok (.getfield 13, 3) := by decide +kernel
theorem dX12_mayBe_40 : decode cX12_mayBe 40 = .ok (.sipush 1130, 3) := by decide +kernel
theorem dX12_mayBe_43 : decode cX12_mayBe 43 = .ok (.iload_n 2, 1) := by decide +kernel
theorem dX12_mayBe_44 : decode cX12_mayBe 44 = .ok (.iadd, 1) := by decide +kernel
theorem dX12_mayBe_45 : decode cX12_mayBe 45 = .ok (.iaload, 1) := by decide +kernel
theorem dX12_mayBe_46 : decode cX12_mayBe 46 = .ok (.aload_n 0, 1) := by decide +kernel
theorem dX12_mayBe_47 : decode cX12_mayBe 47 = .ok (.getfield 13, 3) := by decide +kernel
theorem dX12_mayBe_50 : decode cX12_mayBe 50 = .ok (.sipush 3908, 3) := by decide +kernel
theorem dX12_mayBe_53 : decode cX12_mayBe 53 = .ok (.iload_n 1, 1) := by decide +kernel
theorem dX12_mayBe_54 : decode cX12_mayBe 54 = .ok (.iadd, 1) := by decide +kernel
theorem dX12_mayBe_55 : decode cX12_mayBe 55 = .ok (.iaload, 1) := by decide +kernel
theorem dX12_mayBe_56 : decode cX12_mayBe 56 = .ok (.if_icmp .lt 7, 3) := by decide +kernel
theorem dX12_mayBe_59 : decode cX12_mayBe 59 = .ok (.iconst 1, 1) := by decide +kernel
theorem dX12_mayBe_60 : decode cX12_mayBe 60 = .ok (.goto 4, 3) := by decide +kernel
theorem dX12_mayBe_63 : decode cX12_mayBe 63 = .ok (.iconst 0, 1) := by decide +kernel
theorem dX12_mayBe_64 : decode cX12_mayBe 64 = .ok (.ireturn, 1) := by decide +kernel
theorem dX12_finds_0 : decode cX12_finds 0 = .ok (.iconst 0, 1) := by decide +kernel
theorem dX12_finds_1 : decode cX12_finds 1 = .ok (.istore_n 3, 1) := by decide +kernel
theorem dX12_finds_2 : decode cX12_finds 2 = .ok (.iload_n 3, 1) := by decide +kernel
theorem dX12_finds_3 : decode cX12_finds 3 = .ok (.aload_n 0, 1) := by decide +kernel
theorem dX12_finds_4 : decode cX12_finds 4 = .ok (.getfield 13, 3) := by decide +kernel
theorem dX12_finds_7 : decode cX12_finds 7 = .ok (.sipush 709, 3) := by decide +kernel
theorem dX12_finds_10 : decode cX12_finds 10 = .ok (.iaload, 1) := by decide +kernel
theorem dX12_finds_11 : decode cX12_finds 11 = .ok (.if_icmp .ge 93, 3) := by decide +kernel
theorem dX12_finds_14 : decode cX12_finds 14 = .ok (.aload_n 0, 1) := by decide +kernel
theorem dX12_finds_15 : decode cX12_finds 15 = .ok (.getfield 66, 3) := by decide +kernel
theorem dX12_finds_18 : decode cX12_finds 18 = .ok (.iload_n 3, 1) := by decide +kernel
theorem dX12_finds_19 : decode cX12_finds 19 = .ok (.baload, 1) := by decide +kernel
theorem dX12_finds_20 : decode cX12_finds 20 = .ok (.ifCond .ne 78, 3) := by decide +kernel
theorem dX12_finds_23 : decode cX12_finds 23 = .ok (.aload_n 0, 1) := by decide +kernel
theorem dX12_finds_24 : decode cX12_finds 24 = .ok (.iload_n 1, 1) := by decide +kernel
theorem dX12_finds_25 : decode cX12_finds 25 = .ok (.iload_n 3, 1) := by decide +kernel
theorem dX12_finds_26 : decode cX12_finds 26 = .ok (.invokevirtual 341, 3) := by decide +kernel
theorem dX12_finds_29 : decode cX12_finds 29 = .ok (.ifCond .eq 69, 3) := by decide +kernel
theorem dX12_finds_32 : decode cX12_finds 32 = .ok (.aload_n 0, 1) := by decide +kernel
theorem dX12_finds_33 : decode cX12_finds 33 = .ok (.getfield 60, 3) := by decide +kernel
theorem dX12_finds_36 : decode cX12_finds 36 = .ok (.iload_n 3, 1) := by decide +kernel
theorem dX12_finds_37 : decode cX12_finds 37 = .ok (.iaload, 1) := by decide +kernel
theorem dX12_finds_38 : decode cX12_finds 38 = .ok (.iconst (-1), 1) := by decide +kernel
theorem dX12_finds_39 : decode cX12_finds 39 = .ok (.if_icmp .eq 16, 3) := by decide +kernel
theorem dX12_finds_42 : decode cX12_finds 42 = .ok (.aload_n 0, 1) := by decide +kernel
theorem dX12_finds_43 : decode cX12_finds 43 = .ok (.getfield 60, 3) := by decide +kernel
theorem dX12_finds_46 : decode cX12_finds 46 = .ok (.iload_n 3, 1) := by decide +kernel
theorem dX12_finds_47 : decode cX12_finds 47 = .ok (.iaload, 1) := by decide +kernel
theorem dX12_finds_48 : decode cX12_finds 48 = .ok (.iload_n 2, 1) := by decide +kernel
theorem dX12_finds_49 : decode cX12_finds 49 = .ok (.if_icmp .ge 6, 3) := by decide +kernel
theorem dX12_finds_52 : decode cX12_finds 52 = .ok (.goto 46, 3) := by decide +kernel
theorem dX12_finds_55 : decode cX12_finds 55 = .ok (.aload_n 0, 1) := by decide +kernel
theorem dX12_finds_56 : decode cX12_finds 56 = .ok (.getfield 66, 3) := by decide +kernel
theorem dX12_finds_59 : decode cX12_finds 59 = .ok (.iload_n 3, 1) := by decide +kernel
theorem dX12_finds_60 : decode cX12_finds 60 = .ok (.iconst 1, 1) := by decide +kernel
theorem dX12_finds_61 : decode cX12_finds 61 = .ok (.bastore, 1) := by decide +kernel
theorem dX12_finds_62 : decode cX12_finds 62 = .ok (.aload_n 0, 1) := by decide +kernel
theorem dX12_finds_63 : decode cX12_finds 63 = .ok (.getfield 60, 3) := by decide +kernel
theorem dX12_finds_66 : decode cX12_finds 66 = .ok (.iload_n 3, 1) := by decide +kernel
theorem dX12_finds_67 : decode cX12_finds 67 = .ok (.iaload, 1) := by decide +kernel
theorem dX12_finds_68 : decode cX12_finds 68 = .ok (.iconst (-1), 1) := by decide +kernel
theorem dX12_finds_69 : decode cX12_finds 69 = .ok (.if_icmp .eq 20, 3) := by decide +kernel
theorem dX12_finds_72 : decode cX12_finds 72 = .ok (.aload_n 0, 1) := by decide +kernel
theorem dX12_finds_73 : decode cX12_finds 73 = .ok (.aload_n 0, 1) := by decide +kernel
theorem dX12_finds_74 : decode cX12_finds 74 = .ok (.getfield 60, 3) := by decide +kernel
theorem dX12_finds_77 : decode cX12_finds 77 = .ok (.iload_n 3, 1) := by decide +kernel
theorem dX12_finds_78 : decode cX12_finds 78 = .ok (.iaload, 1) := by decide +kernel
theorem dX12_finds_79 : decode cX12_finds 79 = .ok (.iload_n 2, 1) := by decide +kernel
theorem dX12_finds_80 : decode cX12_finds 80 = .ok (.invokevirtual 344, 3) := by decide +kernel
theorem dX12_finds_83 : decode cX12_finds 83 = .ok (.ifCond .ne 6, 3) := by decide +kernel
theorem dX12_finds_86 : decode cX12_finds 86 = .ok (.goto 12, 3) := by decide +kernel
theorem dX12_finds_89 : decode cX12_finds 89 = .ok (.aload_n 0, 1) := by decide +kernel
theorem dX12_finds_90 : decode cX12_finds 90 = .ok (.getfield 60, 3) := by decide +kernel
theorem dX12_finds_93 : decode cX12_finds 93 = .ok (.iload_n 3, 1) := by decide +kernel
theorem dX12_finds_94 : decode cX12_finds 94 = .ok (.iload_n 1, 1) := by decide +kernel
theorem dX12_finds_95 : decode cX12_finds 95 = .ok (.iastore, 1) := by decide +kernel
theorem dX12_finds_96 : decode cX12_finds 96 = .ok (.iconst 1, 1) := by decide +kernel
theorem dX12_finds_97 : decode cX12_finds 97 = .ok (.ireturn, 1) := by decide +kernel
theorem dX12_finds_98 : decode cX12_finds 98 = .ok (.iinc 3 1, 3) := by decide +kernel
theorem dX12_finds_101 : decode cX12_finds 101 = .ok (.goto (-99), 3) := by decide +kernel
theorem dX12_finds_104 : decode cX12_finds 104 = .ok (.iconst 0, 1) := by decide +kernel
theorem dX12_finds_105 : decode cX12_finds 105 = .ok (.ireturn, 1) := by decide +kernel
theorem dX12_matches_0 : decode cX12_matches 0 = .ok (.iconst 0, 1) := by decide +kernel
theorem dX12_matches_1 : decode cX12_matches 1 = .ok (.istore_n 2, 1) := by decide +kernel
theorem dX12_matches_2 : decode cX12_matches 2 = .ok (.iconst 0, 1) := by decide +kernel
theorem dX12_matches_3 : decode cX12_matches 3 = .ok (.istore_n 3, 1) := by decide +kernel
theorem dX12_matches_4 : decode cX12_matches 4 = .ok (.iload_n 3, 1) := by decide +kernel
theorem dX12_matches_5 : decode cX12_matches 5 = .ok (.aload_n 0, 1) := by decide +kernel
theorem dX12_matches_6 : decode cX12_matches 6 = .ok (.getfield 13, 3) := by decide +kernel
theorem dX12_matches_9 : decode cX12_matches 9 = .ok (.sipush 709, 3) := by decide +kernel
theorem dX12_matches_12 : decode cX12_matches 12 = .ok (.iaload, 1) := by decide +kernel
theorem dX12_matches_13 : decode cX12_matches 13 = .ok (.if_icmp .ge 16, 3) := by decide +kernel
theorem dX12_matches_16 : decode cX12_matches 16 = .ok (.aload_n 0, 1) := by decide +kernel
theorem dX12_matches_17 : decode cX12_matches 17 = .ok (.getfield 60, 3) := by decide +kernel
theorem dX12_matches_20 : decode cX12_matches 20 = .ok (.iload_n 3, 1) := by decide +kernel
theorem dX12_matches_21 : decode cX12_matches 21 = .ok (.iconst (-1), 1) := by decide +kernel
theorem dX12_matches_22 : decode cX12_matches 22 = .ok (.iastore, 1) := by decide +kernel
theorem dX12_matches_23 : decode cX12_matches 23 = .ok (.iinc 3 1, 3) := by decide +kernel
theorem dX12_matches_26 : decode cX12_matches 26 = .ok (.goto (-22), 3) := by decide +kernel
theorem dX12_matches_29 : decode cX12_matches 29 = .ok (.iconst 0, 1) := by decide +kernel
theorem dX12_matches_30 : decode cX12_matches 30 = .ok (.istore_n 3, 1) := by decide +kernel
theorem dX12_matches_31 : decode cX12_matches 31 = .ok (.iload_n 3, 1) := by decide +kernel
theorem dX12_matches_32 : decode cX12_matches 32 = .ok (.iload_n 1, 1) := by decide +kernel
theorem dX12_matches_33 : decode cX12_matches 33 = .ok (.if_icmp .ge 37, 3) := by decide +kernel
theorem dX12_matches_36 : decode cX12_matches 36 = .ok (.aload_n 0, 1) := by decide +kernel
theorem dX12_matches_37 : decode cX12_matches 37 = .ok (.getfield 63, 3) := by decide +kernel
theorem dX12_matches_40 : decode cX12_matches 40 = .ok (.iload_n 3, 1) := by decide +kernel
theorem dX12_matches_41 : decode cX12_matches 41 = .ok (.iaload, 1) := by decide +kernel
theorem dX12_matches_42 : decode cX12_matches 42 = .ok (.iconst (-1), 1) := by decide +kernel
theorem dX12_matches_43 : decode cX12_matches 43 = .ok (.if_icmp .ne 6, 3) := by decide +kernel
theorem dX12_matches_46 : decode cX12_matches 46 = .ok (.goto 18, 3) := by decide +kernel
theorem dX12_matches_49 : decode cX12_matches 49 = .ok (.aload_n 0, 1) := by decide +kernel
theorem dX12_matches_50 : decode cX12_matches 50 = .ok (.getfield 60, 3) := by decide +kernel
theorem dX12_matches_53 : decode cX12_matches 53 = .ok (.aload_n 0, 1) := by decide +kernel
theorem dX12_matches_54 : decode cX12_matches 54 = .ok (.getfield 63, 3) := by decide +kernel
theorem dX12_matches_57 : decode cX12_matches 57 = .ok (.iload_n 3, 1) := by decide +kernel
theorem dX12_matches_58 : decode cX12_matches 58 = .ok (.iaload, 1) := by decide +kernel
theorem dX12_matches_59 : decode cX12_matches 59 = .ok (.iload_n 3, 1) := by decide +kernel
theorem dX12_matches_60 : decode cX12_matches 60 = .ok (.iastore, 1) := by decide +kernel
theorem dX12_matches_61 : decode cX12_matches 61 = .ok (.iinc 2 1, 3) := by decide +kernel
theorem dX12_matches_64 : decode cX12_matches 64 = .ok (.iinc 3 1, 3) := by decide +kernel
theorem dX12_matches_67 : decode cX12_matches 67 = .ok (.goto (-36), 3) := by decide +kernel
theorem dX12_matches_70 : decode cX12_matches 70 = .ok (.iload_n 1, 1) := by decide +kernel
theorem dX12_matches_71 : decode cX12_matches 71 = .ok (.istore_n 3, 1) := by decide +kernel
theorem dX12_matches_72 : decode cX12_matches 72 = .ok (.iload_n 3, 1) := by decide +kernel
theorem dX12_matches_73 : decode cX12_matches 73 = .ok (.aload_n 0, 1) := by decide +kernel
theorem dX12_matches_74 : decode cX12_matches 74 = .ok (.getfield 13, 3) := by decide +kernel
theorem dX12_matches_77 : decode cX12_matches 77 = .ok (.sipush 3895, 3) := by decide +kernel
theorem dX12_matches_80 : decode cX12_matches 80 = .ok (.iaload, 1) := by decide +kernel
theorem dX12_matches_81 : decode cX12_matches 81 = .ok (.if_icmp .ge 56, 3) := by decide +kernel
theorem dX12_matches_84 : decode cX12_matches 84 = .ok (.iconst 0, 1) := by decide +kernel
theorem dX12_matches_85 : decode cX12_matches 85 = .ok (.istore 4, 2) := by decide +kernel
theorem dX12_matches_87 : decode cX12_matches 87 = .ok (.iload 4, 2) := by decide +kernel
theorem dX12_matches_89 : decode cX12_matches 89 = .ok (.aload_n 0, 1) := by decide +kernel
theorem dX12_matches_90 : decode cX12_matches 90 = .ok (.getfield 13, 3) := by decide +kernel
theorem dX12_matches_93 : decode cX12_matches 93 = .ok (.sipush 709, 3) := by decide +kernel
theorem dX12_matches_96 : decode cX12_matches 96 = .ok (.iaload, 1) := by decide +kernel
theorem dX12_matches_97 : decode cX12_matches 97 = .ok (.if_icmp .ge 17, 3) := by decide +kernel
theorem dX12_matches_100 : decode cX12_matches 100 = .ok (.aload_n 0, 1) := by decide +kernel
theorem dX12_matches_101 : decode cX12_matches 101 = .ok (.getfield 66, 3) := by decide +kernel
theorem dX12_matches_104 : decode cX12_matches 104 = .ok (.iload 4, 2) := by decide +kernel
theorem dX12_matches_106 : decode cX12_matches 106 = .ok (.iconst 0, 1) := by decide +kernel
theorem dX12_matches_107 : decode cX12_matches 107 = .ok (.bastore, 1) := by decide +kernel
theorem dX12_matches_108 : decode cX12_matches 108 = .ok (.iinc 4 1, 3) := by decide +kernel
theorem dX12_matches_111 : decode cX12_matches 111 = .ok (.goto (-24), 3) := by decide +kernel
theorem dX12_matches_114 : decode cX12_matches 114 = .ok (.iload_n 2, 1) := by decide +kernel
theorem dX12_matches_115 : decode cX12_matches 115 = .ok (.aload_n 0, 1) := by decide +kernel
theorem dX12_matches_116 : decode cX12_matches 116 = .ok (.iload_n 3, 1) := by decide +kernel
theorem dX12_matches_117 : decode cX12_matches 117 = .ok (.iload_n 1, 1) := by decide +kernel
theorem dX12_matches_118 : decode cX12_matches 118 = .ok (.invokevirtual 344, 3) := by decide +kernel
theorem dX12_matches_121 : decode cX12_matches 121 = .ok (.ifCond .eq 7, 3) := by decide +kernel
theorem dX12_matches_124 : decode cX12_matches 124 = .ok (.iconst 1, 1) := by decide +kernel
theorem dX12_matches_125 : decode cX12_matches 125 = .ok (.goto 4, 3) := by decide +kernel
theorem dX12_matches_128 : decode cX12_matches 128 = .ok (.iconst 0, 1) := by decide +kernel
theorem dX12_matches_129 : decode cX12_matches 129 = .ok (.iadd, 1) := by decide +kernel
theorem dX12_matches_130 : decode cX12_matches 130 = .ok (.istore_n 2, 1) := by decide +kernel
theorem dX12_matches_131 : decode cX12_matches 131 = .ok (.iinc 3 1, 3) := by decide +kernel
theorem dX12_matches_134 : decode cX12_matches 134 = .ok (.goto (-62), 3) := by decide +kernel
theorem dX12_matches_137 : decode cX12_matches 137 = .ok (.iload_n 2, 1) := by decide +kernel
theorem dX12_matches_138 : decode cX12_matches 138 = .ok (.ireturn, 1) := by decide +kernel
theorem dX12_isTaken_0 : decode cX12_isTaken 0 = .ok (.iconst 0, 1) := by decide +kernel
theorem dX12_isTaken_1 : decode cX12_isTaken 1 = .ok (.istore_n 3, 1) := by decide +kernel
theorem dX12_isTaken_2 : decode cX12_isTaken 2 = .ok (.iconst 0, 1) := by decide +kernel
theorem dX12_isTaken_3 : decode cX12_isTaken 3 = .ok (.istore 4, 2) := by decide +kernel
theorem dX12_isTaken_5 : decode cX12_isTaken 5 = .ok (.iload 4, 2) := by decide +kernel
theorem dX12_isTaken_7 : decode cX12_isTaken 7 = .ok (.iload_n 2, 1) := by decide +kernel
theorem dX12_isTaken_8 : decode cX12_isTaken 8 = .ok (.if_icmp .ge 30, 3) := by decide +kernel
theorem dX12_isTaken_11 : decode cX12_isTaken 11 = .ok (.iload_n 3, 1) := by decide +kernel
theorem dX12_isTaken_12 : decode cX12_isTaken 12 = .ok (.ifCond .ne 14, 3) := by decide +kernel
theorem dX12_isTaken_15 : decode cX12_isTaken 15 = .ok (.aload_n 0, 1) := by decide +kernel
theorem dX12_isTaken_16 : decode cX12_isTaken 16 = .ok (.getfield 63, 3) := by decide +kernel
theorem dX12_isTaken_19 : decode cX12_isTaken 19 = .ok (.iload 4, 2) := by decide +kernel
theorem dX12_isTaken_21 : decode cX12_isTaken 21 = .ok (.iaload, 1) := by decide +kernel
theorem dX12_isTaken_22 : decode cX12_isTaken 22 = .ok (.iload_n 1, 1) := by decide +kernel
theorem dX12_isTaken_23 : decode cX12_isTaken 23 = .ok (.if_icmp .ne 7, 3) := by decide +kernel
theorem dX12_isTaken_26 : decode cX12_isTaken 26 = .ok (.iconst 1, 1) := by decide +kernel
theorem dX12_isTaken_27 : decode cX12_isTaken 27 = .ok (.goto 4, 3) := by decide +kernel
theorem dX12_isTaken_30 : decode cX12_isTaken 30 = .ok (.iconst 0, 1) := by decide +kernel
theorem dX12_isTaken_31 : decode cX12_isTaken 31 = .ok (.istore_n 3, 1) := by decide +kernel
theorem dX12_isTaken_32 : decode cX12_isTaken 32 = .ok (.iinc 4 1, 3) := by decide +kernel
theorem dX12_isTaken_35 : decode cX12_isTaken 35 = .ok (.goto (-30), 3) := by decide +kernel
theorem dX12_isTaken_38 : decode cX12_isTaken 38 = .ok (.iload_n 3, 1) := by decide +kernel
theorem dX12_isTaken_39 : decode cX12_isTaken 39 = .ok (.ireturn, 1) := by decide +kernel
theorem dX12_match_0 : decode cX12_match 0 = .ok (.aload_n 0, 1) := by decide +kernel
theorem dX12_match_1 : decode cX12_match 1 = .ok (.iconst 0, 1) := by decide +kernel
theorem dX12_match_2 : decode cX12_match 2 = .ok (.putfield 1, 3) := by decide +kernel
theorem dX12_match_5 : decode cX12_match 5 = .ok (.aload_n 0, 1) := by decide +kernel
theorem dX12_match_6 : decode cX12_match 6 = .ok (.iconst 0, 1) := by decide +kernel
theorem dX12_match_7 : decode cX12_match 7 = .ok (.invokevirtual 347, 3) := by decide +kernel
theorem dX12_match_10 : decode cX12_match 10 = .ok (.istore_n 2, 1) := by decide +kernel
theorem dX12_match_11 : decode cX12_match 11 = .ok (.iload_n 1, 1) := by decide +kernel
theorem dX12_match_12 : decode cX12_match 12 = .ok (.iconst (-1), 1) := by decide +kernel
theorem dX12_match_13 : decode cX12_match 13 = .ok (.if_icmp .ne 5, 3) := by decide +kernel
theorem dX12_match_16 : decode cX12_match 16 = .ok (.iload_n 2, 1) := by decide +kernel
theorem dX12_match_17 : decode cX12_match 17 = .ok (.ireturn, 1) := by decide +kernel
theorem dX12_match_18 : decode cX12_match 18 = .ok (.iload_n 1, 1) := by decide +kernel
theorem dX12_match_19 : decode cX12_match 19 = .ok (.i2l, 1) := by decide +kernel
theorem dX12_match_20 : decode cX12_match 20 = .ok (.lconst 0, 1) := by decide +kernel
theorem dX12_match_21 : decode cX12_match 21 = .ok (.aload_n 0, 1) := by decide +kernel
theorem dX12_match_22 : decode cX12_match 22 = .ok (.getfield 13, 3) := by decide +kernel
theorem dX12_match_25 : decode cX12_match 25 = .ok (.sipush 3895, 3) := by decide +kernel
theorem dX12_match_28 : decode cX12_match 28 = .ok (.iaload, 1) := by decide +kernel
theorem dX12_match_29 : decode cX12_match 29 = .ok (.iconst 1, 1) := by decide +kernel
theorem dX12_match_30 : decode cX12_match 30 = .ok (.isub, 1) := by decide +kernel
theorem dX12_match_31 : decode cX12_match 31 = .ok (.i2l, 1) := by decide +kernel
theorem dX12_match_32 : decode cX12_match 32 = .ok (.invokestatic 142, 3) := by decide +kernel
theorem dX12_match_35 : decode cX12_match 35 = .ok (.ifCond .ne 5, 3) := by decide +kernel
theorem dX12_match_38 : decode cX12_match 38 = .ok (.iconst (-1), 1) := by decide +kernel
theorem dX12_match_39 : decode cX12_match 39 = .ok (.ireturn, 1) := by decide +kernel
theorem dX12_match_40 : decode cX12_match 40 = .ok (.iconst 0, 1) := by decide +kernel
theorem dX12_match_41 : decode cX12_match 41 = .ok (.istore_n 3, 1) := by decide +kernel
theorem dX12_match_42 : decode cX12_match 42 = .ok (.iload_n 3, 1) := by decide +kernel
theorem dX12_match_43 : decode cX12_match 43 = .ok (.iload_n 1, 1) := by decide +kernel
theorem dX12_match_44 : decode cX12_match 44 = .ok (.if_icmp .gt 98, 3) := by decide +kernel
theorem dX12_match_47 : decode cX12_match 47 = .ok (.iconst (-1), 1) := by decide +kernel
theorem dX12_match_48 : decode cX12_match 48 = .ok (.istore 4, 2) := by decide +kernel
theorem dX12_match_50 : decode cX12_match 50 = .ok (.iconst 0, 1) := by decide +kernel
theorem dX12_match_51 : decode cX12_match 51 = .ok (.istore 5, 2) := by decide +kernel
theorem dX12_match_53 : decode cX12_match 53 = .ok (.iload 5, 2) := by decide +kernel
theorem dX12_match_55 : decode cX12_match 55 = .ok (.aload_n 0, 1) := by decide +kernel
theorem dX12_match_56 : decode cX12_match 56 = .ok (.getfield 13, 3) := by decide +kernel
theorem dX12_match_59 : decode cX12_match 59 = .ok (.sipush 709, 3) := by decide +kernel
theorem dX12_match_62 : decode cX12_match 62 = .ok (.iaload, 1) := by decide +kernel
theorem dX12_match_63 : decode cX12_match 63 = .ok (.if_icmp .ge 65, 3) := by decide +kernel
theorem dX12_match_66 : decode cX12_match 66 = .ok (.iload 4, 2) := by decide +kernel
theorem dX12_match_68 : decode cX12_match 68 = .ok (.iconst (-1), 1) := by decide +kernel
theorem dX12_match_69 : decode cX12_match 69 = .ok (.if_icmp .ne 59, 3) := by decide +kernel
theorem dX12_match_72 : decode cX12_match 72 = .ok (.aload_n 0, 1) := by decide +kernel
theorem dX12_match_73 : decode cX12_match 73 = .ok (.iload_n 3, 1) := by decide +kernel
theorem dX12_match_74 : decode cX12_match 74 = .ok (.iload 5, 2) := by decide +kernel
theorem dX12_match_76 : decode cX12_match 76 = .ok (.invokevirtual 341, 3) := by decide +kernel
theorem dX12_match_79 : decode cX12_match 79 = .ok (.ifCond .eq 43, 3) := by decide +kernel
theorem dX12_match_82 : decode cX12_match 82 = .ok (.aload_n 0, 1) := by decide +kernel
theorem dX12_match_83 : decode cX12_match 83 = .ok (.iload 5, 2) := by decide +kernel
theorem dX12_match_85 : decode cX12_match 85 = .ok (.iload_n 3, 1) := by decide +kernel
theorem dX12_match_86 : decode cX12_match 86 = .ok (.invokevirtual 350, 3) := by decide +kernel
theorem dX12_match_89 : decode cX12_match 89 = .ok (.ifCond .eq 6, 3) := by decide +kernel
theorem dX12_match_92 : decode cX12_match 92 = .ok (.goto 30, 3) := by decide +kernel
theorem dX12_match_95 : decode cX12_match 95 = .ok (.aload_n 0, 1) := by decide +kernel
theorem dX12_match_96 : decode cX12_match 96 = .ok (.getfield 63, 3) := by decide +kernel
theorem dX12_match_99 : decode cX12_match 99 = .ok (.iload_n 3, 1) := by decide +kernel
theorem dX12_match_100 : decode cX12_match 100 = .ok (.iload 5, 2) := by decide +kernel
theorem dX12_match_102 : decode cX12_match 102 = .ok (.iastore, 1) := by decide +kernel
theorem dX12_match_103 : decode cX12_match 103 = .ok (.aload_n 0, 1) := by decide +kernel
theorem dX12_match_104 : decode cX12_match 104 = .ok (.iload_n 3, 1) := by decide +kernel
theorem dX12_match_105 : decode cX12_match 105 = .ok (.iconst 1, 1) := by decide +kernel
theorem dX12_match_106 : decode cX12_match 106 = .ok (.iadd, 1) := by decide +kernel
theorem dX12_match_107 : decode cX12_match 107 = .ok (.invokevirtual 347, 3) := by decide +kernel
theorem dX12_match_110 : decode cX12_match 110 = .ok (.iload_n 2, 1) := by decide +kernel
theorem dX12_match_111 : decode cX12_match 111 = .ok (.if_icmp .ne 8, 3) := by decide +kernel
theorem dX12_match_114 : decode cX12_match 114 = .ok (.iload 5, 2) := by decide +kernel
theorem dX12_match_116 : decode cX12_match 116 = .ok (.goto 4, 3) := by decide +kernel
theorem dX12_match_119 : decode cX12_match 119 = .ok (.iconst (-1), 1) := by decide +kernel
theorem dX12_match_120 : decode cX12_match 120 = .ok (.istore 4, 2) := by decide +kernel
theorem dX12_match_122 : decode cX12_match 122 = .ok (.iinc 5 1, 3) := by decide +kernel
theorem dX12_match_125 : decode cX12_match 125 = .ok (.goto (-72), 3) := by decide +kernel
theorem dX12_match_128 : decode cX12_match 128 = .ok (.aload_n 0, 1) := by decide +kernel
theorem dX12_match_129 : decode cX12_match 129 = .ok (.getfield 63, 3) := by decide +kernel
theorem dX12_match_132 : decode cX12_match 132 = .ok (.iload_n 3, 1) := by decide +kernel
theorem dX12_match_133 : decode cX12_match 133 = .ok (.iload 4, 2) := by decide +kernel
theorem dX12_match_135 : decode cX12_match 135 = .ok (.iastore, 1) := by decide +kernel
theorem dX12_match_136 : decode cX12_match 136 = .ok (.iinc 3 1, 3) := by decide +kernel
theorem dX12_match_139 : decode cX12_match 139 = .ok (.goto (-97), 3) := by decide +kernel
theorem dX12_match_142 : decode cX12_match 142 = .ok (.aload_n 0, 1) := by decide +kernel
theorem dX12_match_143 : decode cX12_match 143 = .ok (.getfield 63, 3) := by decide +kernel
theorem dX12_match_146 : decode cX12_match 146 = .ok (.iload_n 1, 1) := by decide +kernel
theorem dX12_match_147 : decode cX12_match 147 = .ok (.iaload, 1) := by decide +kernel
theorem dX12_match_148 : decode cX12_match 148 = .ok (.ireturn, 1) := by decide +kernel
theorem dX12_cut_0 : decode cX12_cut 0 = .ok (.iload_n 2, 1) := by decide +kernel
theorem dX12_cut_1 : decode cX12_cut 1 = .ok (.ifCond .ne 10, 3) := by decide +kernel
theorem dX12_cut_4 : decode cX12_cut 4 = .ok (.lload_n 0, 1) := by decide +kernel
theorem dX12_cut_5 : decode cX12_cut 5 = .ok (.l2i, 1) := by decide +kernel
theorem dX12_cut_6 : decode cX12_cut 6 = .ok (.i2b, 1) := by decide +kernel
theorem dX12_cut_7 : decode cX12_cut 7 = .ok (.i2l, 1) := by decide +kernel
theorem dX12_cut_8 : decode cX12_cut 8 = .ok (.goto 27, 3) := by decide +kernel
theorem dX12_cut_11 : decode cX12_cut 11 = .ok (.iload_n 2, 1) := by decide +kernel
theorem dX12_cut_12 : decode cX12_cut 12 = .ok (.iconst 1, 1) := by decide +kernel
theorem dX12_cut_13 : decode cX12_cut 13 = .ok (.if_icmp .ne 10, 3) := by decide +kernel
theorem dX12_cut_16 : decode cX12_cut 16 = .ok (.lload_n 0, 1) := by decide +kernel
theorem dX12_cut_17 : decode cX12_cut 17 = .ok (.l2i, 1) := by decide +kernel
theorem dX12_cut_18 : decode cX12_cut 18 = .ok (.i2s, 1) := by decide +kernel
theorem dX12_cut_19 : decode cX12_cut 19 = .ok (.i2l, 1) := by decide +kernel
theorem dX12_cut_20 : decode cX12_cut 20 = .ok (.goto 15, 3) := by decide +kernel
theorem dX12_cut_23 : decode cX12_cut 23 = .ok (.iload_n 2, 1) := by decide +kernel
theorem dX12_cut_24 : decode cX12_cut 24 = .ok (.iconst 2, 1) := by decide +kernel
theorem dX12_cut_25 : decode cX12_cut 25 = .ok (.if_icmp .ne 9, 3) := by decide +kernel
theorem dX12_cut_28 : decode cX12_cut 28 = .ok (.lload_n 0, 1) := by decide +kernel
theorem dX12_cut_29 : decode cX12_cut 29 = .ok (.l2i, 1) := by decide +kernel
theorem dX12_cut_30 : decode cX12_cut 30 = .ok (.i2l, 1) := by decide +kernel
theorem dX12_cut_31 : decode cX12_cut 31 = .ok (.goto 4, 3) := by decide +kernel
theorem dX12_cut_34 : decode cX12_cut 34 = .ok (.lload_n 0, 1) := by decide +kernel
theorem dX12_cut_35 : decode cX12_cut 35 = .ok (.lreturn, 1) := by decide +kernel
theorem dX12_row_0 : decode cX12_row 0 = .ok (.aload_n 0, 1) := by decide +kernel
theorem dX12_row_1 : decode cX12_row 1 = .ok (.iconst 0, 1) := by decide +kernel
theorem dX12_row_2 : decode cX12_row 2 = .ok (.putfield 1, 3) := by decide +kernel
theorem dX12_row_5 : decode cX12_row 5 = .ok (.iload_n 1, 1) := by decide +kernel
theorem dX12_row_6 : decode cX12_row 6 = .ok (.i2l, 1) := by decide +kernel
theorem dX12_row_7 : decode cX12_row 7 = .ok (.lconst 0, 1) := by decide +kernel
theorem dX12_row_8 : decode cX12_row 8 = .ok (.ldc2_w 159, 3) := by decide +kernel
theorem dX12_row_11 : decode cX12_row 11 = .ok (.invokestatic 142, 3) := by decide +kernel
theorem dX12_row_14 : decode cX12_row 14 = .ok (.ifCond .eq 15, 3) := by decide +kernel
theorem dX12_row_17 : decode cX12_row 17 = .ok (.iload_n 2, 1) := by decide +kernel
theorem dX12_row_18 : decode cX12_row 18 = .ok (.i2l, 1) := by decide +kernel
theorem dX12_row_19 : decode cX12_row 19 = .ok (.lconst 0, 1) := by decide +kernel
theorem dX12_row_20 : decode cX12_row 20 = .ok (.ldc2_w 159, 3) := by decide +kernel
theorem dX12_row_23 : decode cX12_row 23 = .ok (.invokestatic 142, 3) := by decide +kernel
theorem dX12_row_26 : decode cX12_row 26 = .ok (.ifCond .ne 6, 3) := by decide +kernel
theorem dX12_row_29 : decode cX12_row 29 = .ok (.bipush (-2), 2) := by decide +kernel
theorem dX12_row_31 : decode cX12_row 31 = .ok (.ireturn, 1) := by decide +kernel
theorem dX12_row_32 : decode cX12_row 32 = .ok (.iload_n 3, 1) := by decide +kernel
theorem dX12_row_33 : decode cX12_row 33 = .ok (.i2l, 1) := by decide +kernel
theorem dX12_row_34 : decode cX12_row 34 = .ok (.lconst 0, 1) := by decide +kernel
theorem dX12_row_35 : decode cX12_row 35 = .ok (.ldc2_w 353, 3) := by decide +kernel
theorem dX12_row_38 : decode cX12_row 38 = .ok (.invokestatic 142, 3) := by decide +kernel
theorem dX12_row_41 : decode cX12_row 41 = .ok (.ifCond .ne 6, 3) := by decide +kernel
theorem dX12_row_44 : decode cX12_row 44 = .ok (.bipush (-3), 2) := by decide +kernel
theorem dX12_row_46 : decode cX12_row 46 = .ok (.ireturn, 1) := by decide +kernel
theorem dX12_row_47 : decode cX12_row 47 = .ok (.aload_n 0, 1) := by decide +kernel
theorem dX12_row_48 : decode cX12_row 48 = .ok (.getfield 69, 3) := by decide +kernel
theorem dX12_row_51 : decode cX12_row 51 = .ok (.iload_n 1, 1) := by decide +kernel
theorem dX12_row_52 : decode cX12_row 52 = .ok (.iload_n 2, 1) := by decide +kernel
theorem dX12_row_53 : decode cX12_row 53 = .ok (.iastore, 1) := by decide +kernel
theorem dX12_row_54 : decode cX12_row 54 = .ok (.aload_n 0, 1) := by decide +kernel
theorem dX12_row_55 : decode cX12_row 55 = .ok (.getfield 72, 3) := by decide +kernel
theorem dX12_row_58 : decode cX12_row 58 = .ok (.iload_n 1, 1) := by decide +kernel
theorem dX12_row_59 : decode cX12_row 59 = .ok (.iload_n 3, 1) := by decide +kernel
theorem dX12_row_60 : decode cX12_row 60 = .ok (.iastore, 1) := by decide +kernel
theorem dX12_row_61 : decode cX12_row 61 = .ok (.iconst 0, 1) := by decide +kernel
theorem dX12_row_62 : decode cX12_row 62 = .ok (.istore 4, 2) := by decide +kernel
theorem dX12_row_64 : decode cX12_row 64 = .ok (.iload 4, 2) := by decide +kernel
theorem dX12_row_66 : decode cX12_row 66 = .ok (.iload_n 3, 1) := by decide +kernel
theorem dX12_row_67 : decode cX12_row 67 = .ok (.if_icmp .ge 22, 3) := by decide +kernel
theorem dX12_row_70 : decode cX12_row 70 = .ok (.aload_n 0, 1) := by decide +kernel
theorem dX12_row_71 : decode cX12_row 71 = .ok (.getfield 75, 3) := by decide +kernel
theorem dX12_row_74 : decode cX12_row 74 = .ok (.bipush 40, 2) := by decide +kernel
theorem dX12_row_76 : decode cX12_row 76 = .ok (.iload_n 1, 1) := by decide +kernel
theorem dX12_row_77 : decode cX12_row 77 = .ok (.imul, 1) := by decide +kernel
theorem dX12_row_78 : decode cX12_row 78 = .ok (.iload 4, 2) := by decide +kernel
theorem dX12_row_80 : decode cX12_row 80 = .ok (.iadd, 1) := by decide +kernel
theorem dX12_row_81 : decode cX12_row 81 = .ok (.lconst 0, 1) := by decide +kernel
theorem dX12_row_82 : decode cX12_row 82 = .ok (.lastore, 1) := by decide +kernel
theorem dX12_row_83 : decode cX12_row 83 = .ok (.iinc 4 1, 3) := by decide +kernel
theorem dX12_row_86 : decode cX12_row 86 = .ok (.goto (-22), 3) := by decide +kernel
theorem dX12_row_89 : decode cX12_row 89 = .ok (.iconst 0, 1) := by decide +kernel
theorem dX12_row_90 : decode cX12_row 90 = .ok (.ireturn, 1) := by decide +kernel
theorem dX12_write_0 : decode cX12_write 0 = .ok (.aload_n 0, 1) := by decide +kernel
theorem dX12_write_1 : decode cX12_write 1 = .ok (.iconst 0, 1) := by decide +kernel
theorem dX12_write_2 : decode cX12_write 2 = .ok (.putfield 1, 3) := by decide +kernel
theorem dX12_write_5 : decode cX12_write 5 = .ok (.iload_n 1, 1) := by decide +kernel
theorem dX12_write_6 : decode cX12_write 6 = .ok (.i2l, 1) := by decide +kernel
theorem dX12_write_7 : decode cX12_write 7 = .ok (.lconst 0, 1) := by decide +kernel
theorem dX12_write_8 : decode cX12_write 8 = .ok (.ldc2_w 159, 3) := by decide +kernel
theorem dX12_write_11 : decode cX12_write 11 = .ok (.invokestatic 142, 3) := by decide +kernel
theorem dX12_write_14 : decode cX12_write 14 = .ok (.ifCond .ne 7, 3) := by decide +kernel
theorem dX12_write_17 : decode cX12_write 17 = .ok (.ldc2_w 280, 3) := by decide +kernel
theorem dX12_write_20 : decode cX12_write 20 = .ok (.lreturn, 1) := by decide +kernel
theorem dX12_write_21 : decode cX12_write 21 = .ok (.aload_n 0, 1) := by decide +kernel
theorem dX12_write_22 : decode cX12_write 22 = .ok (.getfield 69, 3) := by decide +kernel
theorem dX12_write_25 : decode cX12_write 25 = .ok (.iload_n 1, 1) := by decide +kernel
theorem dX12_write_26 : decode cX12_write 26 = .ok (.iaload, 1) := by decide +kernel
theorem dX12_write_27 : decode cX12_write 27 = .ok (.iconst (-1), 1) := by decide +kernel
theorem dX12_write_28 : decode cX12_write 28 = .ok (.if_icmp .ne 7, 3) := by decide +kernel
theorem dX12_write_31 : decode cX12_write 31 = .ok (.ldc2_w 355, 3) := by decide +kernel
theorem dX12_write_34 : decode cX12_write 34 = .ok (.lreturn, 1) := by decide +kernel
theorem dX12_write_35 : decode cX12_write 35 = .ok (.iload_n 2, 1) := by decide +kernel
theorem dX12_write_36 : decode cX12_write 36 = .ok (.i2l, 1) := by decide +kernel
theorem dX12_write_37 : decode cX12_write 37 = .ok (.lconst 0, 1) := by decide +kernel
theorem dX12_write_38 : decode cX12_write 38 = .ok (.aload_n 0, 1) := by decide +kernel
theorem dX12_write_39 : decode cX12_write 39 = .ok (.getfield 72, 3) := by decide +kernel
theorem dX12_write_42 : decode cX12_write 42 = .ok (.iload_n 1, 1) := by decide +kernel
theorem dX12_write_43 : decode cX12_write 43 = .ok (.iaload, 1) := by decide +kernel
theorem dX12_write_44 : decode cX12_write 44 = .ok (.iconst 1, 1) := by decide +kernel
theorem dX12_write_45 : decode cX12_write 45 = .ok (.isub, 1) := by decide +kernel
theorem dX12_write_46 : decode cX12_write 46 = .ok (.i2l, 1) := by decide +kernel
theorem dX12_write_47 : decode cX12_write 47 = .ok (.invokestatic 142, 3) := by decide +kernel
theorem dX12_write_50 : decode cX12_write 50 = .ok (.ifCond .ne 7, 3) := by decide +kernel
theorem dX12_write_53 : decode cX12_write 53 = .ok (.ldc2_w 357, 3) := by decide +kernel
theorem dX12_write_56 : decode cX12_write 56 = .ok (.lreturn, 1) := by decide +kernel
theorem dX12_write_57 : decode cX12_write 57 = .ok (.aload_n 0, 1) := by decide +kernel
theorem dX12_write_58 : decode cX12_write 58 = .ok (.getfield 75, 3) := by decide +kernel
theorem dX12_write_61 : decode cX12_write 61 = .ok (.bipush 40, 2) := by decide +kernel
theorem dX12_write_63 : decode cX12_write 63 = .ok (.iload_n 1, 1) := by decide +kernel
theorem dX12_write_64 : decode cX12_write 64 = .ok (.imul, 1) := by decide +kernel
theorem dX12_write_65 : decode cX12_write 65 = .ok (.iload_n 2, 1) := by decide +kernel
theorem dX12_write_66 : decode cX12_write 66 = .ok (.iadd, 1) := by decide +kernel
theorem dX12_write_67 : decode cX12_write 67 = .ok (.lload_n 3, 1) := by decide +kernel
theorem dX12_write_68 : decode cX12_write 68 = .ok (.aload_n 0, 1) := by decide +kernel
theorem dX12_write_69 : decode cX12_write 69 = .ok (.getfield 69, 3) := by decide +kernel
theorem dX12_write_72 : decode cX12_write 72 = .ok (.iload_n 1, 1) := by decide +kernel
theorem dX12_write_73 : decode cX12_write 73 = .ok (.iaload, 1) := by decide +kernel
theorem dX12_write_74 : decode cX12_write 74 = .ok (.invokestatic 359, 3) := by decide +kernel
theorem dX12_write_77 : decode cX12_write 77 = .ok (.lastore, 1) := by decide +kernel
theorem dX12_write_78 : decode cX12_write 78 = .ok (.aload_n 0, 1) := by decide +kernel
theorem dX12_write_79 : decode cX12_write 79 = .ok (.getfield 75, 3) := by decide +kernel
theorem dX12_write_82 : decode cX12_write 82 = .ok (.bipush 40, 2) := by decide +kernel
theorem dX12_write_84 : decode cX12_write 84 = .ok (.iload_n 1, 1) := by decide +kernel
theorem dX12_write_85 : decode cX12_write 85 = .ok (.imul, 1) := by decide +kernel
theorem dX12_write_86 : decode cX12_write 86 = .ok (.iload_n 2, 1) := by decide +kernel
theorem dX12_write_87 : decode cX12_write 87 = .ok (.iadd, 1) := by decide +kernel
theorem dX12_write_88 : decode cX12_write 88 = .ok (.laload, 1) := by decide +kernel
theorem dX12_write_89 : decode cX12_write 89 = .ok (.lreturn, 1) := by decide +kernel
theorem dX12_clerk_0 : decode cX12_clerk 0 = .ok (.aload_n 0, 1) := by decide +kernel
theorem dX12_clerk_1 : decode cX12_clerk 1 = .ok (.iconst 0, 1) := by decide +kernel
theorem dX12_clerk_2 : decode cX12_clerk 2 = .ok (.putfield 1, 3) := by decide +kernel
theorem dX12_clerk_5 : decode cX12_clerk 5 = .ok (.iload_n 1, 1) := by decide +kernel
theorem dX12_clerk_6 : decode cX12_clerk 6 = .ok (.i2l, 1) := by decide +kernel
theorem dX12_clerk_7 : decode cX12_clerk 7 = .ok (.lconst 0, 1) := by decide +kernel
theorem dX12_clerk_8 : decode cX12_clerk 8 = .ok (.ldc2_w 159, 3) := by decide +kernel
theorem dX12_clerk_11 : decode cX12_clerk 11 = .ok (.invokestatic 142, 3) := by decide +kernel
theorem dX12_clerk_14 : decode cX12_clerk 14 = .ok (.ifCond .ne 6, 3) := by decide +kernel
theorem dX12_clerk_17 : decode cX12_clerk 17 = .ok (.bipush (-2), 2) := by decide +kernel
theorem dX12_clerk_19 : decode cX12_clerk 19 = .ok (.ireturn, 1) := by decide +kernel
theorem dX12_clerk_20 : decode cX12_clerk 20 = .ok (.aload_n 0, 1) := by decide +kernel
theorem dX12_clerk_21 : decode cX12_clerk 21 = .ok (.getfield 69, 3) := by decide +kernel
theorem dX12_clerk_24 : decode cX12_clerk 24 = .ok (.iload_n 1, 1) := by decide +kernel
theorem dX12_clerk_25 : decode cX12_clerk 25 = .ok (.iaload, 1) := by decide +kernel
theorem dX12_clerk_26 : decode cX12_clerk 26 = .ok (.iconst (-1), 1) := by decide +kernel
theorem dX12_clerk_27 : decode cX12_clerk 27 = .ok (.if_icmp .ne 6, 3) := by decide +kernel
theorem dX12_clerk_30 : decode cX12_clerk 30 = .ok (.bipush (-6), 2) := by decide +kernel
theorem dX12_clerk_32 : decode cX12_clerk 32 = .ok (.ireturn, 1) := by decide +kernel
theorem dX12_clerk_33 : decode cX12_clerk 33 = .ok (.iconst 0, 1) := by decide +kernel
theorem dX12_clerk_34 : decode cX12_clerk 34 = .ok (.istore_n 2, 1) := by decide +kernel
theorem dX12_clerk_35 : decode cX12_clerk 35 = .ok (.iconst 0, 1) := by decide +kernel
theorem dX12_clerk_36 : decode cX12_clerk 36 = .ok (.istore_n 3, 1) := by decide +kernel
theorem dX12_clerk_37 : decode cX12_clerk 37 = .ok (.iload_n 3, 1) := by decide +kernel
theorem dX12_clerk_38 : decode cX12_clerk 38 = .ok (.iconst 2, 1) := by decide +kernel
theorem dX12_clerk_39 : decode cX12_clerk 39 = .ok (.iadd, 1) := by decide +kernel
theorem dX12_clerk_40 : decode cX12_clerk 40 = .ok (.aload_n 0, 1) := by decide +kernel
theorem dX12_clerk_41 : decode cX12_clerk 41 = .ok (.getfield 72, 3) := by decide +kernel
theorem dX12_clerk_44 : decode cX12_clerk 44 = .ok (.iload_n 1, 1) := by decide +kernel
theorem dX12_clerk_45 : decode cX12_clerk 45 = .ok (.iaload, 1) := by decide +kernel
theorem dX12_clerk_46 : decode cX12_clerk 46 = .ok (.if_icmp .ge 54, 3) := by decide +kernel
theorem dX12_clerk_49 : decode cX12_clerk 49 = .ok (.bipush 40, 2) := by decide +kernel
theorem dX12_clerk_51 : decode cX12_clerk 51 = .ok (.iload_n 1, 1) := by decide +kernel
theorem dX12_clerk_52 : decode cX12_clerk 52 = .ok (.imul, 1) := by decide +kernel
theorem dX12_clerk_53 : decode cX12_clerk 53 = .ok (.iload_n 3, 1) := by decide +kernel
theorem dX12_clerk_54 : decode cX12_clerk 54 = .ok (.iadd, 1) := by decide +kernel
theorem dX12_clerk_55 : decode cX12_clerk 55 = .ok (.istore 4, 2) := by decide +kernel
theorem dX12_clerk_57 : decode cX12_clerk 57 = .ok (.aload_n 0, 1) := by decide +kernel
theorem dX12_clerk_58 : decode cX12_clerk 58 = .ok (.aload_n 0, 1) := by decide +kernel
theorem dX12_clerk_59 : decode cX12_clerk 59 = .ok (.getfield 75, 3) := by decide +kernel
theorem dX12_clerk_62 : decode cX12_clerk 62 = .ok (.iload 4, 2) := by decide +kernel
theorem dX12_clerk_64 : decode cX12_clerk 64 = .ok (.laload, 1) := by decide +kernel
theorem dX12_clerk_65 : decode cX12_clerk 65 = .ok (.aload_n 0, 1) := by decide +kernel
theorem dX12_clerk_66 : decode cX12_clerk 66 = .ok (.getfield 75, 3) := by decide +kernel
theorem dX12_clerk_69 : decode cX12_clerk 69 = .ok (.iload 4, 2) := by decide +kernel
theorem dX12_clerk_71 : decode cX12_clerk 71 = .ok (.iconst 1, 1) := by decide +kernel
theorem dX12_clerk_72 : decode cX12_clerk 72 = .ok (.iadd, 1) := by decide +kernel
theorem dX12_clerk_73 : decode cX12_clerk 73 = .ok (.laload, 1) := by decide +kernel
theorem dX12_clerk_74 : decode cX12_clerk 74 = .ok (.aload_n 0, 1) := by decide +kernel
theorem dX12_clerk_75 : decode cX12_clerk 75 = .ok (.getfield 75, 3) := by decide +kernel
theorem dX12_clerk_78 : decode cX12_clerk 78 = .ok (.iload 4, 2) := by decide +kernel
theorem dX12_clerk_80 : decode cX12_clerk 80 = .ok (.iconst 2, 1) := by decide +kernel
theorem dX12_clerk_81 : decode cX12_clerk 81 = .ok (.iadd, 1) := by decide +kernel
theorem dX12_clerk_82 : decode cX12_clerk 82 = .ok (.laload, 1) := by decide +kernel
theorem dX12_clerk_83 : decode cX12_clerk 83 = .ok (.invokevirtual 227, 3) := by decide +kernel
theorem dX12_clerk_86 : decode cX12_clerk 86 = .ok (.ifCond .ge 5, 3) := by decide +kernel
theorem dX12_clerk_89 : decode cX12_clerk 89 = .ok (.iload_n 2, 1) := by decide +kernel
theorem dX12_clerk_90 : decode cX12_clerk 90 = .ok (.ireturn, 1) := by decide +kernel
theorem dX12_clerk_91 : decode cX12_clerk 91 = .ok (.iinc 2 1, 3) := by decide +kernel
theorem dX12_clerk_94 : decode cX12_clerk 94 = .ok (.iinc 3 3, 3) := by decide +kernel
theorem dX12_clerk_97 : decode cX12_clerk 97 = .ok (.goto (-60), 3) := by decide +kernel
theorem dX12_clerk_100 : decode cX12_clerk 100 = .ok (.iload_n 2, 1) := by decide +kernel
theorem dX12_clerk_101 : decode cX12_clerk 101 = .ok (.ireturn, 1) := by decide +kernel
theorem dX12_image_0 : decode cX12_image 0 = .ok (.aload_n 0, 1) := by decide +kernel
theorem dX12_image_1 : decode cX12_image 1 = .ok (.iconst 0, 1) := by decide +kernel
theorem dX12_image_2 : decode cX12_image 2 = .ok (.putfield 1, 3) := by decide +kernel
theorem dX12_image_5 : decode cX12_image 5 = .ok (.iload_n 1, 1) := by decide +kernel
theorem dX12_image_6 : decode cX12_image 6 = .ok (.i2l, 1) := by decide +kernel
theorem dX12_image_7 : decode cX12_image 7 = .ok (.lconst 0, 1) := by decide +kernel
theorem dX12_image_8 : decode cX12_image 8 = .ok (.lconst 1, 1) := by decide +kernel
theorem dX12_image_9 : decode cX12_image 9 = .ok (.invokestatic 142, 3) := by decide +kernel
theorem dX12_image_12 : decode cX12_image 12 = .ok (.ifCond .ne 6, 3) := by decide +kernel
theorem dX12_image_15 : decode cX12_image 15 = .ok (.bipush (-2), 2) := by decide +kernel
theorem dX12_image_17 : decode cX12_image 17 = .ok (.ireturn, 1) := by decide +kernel
theorem dX12_image_18 : decode cX12_image 18 = .ok (.iconst 0, 1) := by decide +kernel
theorem dX12_image_19 : decode cX12_image 19 = .ok (.istore_n 2, 1) := by decide +kernel
theorem dX12_image_20 : decode cX12_image 20 = .ok (.iload_n 2, 1) := by decide +kernel
theorem dX12_image_21 : decode cX12_image 21 = .ok (.sipush 3920, 3) := by decide +kernel
theorem dX12_image_24 : decode cX12_image 24 = .ok (.if_icmp .ge 29, 3) := by decide +kernel
theorem dX12_image_27 : decode cX12_image 27 = .ok (.aload_n 0, 1) := by decide +kernel
theorem dX12_image_28 : decode cX12_image 28 = .ok (.getfield 13, 3) := by decide +kernel
theorem dX12_image_31 : decode cX12_image 31 = .ok (.sipush 3920, 3) := by decide +kernel
theorem dX12_image_34 : decode cX12_image 34 = .ok (.iload_n 1, 1) := by decide +kernel
theorem dX12_image_35 : decode cX12_image 35 = .ok (.iconst 1, 1) := by decide +kernel
theorem dX12_image_36 : decode cX12_image 36 = .ok (.iadd, 1) := by decide +kernel
theorem dX12_image_37 : decode cX12_image 37 = .ok (.imul, 1) := by decide +kernel
theorem dX12_image_38 : decode cX12_image 38 = .ok (.iload_n 2, 1) := by decide +kernel
theorem dX12_image_39 : decode cX12_image 39 = .ok (.iadd, 1) := by decide +kernel
theorem dX12_image_40 : decode cX12_image 40 = .ok (.aload_n 0, 1) := by decide +kernel
theorem dX12_image_41 : decode cX12_image 41 = .ok (.getfield 13, 3) := by decide +kernel
theorem dX12_image_44 : decode cX12_image 44 = .ok (.iload_n 2, 1) := by decide +kernel
theorem dX12_image_45 : decode cX12_image 45 = .ok (.iaload, 1) := by decide +kernel
theorem dX12_image_46 : decode cX12_image 46 = .ok (.iastore, 1) := by decide +kernel
theorem dX12_image_47 : decode cX12_image 47 = .ok (.iinc 2 1, 3) := by decide +kernel
theorem dX12_image_50 : decode cX12_image 50 = .ok (.goto (-30), 3) := by decide +kernel
theorem dX12_image_53 : decode cX12_image 53 = .ok (.aload_n 0, 1) := by decide +kernel
theorem dX12_image_54 : decode cX12_image 54 = .ok (.getfield 17, 3) := by decide +kernel
theorem dX12_image_57 : decode cX12_image 57 = .ok (.iload_n 1, 1) := by decide +kernel
theorem dX12_image_58 : decode cX12_image 58 = .ok (.iconst 1, 1) := by decide +kernel
theorem dX12_image_59 : decode cX12_image 59 = .ok (.bastore, 1) := by decide +kernel
theorem dX12_image_60 : decode cX12_image 60 = .ok (.iconst 0, 1) := by decide +kernel
theorem dX12_image_61 : decode cX12_image 61 = .ok (.ireturn, 1) := by decide +kernel
theorem dX12_restore_0 : decode cX12_restore 0 = .ok (.aload_n 0, 1) := by decide +kernel
theorem dX12_restore_1 : decode cX12_restore 1 = .ok (.iconst 0, 1) := by decide +kernel
theorem dX12_restore_2 : decode cX12_restore 2 = .ok (.putfield 1, 3) := by decide +kernel
theorem dX12_restore_5 : decode cX12_restore 5 = .ok (.iload_n 1, 1) := by decide +kernel
theorem dX12_restore_6 : decode cX12_restore 6 = .ok (.i2l, 1) := by decide +kernel
theorem dX12_restore_7 : decode cX12_restore 7 = .ok (.lconst 0, 1) := by decide +kernel
theorem dX12_restore_8 : decode cX12_restore 8 = .ok (.lconst 1, 1) := by decide +kernel
theorem dX12_restore_9 : decode cX12_restore 9 = .ok (.invokestatic 142, 3) := by decide +kernel
theorem dX12_restore_12 : decode cX12_restore 12 = .ok (.ifCond .ne 6, 3) := by decide +kernel
theorem dX12_restore_15 : decode cX12_restore 15 = .ok (.bipush (-2), 2) := by decide +kernel
theorem dX12_restore_17 : decode cX12_restore 17 = .ok (.ireturn, 1) := by decide +kernel
theorem dX12_restore_18 : decode cX12_restore 18 = .ok (.aload_n 0, 1) := by decide +kernel
theorem dX12_restore_19 : decode cX12_restore 19 = .ok (.getfield 17, 3) := by decide +kernel
theorem dX12_restore_22 : decode cX12_restore 22 = .ok (.iload_n 1, 1) := by decide +kernel
theorem dX12_restore_23 : decode cX12_restore 23 = .ok (.baload, 1) := by decide +kernel
theorem dX12_restore_24 : decode cX12_restore 24 = .ok (.ifCond .ne 6, 3) := by decide +kernel
theorem dX12_restore_27 : decode cX12_restore 27 = .ok (.bipush (-5), 2) := by decide +kernel
theorem dX12_restore_29 : decode cX12_restore 29 = .ok (.ireturn, 1) := by decide +kernel
theorem dX12_restore_30 : decode cX12_restore 30 = .ok (.iconst 0, 1) := by decide +kernel
theorem dX12_restore_31 : decode cX12_restore 31 = .ok (.istore_n 2, 1) := by decide +kernel
theorem dX12_restore_32 : decode cX12_restore 32 = .ok (.iload_n 2, 1) := by decide +kernel
theorem dX12_restore_33 : decode cX12_restore 33 = .ok (.sipush 3920, 3) := by decide +kernel
theorem dX12_restore_36 : decode cX12_restore 36 = .ok (.if_icmp .ge 29, 3) := by decide +kernel
theorem dX12_restore_39 : decode cX12_restore 39 = .ok (.aload_n 0, 1) := by decide +kernel
theorem dX12_restore_40 : decode cX12_restore 40 = .ok (.getfield 13, 3) := by decide +kernel
theorem dX12_restore_43 : decode cX12_restore 43 = .ok (.iload_n 2, 1) := by decide +kernel
theorem dX12_restore_44 : decode cX12_restore 44 = .ok (.aload_n 0, 1) := by decide +kernel
theorem dX12_restore_45 : decode cX12_restore 45 = .ok (.getfield 13, 3) := by decide +kernel
theorem dX12_restore_48 : decode cX12_restore 48 = .ok (.sipush 3920, 3) := by decide +kernel
theorem dX12_restore_51 : decode cX12_restore 51 = .ok (.iload_n 1, 1) := by decide +kernel
theorem dX12_restore_52 : decode cX12_restore 52 = .ok (.iconst 1, 1) := by decide +kernel
theorem dX12_restore_53 : decode cX12_restore 53 = .ok (.iadd, 1) := by decide +kernel
theorem dX12_restore_54 : decode cX12_restore 54 = .ok (.imul, 1) := by decide +kernel
theorem dX12_restore_55 : decode cX12_restore 55 = .ok (.iload_n 2, 1) := by decide +kernel
theorem dX12_restore_56 : decode cX12_restore 56 = .ok (.iadd, 1) := by decide +kernel
theorem dX12_restore_57 : decode cX12_restore 57 = .ok (.iaload, 1) := by decide +kernel
theorem dX12_restore_58 : decode cX12_restore 58 = .ok (.iastore, 1) := by decide +kernel
theorem dX12_restore_59 : decode cX12_restore 59 = .ok (.iinc 2 1, 3) := by decide +kernel
theorem dX12_restore_62 : decode cX12_restore 62 = .ok (.goto (-30), 3) := by decide +kernel
theorem dX12_restore_65 : decode cX12_restore 65 = .ok (.iconst 0, 1) := by decide +kernel
theorem dX12_restore_66 : decode cX12_restore 66 = .ok (.ireturn, 1) := by decide +kernel
theorem dX12_hereOf_0 : decode cX12_hereOf 0 = .ok (.iconst 0, 1) := by decide +kernel
theorem dX12_hereOf_1 : decode cX12_hereOf 1 = .ok (.istore_n 1, 1) := by decide +kernel
theorem dX12_hereOf_2 : decode cX12_hereOf 2 = .ok (.iconst 0, 1) := by decide +kernel
theorem dX12_hereOf_3 : decode cX12_hereOf 3 = .ok (.istore_n 2, 1) := by decide +kernel
theorem dX12_hereOf_4 : decode cX12_hereOf 4 = .ok (.iload_n 2, 1) := by decide +kernel
theorem dX12_hereOf_5 : decode cX12_hereOf 5 = .ok (.aload_n 0, 1) := by decide +kernel
theorem dX12_hereOf_6 : decode cX12_hereOf 6 = .ok (.getfield 13, 3) := by decide +kernel
theorem dX12_hereOf_9 : decode cX12_hereOf 9 = .ok (.sipush 709, 3) := by decide +kernel
theorem dX12_hereOf_12 : decode cX12_hereOf 12 = .ok (.iaload, 1) := by decide +kernel
theorem dX12_hereOf_13 : decode cX12_hereOf 13 = .ok (.if_icmp .ge 30, 3) := by decide +kernel
theorem dX12_hereOf_16 : decode cX12_hereOf 16 = .ok (.iload_n 1, 1) := by decide +kernel
theorem dX12_hereOf_17 : decode cX12_hereOf 17 = .ok (.aload_n 0, 1) := by decide +kernel
theorem dX12_hereOf_18 : decode cX12_hereOf 18 = .ok (.getfield 13, 3) := by decide +kernel
theorem dX12_hereOf_21 : decode cX12_hereOf 21 = .ok (.sipush 1010, 3) := by decide +kernel
theorem dX12_hereOf_24 : decode cX12_hereOf 24 = .ok (.iload_n 2, 1) := by decide +kernel
theorem dX12_hereOf_25 : decode cX12_hereOf 25 = .ok (.iadd, 1) := by decide +kernel
theorem dX12_hereOf_26 : decode cX12_hereOf 26 = .ok (.iaload, 1) := by decide +kernel
theorem dX12_hereOf_27 : decode cX12_hereOf 27 = .ok (.ifCond .ne 7, 3) := by decide +kernel
theorem dX12_hereOf_30 : decode cX12_hereOf 30 = .ok (.iconst 1, 1) := by decide +kernel
theorem dX12_hereOf_31 : decode cX12_hereOf 31 = .ok (.goto 4, 3) := by decide +kernel
theorem dX12_hereOf_34 : decode cX12_hereOf 34 = .ok (.iconst 0, 1) := by decide +kernel
theorem dX12_hereOf_35 : decode cX12_hereOf 35 = .ok (.iadd, 1) := by decide +kernel
theorem dX12_hereOf_36 : decode cX12_hereOf 36 = .ok (.istore_n 1, 1) := by decide +kernel
theorem dX12_hereOf_37 : decode cX12_hereOf 37 = .ok (.iinc 2 1, 3) := by decide +kernel
theorem dX12_hereOf_40 : decode cX12_hereOf 40 = .ok (.goto (-36), 3) := by decide +kernel
theorem dX12_hereOf_43 : decode cX12_hereOf 43 = .ok (.iload_n 1, 1) := by decide +kernel
theorem dX12_hereOf_44 : decode cX12_hereOf 44 = .ok (.ireturn, 1) := by decide +kernel
theorem dX12_count_0 : decode cX12_count 0 = .ok (.aload_n 0, 1) := by decide +kernel
theorem dX12_count_1 : decode cX12_count 1 = .ok (.iconst 0, 1) := by decide +kernel
theorem dX12_count_2 : decode cX12_count 2 = .ok (.putfield 1, 3) := by decide +kernel
theorem dX12_count_5 : decode cX12_count 5 = .ok (.iload_n 1, 1) := by decide +kernel
theorem dX12_count_6 : decode cX12_count 6 = .ok (.i2l, 1) := by decide +kernel
theorem dX12_count_7 : decode cX12_count 7 = .ok (.ldc2_w 363, 3) := by decide +kernel
theorem dX12_count_10 : decode cX12_count 10 = .ok (.bipush 19, 2) := by decide +kernel
theorem dX12_count_12 : decode cX12_count 12 = .ok (.aload_n 0, 1) := by decide +kernel
theorem dX12_count_13 : decode cX12_count 13 = .ok (.getfield 13, 3) := by decide +kernel
theorem dX12_count_16 : decode cX12_count 16 = .ok (.sipush 1761, 3) := by decide +kernel
theorem dX12_count_19 : decode cX12_count 19 = .ok (.iaload, 1) := by decide +kernel
theorem dX12_count_20 : decode cX12_count 20 = .ok (.iadd, 1) := by decide +kernel
theorem dX12_count_21 : decode cX12_count 21 = .ok (.i2l, 1) := by decide +kernel
theorem dX12_count_22 : decode cX12_count 22 = .ok (.invokestatic 142, 3) := by decide +kernel
theorem dX12_count_25 : decode cX12_count 25 = .ok (.ifCond .eq 12, 3) := by decide +kernel
theorem dX12_count_28 : decode cX12_count 28 = .ok (.aload_n 0, 1) := by decide +kernel
theorem dX12_count_29 : decode cX12_count 29 = .ok (.iload_n 1, 1) := by decide +kernel
theorem dX12_count_30 : decode cX12_count 30 = .ok (.bipush 20, 2) := by decide +kernel
theorem dX12_count_32 : decode cX12_count 32 = .ok (.isub, 1) := by decide +kernel
theorem dX12_count_33 : decode cX12_count 33 = .ok (.invokevirtual 291, 3) := by decide +kernel
theorem dX12_count_36 : decode cX12_count 36 = .ok (.ireturn, 1) := by decide +kernel
theorem dX12_count_37 : decode cX12_count 37 = .ok (.iload_n 1, 1) := by decide +kernel
theorem dX12_count_38 : decode cX12_count 38 = .ok (.tableswitch 160 0 11 #[62, 71, 80, 89, 98, 107, 115, 123, 128, 137, 142, 151], 62) := by decide +kernel
theorem dX12_count_100 : decode cX12_count 100 = .ok (.aload_n 0, 1) := by decide +kernel
theorem dX12_count_101 : decode cX12_count 101 = .ok (.getfield 13, 3) := by decide +kernel
theorem dX12_count_104 : decode cX12_count 104 = .ok (.sipush 582, 3) := by decide +kernel
theorem dX12_count_107 : decode cX12_count 107 = .ok (.iaload, 1) := by decide +kernel
theorem dX12_count_108 : decode cX12_count 108 = .ok (.ireturn, 1) := by decide +kernel
theorem dX12_count_109 : decode cX12_count 109 = .ok (.aload_n 0, 1) := by decide +kernel
theorem dX12_count_110 : decode cX12_count 110 = .ok (.getfield 13, 3) := by decide +kernel
theorem dX12_count_113 : decode cX12_count 113 = .ok (.sipush 643, 3) := by decide +kernel
theorem dX12_count_116 : decode cX12_count 116 = .ok (.iaload, 1) := by decide +kernel
theorem dX12_count_117 : decode cX12_count 117 = .ok (.ireturn, 1) := by decide +kernel
theorem dX12_count_118 : decode cX12_count 118 = .ok (.aload_n 0, 1) := by decide +kernel
theorem dX12_count_119 : decode cX12_count 119 = .ok (.getfield 13, 3) := by decide +kernel
theorem dX12_count_122 : decode cX12_count 122 = .ok (.sipush 709, 3) := by decide +kernel
theorem dX12_count_125 : decode cX12_count 125 = .ok (.iaload, 1) := by decide +kernel
theorem dX12_count_126 : decode cX12_count 126 = .ok (.ireturn, 1) := by decide +kernel
theorem dX12_count_127 : decode cX12_count 127 = .ok (.aload_n 0, 1) := by decide +kernel
theorem dX12_count_128 : decode cX12_count 128 = .ok (.getfield 13, 3) := by decide +kernel
theorem dX12_count_131 : decode cX12_count 131 = .ok (.sipush 1310, 3) := by decide +kernel
theorem dX12_count_134 : decode cX12_count 134 = .ok (.iaload, 1) := by decide +kernel
theorem dX12_count_135 : decode cX12_count 135 = .ok (.ireturn, 1) := by decide +kernel
theorem dX12_count_136 : decode cX12_count 136 = .ok (.aload_n 0, 1) := by decide +kernel
theorem dX12_count_137 : decode cX12_count 137 = .ok (.getfield 13, 3) := by decide +kernel
theorem dX12_count_140 : decode cX12_count 140 = .ok (.sipush 1761, 3) := by decide +kernel
theorem dX12_count_143 : decode cX12_count 143 = .ok (.iaload, 1) := by decide +kernel
theorem dX12_count_144 : decode cX12_count 144 = .ok (.ireturn, 1) := by decide +kernel
theorem dX12_count_145 : decode cX12_count 145 = .ok (.aload_n 0, 1) := by decide +kernel
theorem dX12_count_146 : decode cX12_count 146 = .ok (.getfield 13, 3) := by decide +kernel
theorem dX12_count_149 : decode cX12_count 149 = .ok (.bipush 31, 2) := by decide +kernel
theorem dX12_count_151 : decode cX12_count 151 = .ok (.iaload, 1) := by decide +kernel
theorem dX12_count_152 : decode cX12_count 152 = .ok (.ireturn, 1) := by decide +kernel
theorem dX12_count_153 : decode cX12_count 153 = .ok (.aload_n 0, 1) := by decide +kernel
theorem dX12_count_154 : decode cX12_count 154 = .ok (.getfield 13, 3) := by decide +kernel
theorem dX12_count_157 : decode cX12_count 157 = .ok (.bipush 65, 2) := by decide +kernel
theorem dX12_count_159 : decode cX12_count 159 = .ok (.iaload, 1) := by decide +kernel
theorem dX12_count_160 : decode cX12_count 160 = .ok (.ireturn, 1) := by decide +kernel
theorem dX12_count_161 : decode cX12_count 161 = .ok (.aload_n 0, 1) := by decide +kernel
theorem dX12_count_162 : decode cX12_count 162 = .ok (.getfield 79, 3) := by decide +kernel
theorem dX12_count_165 : decode cX12_count 165 = .ok (.ireturn, 1) := by decide +kernel
theorem dX12_count_166 : decode cX12_count 166 = .ok (.aload_n 0, 1) := by decide +kernel
theorem dX12_count_167 : decode cX12_count 167 = .ok (.getfield 13, 3) := by decide +kernel
theorem dX12_count_170 : decode cX12_count 170 = .ok (.sipush 708, 3) := by decide +kernel
theorem dX12_count_173 : decode cX12_count 173 = .ok (.iaload, 1) := by decide +kernel
theorem dX12_count_174 : decode cX12_count 174 = .ok (.ireturn, 1) := by decide +kernel
theorem dX12_count_175 : decode cX12_count 175 = .ok (.aload_n 0, 1) := by decide +kernel
theorem dX12_count_176 : decode cX12_count 176 = .ok (.invokevirtual 365, 3) := by decide +kernel
theorem dX12_count_179 : decode cX12_count 179 = .ok (.ireturn, 1) := by decide +kernel
theorem dX12_count_180 : decode cX12_count 180 = .ok (.aload_n 0, 1) := by decide +kernel
theorem dX12_count_181 : decode cX12_count 181 = .ok (.getfield 13, 3) := by decide +kernel
theorem dX12_count_184 : decode cX12_count 184 = .ok (.sipush 3895, 3) := by decide +kernel
theorem dX12_count_187 : decode cX12_count 187 = .ok (.iaload, 1) := by decide +kernel
theorem dX12_count_188 : decode cX12_count 188 = .ok (.ireturn, 1) := by decide +kernel
theorem dX12_count_189 : decode cX12_count 189 = .ok (.aload_n 0, 1) := by decide +kernel
theorem dX12_count_190 : decode cX12_count 190 = .ok (.getfield 13, 3) := by decide +kernel
theorem dX12_count_193 : decode cX12_count 193 = .ok (.sipush 3608, 3) := by decide +kernel
theorem dX12_count_196 : decode cX12_count 196 = .ok (.iaload, 1) := by decide +kernel
theorem dX12_count_197 : decode cX12_count 197 = .ok (.ireturn, 1) := by decide +kernel
theorem dX12_count_198 : decode cX12_count 198 = .ok (.iconst (-1), 1) := by decide +kernel
theorem dX12_count_199 : decode cX12_count 199 = .ok (.ireturn, 1) := by decide +kernel

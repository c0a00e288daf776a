theorem dX11_init_0 : decode cX11_init 0 = .ok (.aload_n 0, 1) := by decide +kernel
theorem dX11_init_1 : decode cX11_init 1 = .ok (.invokespecial 1, 3) := by decide +kernel
theorem dX11_init_4 : decode cX11_init 4 = .ok (.aload_n 0, 1) := by decide +kernel
theorem dX11_init_5 : decode cX11_init 5 = .ok (.new 7, 3) := by decide +kernel
theorem dX11_init_8 : decode cX11_init 8 = .ok (.dup, 1) := by decide +kernel
theorem dX11_init_9 : decode cX11_init 9 = .ok (.invokespecial 9, 3) := by decide +kernel
theorem dX11_init_12 : decode cX11_init 12 = .ok (.putfield 10, 3) := by decide +kernel
theorem dX11_init_15 : decode cX11_init 15 = .ok (.aload_n 0, 1) := by decide +kernel
theorem dX11_init_16 : decode cX11_init 16 = .ok (.iconst 2, 1) := by decide +kernel
theorem dX11_init_17 : decode cX11_init 17 = .ok (.anewarray 7, 3) := by decide +kernel
theorem dX11_init_20 : decode cX11_init 20 = .ok (.putfield 16, 3) := by decide +kernel
theorem dX11_init_23 : decode cX11_init 23 = .ok (.iconst 0, 1) := by decide +kernel
theorem dX11_init_24 : decode cX11_init 24 = .ok (.istore_n 1, 1) := by decide +kernel
theorem dX11_init_25 : decode cX11_init 25 = .ok (.iload_n 1, 1) := by decide +kernel
theorem dX11_init_26 : decode cX11_init 26 = .ok (.iconst 2, 1) := by decide +kernel
theorem dX11_init_27 : decode cX11_init 27 = .ok (.if_icmp .ge 22, 3) := by decide +kernel
theorem dX11_init_30 : decode cX11_init 30 = .ok (.aload_n 0, 1) := by decide +kernel
theorem dX11_init_31 : decode cX11_init 31 = .ok (.getfield 16, 3) := by decide +kernel
theorem dX11_init_34 : decode cX11_init 34 = .ok (.iload_n 1, 1) := by decide +kernel
theorem dX11_init_35 : decode cX11_init 35 = .ok (.new 7, 3) := by decide +kernel
theorem dX11_init_38 : decode cX11_init 38 = .ok (.dup, 1) := by decide +kernel
theorem dX11_init_39 : decode cX11_init 39 = .ok (.invokespecial 9, 3) := by decide +kernel
theorem dX11_init_42 : decode cX11_init 42 = .ok (.aastore, 1) := by decide +kernel
theorem dX11_init_43 : decode cX11_init 43 = .ok (.iinc 1 1, 3) := by decide +kernel
theorem dX11_init_46 : decode cX11_init 46 = .ok (.goto (-21), 3) := by decide +kernel
theorem dX11_init_49 : decode cX11_init 49 = .ok (.aload_n 0, 1) := by decide +kernel
theorem dX11_init_50 : decode cX11_init 50 = .ok (.iconst 2, 1) := by decide +kernel
theorem dX11_init_51 : decode cX11_init 51 = .ok (.newarray .boolean, 2) := by decide +kernel
theorem dX11_init_53 : decode cX11_init 53 = .ok (.putfield 20, 3) := by decide +kernel
theorem dX11_init_56 : decode cX11_init 56 = .ok (.aload_n 0, 1) := by decide +kernel
theorem dX11_init_57 : decode cX11_init 57 = .ok (.new 24, 3) := by decide +kernel
theorem dX11_init_60 : decode cX11_init 60 = .ok (.dup, 1) := by decide +kernel
theorem dX11_init_61 : decode cX11_init 61 = .ok (.invokespecial 26, 3) := by decide +kernel
theorem dX11_init_64 : decode cX11_init 64 = .ok (.putfield 27, 3) := by decide +kernel
theorem dX11_init_67 : decode cX11_init 67 = .ok (.aload_n 0, 1) := by decide +kernel
theorem dX11_init_68 : decode cX11_init 68 = .ok (.iconst 4, 1) := by decide +kernel
theorem dX11_init_69 : decode cX11_init 69 = .ok (.anewarray 31, 3) := by decide +kernel
theorem dX11_init_72 : decode cX11_init 72 = .ok (.putfield 33, 3) := by decide +kernel
theorem dX11_init_75 : decode cX11_init 75 = .ok (.iconst 0, 1) := by decide +kernel
theorem dX11_init_76 : decode cX11_init 76 = .ok (.istore_n 1, 1) := by decide +kernel
theorem dX11_init_77 : decode cX11_init 77 = .ok (.iload_n 1, 1) := by decide +kernel
theorem dX11_init_78 : decode cX11_init 78 = .ok (.iconst 4, 1) := by decide +kernel
theorem dX11_init_79 : decode cX11_init 79 = .ok (.if_icmp .ge 22, 3) := by decide +kernel
theorem dX11_init_82 : decode cX11_init 82 = .ok (.aload_n 0, 1) := by decide +kernel
theorem dX11_init_83 : decode cX11_init 83 = .ok (.getfield 33, 3) := by decide +kernel
theorem dX11_init_86 : decode cX11_init 86 = .ok (.iload_n 1, 1) := by decide +kernel
theorem dX11_init_87 : decode cX11_init 87 = .ok (.new 31, 3) := by decide +kernel
theorem dX11_init_90 : decode cX11_init 90 = .ok (.dup, 1) := by decide +kernel
theorem dX11_init_91 : decode cX11_init 91 = .ok (.invokespecial 37, 3) := by decide +kernel
theorem dX11_init_94 : decode cX11_init 94 = .ok (.aastore, 1) := by decide +kernel
theorem dX11_init_95 : decode cX11_init 95 = .ok (.iinc 1 1, 3) := by decide +kernel
theorem dX11_init_98 : decode cX11_init 98 = .ok (.goto (-21), 3) := by decide +kernel
theorem dX11_init_101 : decode cX11_init 101 = .ok (.aload_n 0, 1) := by decide +kernel
theorem dX11_init_102 : decode cX11_init 102 = .ok (.new 38, 3) := by decide +kernel
theorem dX11_init_105 : decode cX11_init 105 = .ok (.dup, 1) := by decide +kernel
theorem dX11_init_106 : decode cX11_init 106 = .ok (.invokespecial 40, 3) := by decide +kernel
theorem dX11_init_109 : decode cX11_init 109 = .ok (.putfield 41, 3) := by decide +kernel
theorem dX11_init_112 : decode cX11_init 112 = .ok (.return_, 1) := by decide +kernel
theorem dX11_within_0 : decode cX11_within 0 = .ok (.iload_n 1, 1) := by decide +kernel
theorem dX11_within_1 : decode cX11_within 1 = .ok (.iload_n 0, 1) := by decide +kernel
theorem dX11_within_2 : decode cX11_within 2 = .ok (.if_icmp .gt 12, 3) := by decide +kernel
theorem dX11_within_5 : decode cX11_within 5 = .ok (.iload_n 0, 1) := by decide +kernel
theorem dX11_within_6 : decode cX11_within 6 = .ok (.iload_n 2, 1) := by decide +kernel
theorem dX11_within_7 : decode cX11_within 7 = .ok (.if_icmp .gt 7, 3) := by decide +kernel
theorem dX11_within_10 : decode cX11_within 10 = .ok (.iconst 1, 1) := by decide +kernel
theorem dX11_within_11 : decode cX11_within 11 = .ok (.goto 4, 3) := by decide +kernel
theorem dX11_within_14 : decode cX11_within 14 = .ok (.iconst 0, 1) := by decide +kernel
theorem dX11_within_15 : decode cX11_within 15 = .ok (.ireturn, 1) := by decide +kernel
theorem dX11_feed_0 : decode cX11_feed 0 = .ok (.aload_n 0, 1) := by decide +kernel
theorem dX11_feed_1 : decode cX11_feed 1 = .ok (.getfield 27, 3) := by decide +kernel
theorem dX11_feed_4 : decode cX11_feed 4 = .ok (.getfield 45, 3) := by decide +kernel
theorem dX11_feed_7 : decode cX11_feed 7 = .ok (.astore 6, 2) := by decide +kernel
theorem dX11_feed_9 : decode cX11_feed 9 = .ok (.aload 6, 2) := by decide +kernel
theorem dX11_feed_11 : decode cX11_feed 11 = .ok (.getfield 49, 3) := by decide +kernel
theorem dX11_feed_14 : decode cX11_feed 14 = .ok (.bipush 20, 2) := by decide +kernel
theorem dX11_feed_16 : decode cX11_feed 16 = .ok (.iadd, 1) := by decide +kernel
theorem dX11_feed_17 : decode cX11_feed 17 = .ok (.sipush 400, 3) := by decide +kernel
theorem dX11_feed_20 : decode cX11_feed 20 = .ok (.if_icmp .le 6, 3) := by decide +kernel
theorem dX11_feed_23 : decode cX11_feed 23 = .ok (.bipush (-4), 2) := by decide +kernel
theorem dX11_feed_25 : decode cX11_feed 25 = .ok (.ireturn, 1) := by decide +kernel
theorem dX11_feed_26 : decode cX11_feed 26 = .ok (.aload 6, 2) := by decide +kernel
theorem dX11_feed_28 : decode cX11_feed 28 = .ok (.iload_n 1, 1) := by decide +kernel
theorem dX11_feed_29 : decode cX11_feed 29 = .ok (.invokevirtual 55, 3) := by decide +kernel
theorem dX11_feed_32 : decode cX11_feed 32 = .ok (.aload 6, 2) := by decide +kernel
theorem dX11_feed_34 : decode cX11_feed 34 = .ok (.iload_n 2, 1) := by decide +kernel
theorem dX11_feed_35 : decode cX11_feed 35 = .ok (.invokevirtual 55, 3) := by decide +kernel
theorem dX11_feed_38 : decode cX11_feed 38 = .ok (.aload 6, 2) := by decide +kernel
theorem dX11_feed_40 : decode cX11_feed 40 = .ok (.iload_n 3, 1) := by decide +kernel
theorem dX11_feed_41 : decode cX11_feed 41 = .ok (.invokevirtual 55, 3) := by decide +kernel
theorem dX11_feed_44 : decode cX11_feed 44 = .ok (.aload 6, 2) := by decide +kernel
theorem dX11_feed_46 : decode cX11_feed 46 = .ok (.iload 4, 2) := by decide +kernel
theorem dX11_feed_48 : decode cX11_feed 48 = .ok (.invokevirtual 55, 3) := by decide +kernel
theorem dX11_feed_51 : decode cX11_feed 51 = .ok (.aload 6, 2) := by decide +kernel
theorem dX11_feed_53 : decode cX11_feed 53 = .ok (.iload 5, 2) := by decide +kernel
theorem dX11_feed_55 : decode cX11_feed 55 = .ok (.invokevirtual 55, 3) := by decide +kernel
theorem dX11_feed_58 : decode cX11_feed 58 = .ok (.aload 6, 2) := by decide +kernel
theorem dX11_feed_60 : decode cX11_feed 60 = .ok (.getfield 49, 3) := by decide +kernel
theorem dX11_feed_63 : decode cX11_feed 63 = .ok (.ireturn, 1) := by decide +kernel
theorem dX11_text_0 : decode cX11_text 0 = .ok (.iload_n 1, 1) := by decide +kernel
theorem dX11_text_1 : decode cX11_text 1 = .ok (.ifCond .eq 11, 3) := by decide +kernel
theorem dX11_text_4 : decode cX11_text 4 = .ok (.iload_n 1, 1) := by decide +kernel
theorem dX11_text_5 : decode cX11_text 5 = .ok (.iconst 1, 1) := by decide +kernel
theorem dX11_text_6 : decode cX11_text 6 = .ok (.if_icmp .eq 6, 3) := by decide +kernel
theorem dX11_text_9 : decode cX11_text 9 = .ok (.bipush (-2), 2) := by decide +kernel
theorem dX11_text_11 : decode cX11_text 11 = .ok (.ireturn, 1) := by decide +kernel
theorem dX11_text_12 : decode cX11_text 12 = .ok (.iload_n 2, 1) := by decide +kernel
theorem dX11_text_13 : decode cX11_text 13 = .ok (.iconst 0, 1) := by decide +kernel
theorem dX11_text_14 : decode cX11_text 14 = .ok (.aload_n 0, 1) := by decide +kernel
theorem dX11_text_15 : decode cX11_text 15 = .ok (.getfield 27, 3) := by decide +kernel
theorem dX11_text_18 : decode cX11_text 18 = .ok (.getfield 45, 3) := by decide +kernel
theorem dX11_text_21 : decode cX11_text 21 = .ok (.getfield 49, 3) := by decide +kernel
theorem dX11_text_24 : decode cX11_text 24 = .ok (.invokestatic 59, 3) := by decide +kernel
theorem dX11_text_27 : decode cX11_text 27 = .ok (.ifCond .ne 6, 3) := by decide +kernel
theorem dX11_text_30 : decode cX11_text 30 = .ok (.bipush (-3), 2) := by decide +kernel
theorem dX11_text_32 : decode cX11_text 32 = .ok (.ireturn, 1) := by decide +kernel
theorem dX11_text_33 : decode cX11_text 33 = .ok (.iload_n 1, 1) := by decide +kernel
theorem dX11_text_34 : decode cX11_text 34 = .ok (.ifCond .ne 14, 3) := by decide +kernel
theorem dX11_text_37 : decode cX11_text 37 = .ok (.aload_n 0, 1) := by decide +kernel
theorem dX11_text_38 : decode cX11_text 38 = .ok (.getfield 27, 3) := by decide +kernel
theorem dX11_text_41 : decode cX11_text 41 = .ok (.iload_n 2, 1) := by decide +kernel
theorem dX11_text_42 : decode cX11_text 42 = .ok (.invokevirtual 63, 3) := by decide +kernel
theorem dX11_text_45 : decode cX11_text 45 = .ok (.goto 11, 3) := by decide +kernel
theorem dX11_text_48 : decode cX11_text 48 = .ok (.aload_n 0, 1) := by decide +kernel
theorem dX11_text_49 : decode cX11_text 49 = .ok (.getfield 27, 3) := by decide +kernel
theorem dX11_text_52 : decode cX11_text 52 = .ok (.iload_n 2, 1) := by decide +kernel
theorem dX11_text_53 : decode cX11_text 53 = .ok (.invokevirtual 67, 3) := by decide +kernel
theorem dX11_text_56 : decode cX11_text 56 = .ok (.istore_n 3, 1) := by decide +kernel
theorem dX11_text_57 : decode cX11_text 57 = .ok (.iload_n 3, 1) := by decide +kernel
theorem dX11_text_58 : decode cX11_text 58 = .ok (.ifCond .ne 14, 3) := by decide +kernel
theorem dX11_text_61 : decode cX11_text 61 = .ok (.bipush (-10), 2) := by decide +kernel
theorem dX11_text_63 : decode cX11_text 63 = .ok (.aload_n 0, 1) := by decide +kernel
theorem dX11_text_64 : decode cX11_text 64 = .ok (.getfield 27, 3) := by decide +kernel
theorem dX11_text_67 : decode cX11_text 67 = .ok (.getfield 70, 3) := by decide +kernel
theorem dX11_text_70 : decode cX11_text 70 = .ok (.isub, 1) := by decide +kernel
theorem dX11_text_71 : decode cX11_text 71 = .ok (.ireturn, 1) := by decide +kernel
theorem dX11_text_72 : decode cX11_text 72 = .ok (.iload_n 1, 1) := by decide +kernel
theorem dX11_text_73 : decode cX11_text 73 = .ok (.ifCond .ne 31, 3) := by decide +kernel
theorem dX11_text_76 : decode cX11_text 76 = .ok (.aload_n 0, 1) := by decide +kernel
theorem dX11_text_77 : decode cX11_text 77 = .ok (.getfield 10, 3) := by decide +kernel
theorem dX11_text_80 : decode cX11_text 80 = .ok (.getfield 73, 3) := by decide +kernel
theorem dX11_text_83 : decode cX11_text 83 = .ok (.aload_n 0, 1) := by decide +kernel
theorem dX11_text_84 : decode cX11_text 84 = .ok (.getfield 27, 3) := by decide +kernel
theorem dX11_text_87 : decode cX11_text 87 = .ok (.getfield 77, 3) := by decide +kernel
theorem dX11_text_90 : decode cX11_text 90 = .ok (.invokevirtual 78, 3) := by decide +kernel
theorem dX11_text_93 : decode cX11_text 93 = .ok (.aload_n 0, 1) := by decide +kernel
theorem dX11_text_94 : decode cX11_text 94 = .ok (.getfield 10, 3) := by decide +kernel
theorem dX11_text_97 : decode cX11_text 97 = .ok (.getfield 73, 3) := by decide +kernel
theorem dX11_text_100 : decode cX11_text 100 = .ok (.getfield 84, 3) := by decide +kernel
theorem dX11_text_103 : decode cX11_text 103 = .ok (.ireturn, 1) := by decide +kernel
theorem dX11_text_104 : decode cX11_text 104 = .ok (.aload_n 0, 1) := by decide +kernel
theorem dX11_text_105 : decode cX11_text 105 = .ok (.getfield 10, 3) := by decide +kernel
theorem dX11_text_108 : decode cX11_text 108 = .ok (.getfield 87, 3) := by decide +kernel
theorem dX11_text_111 : decode cX11_text 111 = .ok (.aload_n 0, 1) := by decide +kernel
theorem dX11_text_112 : decode cX11_text 112 = .ok (.getfield 27, 3) := by decide +kernel
theorem dX11_text_115 : decode cX11_text 115 = .ok (.getfield 91, 3) := by decide +kernel
theorem dX11_text_118 : decode cX11_text 118 = .ok (.invokevirtual 92, 3) := by decide +kernel
theorem dX11_text_121 : decode cX11_text 121 = .ok (.aload_n 0, 1) := by decide +kernel
theorem dX11_text_122 : decode cX11_text 122 = .ok (.getfield 10, 3) := by decide +kernel
theorem dX11_text_125 : decode cX11_text 125 = .ok (.getfield 87, 3) := by decide +kernel
theorem dX11_text_128 : decode cX11_text 128 = .ok (.getfield 97, 3) := by decide +kernel
theorem dX11_text_131 : decode cX11_text 131 = .ok (.ireturn, 1) := by decide +kernel
theorem dX11_fault_0 : decode cX11_fault 0 = .ok (.iload_n 1, 1) := by decide +kernel
theorem dX11_fault_1 : decode cX11_fault 1 = .ok (.ifCond .ne 11, 3) := by decide +kernel
theorem dX11_fault_4 : decode cX11_fault 4 = .ok (.aload_n 0, 1) := by decide +kernel
theorem dX11_fault_5 : decode cX11_fault 5 = .ok (.getfield 27, 3) := by decide +kernel
theorem dX11_fault_8 : decode cX11_fault 8 = .ok (.getfield 70, 3) := by decide +kernel
theorem dX11_fault_11 : decode cX11_fault 11 = .ok (.ireturn, 1) := by decide +kernel
theorem dX11_fault_12 : decode cX11_fault 12 = .ok (.iload_n 1, 1) := by decide +kernel
theorem dX11_fault_13 : decode cX11_fault 13 = .ok (.iconst 1, 1) := by decide +kernel
theorem dX11_fault_14 : decode cX11_fault 14 = .ok (.if_icmp .ne 13, 3) := by decide +kernel
theorem dX11_fault_17 : decode cX11_fault 17 = .ok (.aload_n 0, 1) := by decide +kernel
theorem dX11_fault_18 : decode cX11_fault 18 = .ok (.getfield 27, 3) := by decide +kernel
theorem dX11_fault_21 : decode cX11_fault 21 = .ok (.getfield 99, 3) := by decide +kernel
theorem dX11_fault_24 : decode cX11_fault 24 = .ok (.goto 4, 3) := by decide +kernel
theorem dX11_fault_27 : decode cX11_fault 27 = .ok (.iconst (-1), 1) := by decide +kernel
theorem dX11_fault_28 : decode cX11_fault 28 = .ok (.ireturn, 1) := by decide +kernel
theorem dX11_other_0 : decode cX11_other 0 = .ok (.aload_n 0, 1) := by decide +kernel
theorem dX11_other_1 : decode cX11_other 1 = .ok (.getfield 10, 3) := by decide +kernel
theorem dX11_other_4 : decode cX11_other 4 = .ok (.getfield 102, 3) := by decide +kernel
theorem dX11_other_7 : decode cX11_other 7 = .ok (.aload_n 0, 1) := by decide +kernel
theorem dX11_other_8 : decode cX11_other 8 = .ok (.getfield 10, 3) := by decide +kernel
theorem dX11_other_11 : decode cX11_other 11 = .ok (.getfield 73, 3) := by decide +kernel
theorem dX11_other_14 : decode cX11_other 14 = .ok (.invokevirtual 78, 3) := by decide +kernel
theorem dX11_other_17 : decode cX11_other 17 = .ok (.aload_n 0, 1) := by decide +kernel
theorem dX11_other_18 : decode cX11_other 18 = .ok (.getfield 10, 3) := by decide +kernel
theorem dX11_other_21 : decode cX11_other 21 = .ok (.iconst 1, 1) := by decide +kernel
theorem dX11_other_22 : decode cX11_other 22 = .ok (.putfield 105, 3) := by decide +kernel
theorem dX11_other_25 : decode cX11_other 25 = .ok (.iconst 0, 1) := by decide +kernel
theorem dX11_other_26 : decode cX11_other 26 = .ok (.ireturn, 1) := by decide +kernel
theorem dX11_interest_0 : decode cX11_interest 0 = .ok (.iload_n 1, 1) := by decide +kernel
theorem dX11_interest_1 : decode cX11_interest 1 = .ok (.ifCond .eq 11, 3) := by decide +kernel
theorem dX11_interest_4 : decode cX11_interest 4 = .ok (.iload_n 1, 1) := by decide +kernel
theorem dX11_interest_5 : decode cX11_interest 5 = .ok (.iconst 1, 1) := by decide +kernel
theorem dX11_interest_6 : decode cX11_interest 6 = .ok (.if_icmp .eq 6, 3) := by decide +kernel
theorem dX11_interest_9 : decode cX11_interest 9 = .ok (.bipush (-2), 2) := by decide +kernel
theorem dX11_interest_11 : decode cX11_interest 11 = .ok (.ireturn, 1) := by decide +kernel
theorem dX11_interest_12 : decode cX11_interest 12 = .ok (.iload_n 2, 1) := by decide +kernel
theorem dX11_interest_13 : decode cX11_interest 13 = .ok (.invokestatic 109, 3) := by decide +kernel
theorem dX11_interest_16 : decode cX11_interest 16 = .ok (.ifCond .eq 26, 3) := by decide +kernel
theorem dX11_interest_19 : decode cX11_interest 19 = .ok (.iload_n 3, 1) := by decide +kernel
theorem dX11_interest_20 : decode cX11_interest 20 = .ok (.iconst 0, 1) := by decide +kernel
theorem dX11_interest_21 : decode cX11_interest 21 = .ok (.sipush 300, 3) := by decide +kernel
theorem dX11_interest_24 : decode cX11_interest 24 = .ok (.invokestatic 59, 3) := by decide +kernel
theorem dX11_interest_27 : decode cX11_interest 27 = .ok (.ifCond .eq 15, 3) := by decide +kernel
theorem dX11_interest_30 : decode cX11_interest 30 = .ok (.iload 4, 2) := by decide +kernel
theorem dX11_interest_32 : decode cX11_interest 32 = .ok (.iload_n 3, 1) := by decide +kernel
theorem dX11_interest_33 : decode cX11_interest 33 = .ok (.sipush 300, 3) := by decide +kernel
theorem dX11_interest_36 : decode cX11_interest 36 = .ok (.invokestatic 59, 3) := by decide +kernel
theorem dX11_interest_39 : decode cX11_interest 39 = .ok (.ifCond .ne 6, 3) := by decide +kernel
theorem dX11_interest_42 : decode cX11_interest 42 = .ok (.bipush (-3), 2) := by decide +kernel
theorem dX11_interest_44 : decode cX11_interest 44 = .ok (.ireturn, 1) := by decide +kernel
theorem dX11_interest_45 : decode cX11_interest 45 = .ok (.iload_n 1, 1) := by decide +kernel
theorem dX11_interest_46 : decode cX11_interest 46 = .ok (.ifCond .ne 13, 3) := by decide +kernel
theorem dX11_interest_49 : decode cX11_interest 49 = .ok (.aload_n 0, 1) := by decide +kernel
theorem dX11_interest_50 : decode cX11_interest 50 = .ok (.getfield 10, 3) := by decide +kernel
theorem dX11_interest_53 : decode cX11_interest 53 = .ok (.getfield 73, 3) := by decide +kernel
theorem dX11_interest_56 : decode cX11_interest 56 = .ok (.goto 10, 3) := by decide +kernel
theorem dX11_interest_59 : decode cX11_interest 59 = .ok (.aload_n 0, 1) := by decide +kernel
theorem dX11_interest_60 : decode cX11_interest 60 = .ok (.getfield 10, 3) := by decide +kernel
theorem dX11_interest_63 : decode cX11_interest 63 = .ok (.getfield 102, 3) := by decide +kernel
theorem dX11_interest_66 : decode cX11_interest 66 = .ok (.astore 5, 2) := by decide +kernel
theorem dX11_interest_68 : decode cX11_interest 68 = .ok (.aload 5, 2) := by decide +kernel
theorem dX11_interest_70 : decode cX11_interest 70 = .ok (.iload_n 2, 1) := by decide +kernel
theorem dX11_interest_71 : decode cX11_interest 71 = .ok (.invokevirtual 112, 3) := by decide +kernel
theorem dX11_interest_74 : decode cX11_interest 74 = .ok (.ifCond .ne 6, 3) := by decide +kernel
theorem dX11_interest_77 : decode cX11_interest 77 = .ok (.bipush (-5), 2) := by decide +kernel
theorem dX11_interest_79 : decode cX11_interest 79 = .ok (.ireturn, 1) := by decide +kernel
theorem dX11_interest_80 : decode cX11_interest 80 = .ok (.aload 5, 2) := by decide +kernel
theorem dX11_interest_82 : decode cX11_interest 82 = .ok (.iload_n 2, 1) := by decide +kernel
theorem dX11_interest_83 : decode cX11_interest 83 = .ok (.iload_n 3, 1) := by decide +kernel
theorem dX11_interest_84 : decode cX11_interest 84 = .ok (.iload 4, 2) := by decide +kernel
theorem dX11_interest_86 : decode cX11_interest 86 = .ok (.invokestatic 115, 3) := by decide +kernel
theorem dX11_interest_89 : decode cX11_interest 89 = .ok (.invokevirtual 119, 3) := by decide +kernel
theorem dX11_interest_92 : decode cX11_interest 92 = .ok (.ireturn, 1) := by decide +kernel
theorem dX11_isLoan_0 : decode cX11_isLoan 0 = .ok (.iload_n 0, 1) := by decide +kernel
theorem dX11_isLoan_1 : decode cX11_isLoan 1 = .ok (.iconst 1, 1) := by decide +kernel
theorem dX11_isLoan_2 : decode cX11_isLoan 2 = .ok (.sipush 999, 3) := by decide +kernel
theorem dX11_isLoan_5 : decode cX11_isLoan 5 = .ok (.invokestatic 59, 3) := by decide +kernel
theorem dX11_isLoan_8 : decode cX11_isLoan 8 = .ok (.ireturn, 1) := by decide +kernel
theorem dX11_kind_0 : decode cX11_kind 0 = .ok (.iload_n 1, 1) := by decide +kernel
theorem dX11_kind_1 : decode cX11_kind 1 = .ok (.iconst 1, 1) := by decide +kernel
theorem dX11_kind_2 : decode cX11_kind 2 = .ok (.bipush 9, 2) := by decide +kernel
theorem dX11_kind_4 : decode cX11_kind 4 = .ok (.invokestatic 59, 3) := by decide +kernel
theorem dX11_kind_7 : decode cX11_kind 7 = .ok (.ifCond .eq 36, 3) := by decide +kernel
theorem dX11_kind_10 : decode cX11_kind 10 = .ok (.iload_n 2, 1) := by decide +kernel
theorem dX11_kind_11 : decode cX11_kind 11 = .ok (.iconst 1, 1) := by decide +kernel
theorem dX11_kind_12 : decode cX11_kind 12 = .ok (.sipush 999, 3) := by decide +kernel
theorem dX11_kind_15 : decode cX11_kind 15 = .ok (.invokestatic 59, 3) := by decide +kernel
theorem dX11_kind_18 : decode cX11_kind 18 = .ok (.ifCond .eq 25, 3) := by decide +kernel
theorem dX11_kind_21 : decode cX11_kind 21 = .ok (.iload_n 3, 1) := by decide +kernel
theorem dX11_kind_22 : decode cX11_kind 22 = .ok (.iload_n 2, 1) := by decide +kernel
theorem dX11_kind_23 : decode cX11_kind 23 = .ok (.sipush 999, 3) := by decide +kernel
theorem dX11_kind_26 : decode cX11_kind 26 = .ok (.invokestatic 59, 3) := by decide +kernel
theorem dX11_kind_29 : decode cX11_kind 29 = .ok (.ifCond .eq 14, 3) := by decide +kernel
theorem dX11_kind_32 : decode cX11_kind 32 = .ok (.iload 4, 2) := by decide +kernel
theorem dX11_kind_34 : decode cX11_kind 34 = .ok (.iconst 0, 1) := by decide +kernel
theorem dX11_kind_35 : decode cX11_kind 35 = .ok (.bipush 99, 2) := by decide +kernel
theorem dX11_kind_37 : decode cX11_kind 37 = .ok (.invokestatic 59, 3) := by decide +kernel
theorem dX11_kind_40 : decode cX11_kind 40 = .ok (.ifCond .ne 6, 3) := by decide +kernel
theorem dX11_kind_43 : decode cX11_kind 43 = .ok (.bipush (-3), 2) := by decide +kernel
theorem dX11_kind_45 : decode cX11_kind 45 = .ok (.ireturn, 1) := by decide +kernel
theorem dX11_kind_46 : decode cX11_kind 46 = .ok (.aload_n 0, 1) := by decide +kernel
theorem dX11_kind_47 : decode cX11_kind 47 = .ok (.getfield 10, 3) := by decide +kernel
theorem dX11_kind_50 : decode cX11_kind 50 = .ok (.getfield 122, 3) := by decide +kernel
theorem dX11_kind_53 : decode cX11_kind 53 = .ok (.bipush 12, 2) := by decide +kernel
theorem dX11_kind_55 : decode cX11_kind 55 = .ok (.if_icmp .lt 6, 3) := by decide +kernel
theorem dX11_kind_58 : decode cX11_kind 58 = .ok (.bipush (-4), 2) := by decide +kernel
theorem dX11_kind_60 : decode cX11_kind 60 = .ok (.ireturn, 1) := by decide +kernel
theorem dX11_kind_61 : decode cX11_kind 61 = .ok (.aload_n 0, 1) := by decide +kernel
theorem dX11_kind_62 : decode cX11_kind 62 = .ok (.getfield 10, 3) := by decide +kernel
theorem dX11_kind_65 : decode cX11_kind 65 = .ok (.getfield 125, 3) := by decide +kernel
theorem dX11_kind_68 : decode cX11_kind 68 = .ok (.aload_n 0, 1) := by decide +kernel
theorem dX11_kind_69 : decode cX11_kind 69 = .ok (.getfield 10, 3) := by decide +kernel
theorem dX11_kind_72 : decode cX11_kind 72 = .ok (.getfield 122, 3) := by decide +kernel
theorem dX11_kind_75 : decode cX11_kind 75 = .ok (.aaload, 1) := by decide +kernel
theorem dX11_kind_76 : decode cX11_kind 76 = .ok (.astore 6, 2) := by decide +kernel
theorem dX11_kind_78 : decode cX11_kind 78 = .ok (.aload 6, 2) := by decide +kernel
theorem dX11_kind_80 : decode cX11_kind 80 = .ok (.iload_n 1, 1) := by decide +kernel
theorem dX11_kind_81 : decode cX11_kind 81 = .ok (.putfield 129, 3) := by decide +kernel
theorem dX11_kind_84 : decode cX11_kind 84 = .ok (.aload 6, 2) := by decide +kernel
theorem dX11_kind_86 : decode cX11_kind 86 = .ok (.iload_n 2, 1) := by decide +kernel
theorem dX11_kind_87 : decode cX11_kind 87 = .ok (.putfield 134, 3) := by decide +kernel
theorem dX11_kind_90 : decode cX11_kind 90 = .ok (.aload 6, 2) := by decide +kernel
theorem dX11_kind_92 : decode cX11_kind 92 = .ok (.iload_n 3, 1) := by decide +kernel
theorem dX11_kind_93 : decode cX11_kind 93 = .ok (.putfield 137, 3) := by decide +kernel
theorem dX11_kind_96 : decode cX11_kind 96 = .ok (.aload 6, 2) := by decide +kernel
theorem dX11_kind_98 : decode cX11_kind 98 = .ok (.iload 4, 2) := by decide +kernel
theorem dX11_kind_100 : decode cX11_kind 100 = .ok (.putfield 140, 3) := by decide +kernel
theorem dX11_kind_103 : decode cX11_kind 103 = .ok (.aload 6, 2) := by decide +kernel
theorem dX11_kind_105 : decode cX11_kind 105 = .ok (.iload 5, 2) := by decide +kernel
theorem dX11_kind_107 : decode cX11_kind 107 = .ok (.putfield 143, 3) := by decide +kernel
theorem dX11_kind_110 : decode cX11_kind 110 = .ok (.aload_n 0, 1) := by decide +kernel
theorem dX11_kind_111 : decode cX11_kind 111 = .ok (.getfield 10, 3) := by decide +kernel
theorem dX11_kind_114 : decode cX11_kind 114 = .ok (.dup, 1) := by decide +kernel
theorem dX11_kind_115 : decode cX11_kind 115 = .ok (.getfield 122, 3) := by decide +kernel
theorem dX11_kind_118 : decode cX11_kind 118 = .ok (.iconst 1, 1) := by decide +kernel
theorem dX11_kind_119 : decode cX11_kind 119 = .ok (.iadd, 1) := by decide +kernel
theorem dX11_kind_120 : decode cX11_kind 120 = .ok (.putfield 122, 3) := by decide +kernel
theorem dX11_kind_123 : decode cX11_kind 123 = .ok (.aload_n 0, 1) := by decide +kernel
theorem dX11_kind_124 : decode cX11_kind 124 = .ok (.getfield 10, 3) := by decide +kernel
theorem dX11_kind_127 : decode cX11_kind 127 = .ok (.getfield 122, 3) := by decide +kernel
theorem dX11_kind_130 : decode cX11_kind 130 = .ok (.iconst 1, 1) := by decide +kernel
theorem dX11_kind_131 : decode cX11_kind 131 = .ok (.isub, 1) := by decide +kernel
theorem dX11_kind_132 : decode cX11_kind 132 = .ok (.ireturn, 1) := by decide +kernel
theorem dX11_person_0 : decode cX11_person 0 = .ok (.iload_n 1, 1) := by decide +kernel
theorem dX11_person_1 : decode cX11_person 1 = .ok (.iconst 0, 1) := by decide +kernel
theorem dX11_person_2 : decode cX11_person 2 = .ok (.sipush 999, 3) := by decide +kernel
theorem dX11_person_5 : decode cX11_person 5 = .ok (.invokestatic 59, 3) := by decide +kernel
theorem dX11_person_8 : decode cX11_person 8 = .ok (.ifCond .eq 37, 3) := by decide +kernel
theorem dX11_person_11 : decode cX11_person 11 = .ok (.iload_n 2, 1) := by decide +kernel
theorem dX11_person_12 : decode cX11_person 12 = .ok (.iconst 0, 1) := by decide +kernel
theorem dX11_person_13 : decode cX11_person 13 = .ok (.sipush 999, 3) := by decide +kernel
theorem dX11_person_16 : decode cX11_person 16 = .ok (.invokestatic 59, 3) := by decide +kernel
theorem dX11_person_19 : decode cX11_person 19 = .ok (.ifCond .eq 26, 3) := by decide +kernel
theorem dX11_person_22 : decode cX11_person 22 = .ok (.iload_n 3, 1) := by decide +kernel
theorem dX11_person_23 : decode cX11_person 23 = .ok (.iconst 0, 1) := by decide +kernel
theorem dX11_person_24 : decode cX11_person 24 = .ok (.sipush 999, 3) := by decide +kernel
theorem dX11_person_27 : decode cX11_person 27 = .ok (.invokestatic 59, 3) := by decide +kernel
theorem dX11_person_30 : decode cX11_person 30 = .ok (.ifCond .eq 15, 3) := by decide +kernel
theorem dX11_person_33 : decode cX11_person 33 = .ok (.iload 4, 2) := by decide +kernel
theorem dX11_person_35 : decode cX11_person 35 = .ok (.iconst 0, 1) := by decide +kernel
theorem dX11_person_36 : decode cX11_person 36 = .ok (.sipush 9999, 3) := by decide +kernel
theorem dX11_person_39 : decode cX11_person 39 = .ok (.invokestatic 59, 3) := by decide +kernel
theorem dX11_person_42 : decode cX11_person 42 = .ok (.ifCond .ne 6, 3) := by decide +kernel
theorem dX11_person_45 : decode cX11_person 45 = .ok (.bipush (-3), 2) := by decide +kernel
theorem dX11_person_47 : decode cX11_person 47 = .ok (.ireturn, 1) := by decide +kernel
theorem dX11_person_48 : decode cX11_person 48 = .ok (.aload_n 0, 1) := by decide +kernel
theorem dX11_person_49 : decode cX11_person 49 = .ok (.getfield 10, 3) := by decide +kernel
theorem dX11_person_52 : decode cX11_person 52 = .ok (.getfield 146, 3) := by decide +kernel
theorem dX11_person_55 : decode cX11_person 55 = .ok (.bipush 16, 2) := by decide +kernel
theorem dX11_person_57 : decode cX11_person 57 = .ok (.if_icmp .lt 6, 3) := by decide +kernel
theorem dX11_person_60 : decode cX11_person 60 = .ok (.bipush (-4), 2) := by decide +kernel
theorem dX11_person_62 : decode cX11_person 62 = .ok (.ireturn, 1) := by decide +kernel
theorem dX11_person_63 : decode cX11_person 63 = .ok (.aload_n 0, 1) := by decide +kernel
theorem dX11_person_64 : decode cX11_person 64 = .ok (.getfield 10, 3) := by decide +kernel
theorem dX11_person_67 : decode cX11_person 67 = .ok (.getfield 149, 3) := by decide +kernel
theorem dX11_person_70 : decode cX11_person 70 = .ok (.aload_n 0, 1) := by decide +kernel
theorem dX11_person_71 : decode cX11_person 71 = .ok (.getfield 10, 3) := by decide +kernel
theorem dX11_person_74 : decode cX11_person 74 = .ok (.getfield 146, 3) := by decide +kernel
theorem dX11_person_77 : decode cX11_person 77 = .ok (.aaload, 1) := by decide +kernel
theorem dX11_person_78 : decode cX11_person 78 = .ok (.astore 5, 2) := by decide +kernel
theorem dX11_person_80 : decode cX11_person 80 = .ok (.aload 5, 2) := by decide +kernel
theorem dX11_person_82 : decode cX11_person 82 = .ok (.iload_n 1, 1) := by decide +kernel
theorem dX11_person_83 : decode cX11_person 83 = .ok (.putfield 153, 3) := by decide +kernel
theorem dX11_person_86 : decode cX11_person 86 = .ok (.aload 5, 2) := by decide +kernel
theorem dX11_person_88 : decode cX11_person 88 = .ok (.iload_n 2, 1) := by decide +kernel
theorem dX11_person_89 : decode cX11_person 89 = .ok (.putfield 158, 3) := by decide +kernel
theorem dX11_person_92 : decode cX11_person 92 = .ok (.aload 5, 2) := by decide +kernel
theorem dX11_person_94 : decode cX11_person 94 = .ok (.iload_n 3, 1) := by decide +kernel
theorem dX11_person_95 : decode cX11_person 95 = .ok (.putfield 161, 3) := by decide +kernel
theorem dX11_person_98 : decode cX11_person 98 = .ok (.aload 5, 2) := by decide +kernel
theorem dX11_person_100 : decode cX11_person 100 = .ok (.iconst 2, 1) := by decide +kernel
theorem dX11_person_101 : decode cX11_person 101 = .ok (.iload 4, 2) := by decide +kernel
theorem dX11_person_103 : decode cX11_person 103 = .ok (.imul, 1) := by decide +kernel
theorem dX11_person_104 : decode cX11_person 104 = .ok (.putfield 164, 3) := by decide +kernel
theorem dX11_person_107 : decode cX11_person 107 = .ok (.aload 5, 2) := by decide +kernel
theorem dX11_person_109 : decode cX11_person 109 = .ok (.iconst 0, 1) := by decide +kernel
theorem dX11_person_110 : decode cX11_person 110 = .ok (.putfield 167, 3) := by decide +kernel
theorem dX11_person_113 : decode cX11_person 113 = .ok (.aload_n 0, 1) := by decide +kernel
theorem dX11_person_114 : decode cX11_person 114 = .ok (.getfield 10, 3) := by decide +kernel
theorem dX11_person_117 : decode cX11_person 117 = .ok (.dup, 1) := by decide +kernel
theorem dX11_person_118 : decode cX11_person 118 = .ok (.getfield 146, 3) := by decide +kernel
theorem dX11_person_121 : decode cX11_person 121 = .ok (.iconst 1, 1) := by decide +kernel
theorem dX11_person_122 : decode cX11_person 122 = .ok (.iadd, 1) := by decide +kernel
theorem dX11_person_123 : decode cX11_person 123 = .ok (.putfield 146, 3) := by decide +kernel
theorem dX11_person_126 : decode cX11_person 126 = .ok (.aload_n 0, 1) := by decide +kernel
theorem dX11_person_127 : decode cX11_person 127 = .ok (.getfield 10, 3) := by decide +kernel
theorem dX11_person_130 : decode cX11_person 130 = .ok (.getfield 146, 3) := by decide +kernel
theorem dX11_person_133 : decode cX11_person 133 = .ok (.iconst 1, 1) := by decide +kernel
theorem dX11_person_134 : decode cX11_person 134 = .ok (.isub, 1) := by decide +kernel
theorem dX11_person_135 : decode cX11_person 135 = .ok (.ireturn, 1) := by decide +kernel
theorem dX11_purse_0 : decode cX11_purse 0 = .ok (.aload_n 0, 1) := by decide +kernel
theorem dX11_purse_1 : decode cX11_purse 1 = .ok (.getfield 10, 3) := by decide +kernel
theorem dX11_purse_4 : decode cX11_purse 4 = .ok (.iload_n 1, 1) := by decide +kernel
theorem dX11_purse_5 : decode cX11_purse 5 = .ok (.invokevirtual 170, 3) := by decide +kernel
theorem dX11_purse_8 : decode cX11_purse 8 = .ok (.ifCond .eq 18, 3) := by decide +kernel
theorem dX11_purse_11 : decode cX11_purse 11 = .ok (.aload_n 0, 1) := by decide +kernel
theorem dX11_purse_12 : decode cX11_purse 12 = .ok (.getfield 10, 3) := by decide +kernel
theorem dX11_purse_15 : decode cX11_purse 15 = .ok (.getfield 149, 3) := by decide +kernel
theorem dX11_purse_18 : decode cX11_purse 18 = .ok (.iload_n 1, 1) := by decide +kernel
theorem dX11_purse_19 : decode cX11_purse 19 = .ok (.aaload, 1) := by decide +kernel
theorem dX11_purse_20 : decode cX11_purse 20 = .ok (.getfield 164, 3) := by decide +kernel
theorem dX11_purse_23 : decode cX11_purse 23 = .ok (.goto 5, 3) := by decide +kernel
theorem dX11_purse_26 : decode cX11_purse 26 = .ok (.ldc 173, 2) := by decide +kernel
theorem dX11_purse_28 : decode cX11_purse 28 = .ok (.ireturn, 1) := by decide +kernel
theorem dX11_weeks_0 : decode cX11_weeks 0 = .ok (.iload_n 1, 1) := by decide +kernel
theorem dX11_weeks_1 : decode cX11_weeks 1 = .ok (.iconst 1, 1) := by decide +kernel
theorem dX11_weeks_2 : decode cX11_weeks 2 = .ok (.bipush 52, 2) := by decide +kernel
theorem dX11_weeks_4 : decode cX11_weeks 4 = .ok (.invokestatic 59, 3) := by decide +kernel
theorem dX11_weeks_7 : decode cX11_weeks 7 = .ok (.ifCond .ne 6, 3) := by decide +kernel
theorem dX11_weeks_10 : decode cX11_weeks 10 = .ok (.bipush (-3), 2) := by decide +kernel
theorem dX11_weeks_12 : decode cX11_weeks 12 = .ok (.ireturn, 1) := by decide +kernel
theorem dX11_weeks_13 : decode cX11_weeks 13 = .ok (.aload_n 0, 1) := by decide +kernel
theorem dX11_weeks_14 : decode cX11_weeks 14 = .ok (.getfield 10, 3) := by decide +kernel
theorem dX11_weeks_17 : decode cX11_weeks 17 = .ok (.getfield 174, 3) := by decide +kernel
theorem dX11_weeks_20 : decode cX11_weeks 20 = .ok (.iload_n 1, 1) := by decide +kernel
theorem dX11_weeks_21 : decode cX11_weeks 21 = .ok (.iadd, 1) := by decide +kernel
theorem dX11_weeks_22 : decode cX11_weeks 22 = .ok (.sipush 300, 3) := by decide +kernel
theorem dX11_weeks_25 : decode cX11_weeks 25 = .ok (.if_icmp .le 6, 3) := by decide +kernel
theorem dX11_weeks_28 : decode cX11_weeks 28 = .ok (.bipush (-5), 2) := by decide +kernel
theorem dX11_weeks_30 : decode cX11_weeks 30 = .ok (.ireturn, 1) := by decide +kernel
theorem dX11_weeks_31 : decode cX11_weeks 31 = .ok (.aload_n 0, 1) := by decide +kernel
theorem dX11_weeks_32 : decode cX11_weeks 32 = .ok (.getfield 10, 3) := by decide +kernel
theorem dX11_weeks_35 : decode cX11_weeks 35 = .ok (.dup, 1) := by decide +kernel
theorem dX11_weeks_36 : decode cX11_weeks 36 = .ok (.getfield 174, 3) := by decide +kernel
theorem dX11_weeks_39 : decode cX11_weeks 39 = .ok (.iload_n 1, 1) := by decide +kernel
theorem dX11_weeks_40 : decode cX11_weeks 40 = .ok (.iadd, 1) := by decide +kernel
theorem dX11_weeks_41 : decode cX11_weeks 41 = .ok (.putfield 174, 3) := by decide +kernel
theorem dX11_weeks_44 : decode cX11_weeks 44 = .ok (.aload_n 0, 1) := by decide +kernel
theorem dX11_weeks_45 : decode cX11_weeks 45 = .ok (.getfield 10, 3) := by decide +kernel
theorem dX11_weeks_48 : decode cX11_weeks 48 = .ok (.getfield 174, 3) := by decide +kernel
theorem dX11_weeks_51 : decode cX11_weeks 51 = .ok (.ireturn, 1) := by decide +kernel
theorem dX11_pledge_0 : decode cX11_pledge 0 = .ok (.aload_n 0, 1) := by decide +kernel
theorem dX11_pledge_1 : decode cX11_pledge 1 = .ok (.getfield 10, 3) := by decide +kernel
theorem dX11_pledge_4 : decode cX11_pledge 4 = .ok (.iload_n 1, 1) := by decide +kernel
theorem dX11_pledge_5 : decode cX11_pledge 5 = .ok (.iload_n 2, 1) := by decide +kernel
theorem dX11_pledge_6 : decode cX11_pledge 6 = .ok (.iload_n 3, 1) := by decide +kernel
theorem dX11_pledge_7 : decode cX11_pledge 7 = .ok (.invokevirtual 177, 3) := by decide +kernel
theorem dX11_pledge_10 : decode cX11_pledge 10 = .ok (.ireturn, 1) := by decide +kernel
theorem dX11_ticket_0 : decode cX11_ticket 0 = .ok (.aload_n 0, 1) := by decide +kernel
theorem dX11_ticket_1 : decode cX11_ticket 1 = .ok (.getfield 10, 3) := by decide +kernel
theorem dX11_ticket_4 : decode cX11_ticket 4 = .ok (.iload_n 1, 1) := by decide +kernel
theorem dX11_ticket_5 : decode cX11_ticket 5 = .ok (.invokevirtual 181, 3) := by decide +kernel
theorem dX11_ticket_8 : decode cX11_ticket 8 = .ok (.ireturn, 1) := by decide +kernel
theorem dX11_held_0 : decode cX11_held 0 = .ok (.aload_n 0, 1) := by decide +kernel
theorem dX11_held_1 : decode cX11_held 1 = .ok (.getfield 10, 3) := by decide +kernel
theorem dX11_held_4 : decode cX11_held 4 = .ok (.iload_n 1, 1) := by decide +kernel
theorem dX11_held_5 : decode cX11_held 5 = .ok (.invokevirtual 185, 3) := by decide +kernel
theorem dX11_held_8 : decode cX11_held 8 = .ok (.istore_n 3, 1) := by decide +kernel
theorem dX11_held_9 : decode cX11_held 9 = .ok (.iload_n 3, 1) := by decide +kernel
theorem dX11_held_10 : decode cX11_held 10 = .ok (.iconst (-1), 1) := by decide +kernel
theorem dX11_held_11 : decode cX11_held 11 = .ok (.if_icmp .ne 6, 3) := by decide +kernel
theorem dX11_held_14 : decode cX11_held 14 = .ok (.bipush (-2), 2) := by decide +kernel
theorem dX11_held_16 : decode cX11_held 16 = .ok (.ireturn, 1) := by decide +kernel
theorem dX11_held_17 : decode cX11_held 17 = .ok (.aload_n 0, 1) := by decide +kernel
theorem dX11_held_18 : decode cX11_held 18 = .ok (.getfield 10, 3) := by decide +kernel
theorem dX11_held_21 : decode cX11_held 21 = .ok (.getfield 188, 3) := by decide +kernel
theorem dX11_held_24 : decode cX11_held 24 = .ok (.iload_n 3, 1) := by decide +kernel
theorem dX11_held_25 : decode cX11_held 25 = .ok (.aaload, 1) := by decide +kernel
theorem dX11_held_26 : decode cX11_held 26 = .ok (.astore 4, 2) := by decide +kernel
theorem dX11_held_28 : decode cX11_held 28 = .ok (.iload_n 2, 1) := by decide +kernel
theorem dX11_held_29 : decode cX11_held 29 = .ok (.tableswitch 60 0 2 #[27, 33, 39], 27) := by decide +kernel
theorem dX11_held_56 : decode cX11_held 56 = .ok (.aload 4, 2) := by decide +kernel
theorem dX11_held_58 : decode cX11_held 58 = .ok (.getfield 192, 3) := by decide +kernel
theorem dX11_held_61 : decode cX11_held 61 = .ok (.ireturn, 1) := by decide +kernel
theorem dX11_held_62 : decode cX11_held 62 = .ok (.aload 4, 2) := by decide +kernel
theorem dX11_held_64 : decode cX11_held 64 = .ok (.getfield 197, 3) := by decide +kernel
theorem dX11_held_67 : decode cX11_held 67 = .ok (.ireturn, 1) := by decide +kernel
theorem dX11_held_68 : decode cX11_held 68 = .ok (.aload_n 0, 1) := by decide +kernel
theorem dX11_held_69 : decode cX11_held 69 = .ok (.getfield 10, 3) := by decide +kernel
theorem dX11_held_72 : decode cX11_held 72 = .ok (.aload_n 0, 1) := by decide +kernel
theorem dX11_held_73 : decode cX11_held 73 = .ok (.getfield 10, 3) := by decide +kernel
theorem dX11_held_76 : decode cX11_held 76 = .ok (.getfield 200, 3) := by decide +kernel
theorem dX11_held_79 : decode cX11_held 79 = .ok (.aload 4, 2) := by decide +kernel
theorem dX11_held_81 : decode cX11_held 81 = .ok (.getfield 192, 3) := by decide +kernel
theorem dX11_held_84 : decode cX11_held 84 = .ok (.aaload, 1) := by decide +kernel
theorem dX11_held_85 : decode cX11_held 85 = .ok (.invokevirtual 204, 3) := by decide +kernel
theorem dX11_held_88 : decode cX11_held 88 = .ok (.ireturn, 1) := by decide +kernel
theorem dX11_held_89 : decode cX11_held 89 = .ok (.bipush (-2), 2) := by decide +kernel
theorem dX11_held_91 : decode cX11_held 91 = .ok (.ireturn, 1) := by decide +kernel
theorem dX11_fetch_0 : decode cX11_fetch 0 = .ok (.aload_n 0, 1) := by decide +kernel
theorem dX11_fetch_1 : decode cX11_fetch 1 = .ok (.getfield 10, 3) := by decide +kernel
theorem dX11_fetch_4 : decode cX11_fetch 4 = .ok (.iload_n 1, 1) := by decide +kernel
theorem dX11_fetch_5 : decode cX11_fetch 5 = .ok (.invokevirtual 185, 3) := by decide +kernel
theorem dX11_fetch_8 : decode cX11_fetch 8 = .ok (.istore_n 2, 1) := by decide +kernel
theorem dX11_fetch_9 : decode cX11_fetch 9 = .ok (.iload_n 2, 1) := by decide +kernel
theorem dX11_fetch_10 : decode cX11_fetch 10 = .ok (.iconst (-1), 1) := by decide +kernel
theorem dX11_fetch_11 : decode cX11_fetch 11 = .ok (.if_icmp .ne 6, 3) := by decide +kernel
theorem dX11_fetch_14 : decode cX11_fetch 14 = .ok (.bipush (-2), 2) := by decide +kernel
theorem dX11_fetch_16 : decode cX11_fetch 16 = .ok (.ireturn, 1) := by decide +kernel
theorem dX11_fetch_17 : decode cX11_fetch 17 = .ok (.aload_n 0, 1) := by decide +kernel
theorem dX11_fetch_18 : decode cX11_fetch 18 = .ok (.getfield 10, 3) := by decide +kernel
theorem dX11_fetch_21 : decode cX11_fetch 21 = .ok (.getfield 188, 3) := by decide +kernel
theorem dX11_fetch_24 : decode cX11_fetch 24 = .ok (.iload_n 2, 1) := by decide +kernel
theorem dX11_fetch_25 : decode cX11_fetch 25 = .ok (.aaload, 1) := by decide +kernel
theorem dX11_fetch_26 : decode cX11_fetch 26 = .ok (.astore_n 3, 1) := by decide +kernel
theorem dX11_fetch_27 : decode cX11_fetch 27 = .ok (.aload_n 0, 1) := by decide +kernel
theorem dX11_fetch_28 : decode cX11_fetch 28 = .ok (.getfield 10, 3) := by decide +kernel
theorem dX11_fetch_31 : decode cX11_fetch 31 = .ok (.getfield 200, 3) := by decide +kernel
theorem dX11_fetch_34 : decode cX11_fetch 34 = .ok (.aload_n 3, 1) := by decide +kernel
theorem dX11_fetch_35 : decode cX11_fetch 35 = .ok (.getfield 192, 3) := by decide +kernel
theorem dX11_fetch_38 : decode cX11_fetch 38 = .ok (.aaload, 1) := by decide +kernel
theorem dX11_fetch_39 : decode cX11_fetch 39 = .ok (.astore 4, 2) := by decide +kernel
theorem dX11_fetch_41 : decode cX11_fetch 41 = .ok (.aload_n 0, 1) := by decide +kernel
theorem dX11_fetch_42 : decode cX11_fetch 42 = .ok (.getfield 10, 3) := by decide +kernel
theorem dX11_fetch_45 : decode cX11_fetch 45 = .ok (.aload 4, 2) := by decide +kernel
theorem dX11_fetch_47 : decode cX11_fetch 47 = .ok (.invokevirtual 208, 3) := by decide +kernel
theorem dX11_fetch_50 : decode cX11_fetch 50 = .ok (.ifCond .eq 6, 3) := by decide +kernel
theorem dX11_fetch_53 : decode cX11_fetch 53 = .ok (.bipush (-5), 2) := by decide +kernel
theorem dX11_fetch_55 : decode cX11_fetch 55 = .ok (.ireturn, 1) := by decide +kernel
theorem dX11_fetch_56 : decode cX11_fetch 56 = .ok (.aload_n 0, 1) := by decide +kernel
theorem dX11_fetch_57 : decode cX11_fetch 57 = .ok (.getfield 10, 3) := by decide +kernel
theorem dX11_fetch_60 : decode cX11_fetch 60 = .ok (.aload 4, 2) := by decide +kernel
theorem dX11_fetch_62 : decode cX11_fetch 62 = .ok (.invokevirtual 204, 3) := by decide +kernel
theorem dX11_fetch_65 : decode cX11_fetch 65 = .ok (.istore 5, 2) := by decide +kernel
theorem dX11_fetch_67 : decode cX11_fetch 67 = .ok (.aload_n 0, 1) := by decide +kernel
theorem dX11_fetch_68 : decode cX11_fetch 68 = .ok (.getfield 10, 3) := by decide +kernel
theorem dX11_fetch_71 : decode cX11_fetch 71 = .ok (.getfield 149, 3) := by decide +kernel
theorem dX11_fetch_74 : decode cX11_fetch 74 = .ok (.aload_n 3, 1) := by decide +kernel
theorem dX11_fetch_75 : decode cX11_fetch 75 = .ok (.getfield 197, 3) := by decide +kernel
theorem dX11_fetch_78 : decode cX11_fetch 78 = .ok (.aaload, 1) := by decide +kernel
theorem dX11_fetch_79 : decode cX11_fetch 79 = .ok (.astore 6, 2) := by decide +kernel
theorem dX11_fetch_81 : decode cX11_fetch 81 = .ok (.aload 6, 2) := by decide +kernel
theorem dX11_fetch_83 : decode cX11_fetch 83 = .ok (.getfield 164, 3) := by decide +kernel
theorem dX11_fetch_86 : decode cX11_fetch 86 = .ok (.iload 5, 2) := by decide +kernel
theorem dX11_fetch_88 : decode cX11_fetch 88 = .ok (.if_icmp .ge 6, 3) := by decide +kernel
theorem dX11_fetch_91 : decode cX11_fetch 91 = .ok (.bipush (-8), 2) := by decide +kernel
theorem dX11_fetch_93 : decode cX11_fetch 93 = .ok (.ireturn, 1) := by decide +kernel
theorem dX11_fetch_94 : decode cX11_fetch 94 = .ok (.aload 6, 2) := by decide +kernel
theorem dX11_fetch_96 : decode cX11_fetch 96 = .ok (.dup, 1) := by decide +kernel
theorem dX11_fetch_97 : decode cX11_fetch 97 = .ok (.getfield 164, 3) := by decide +kernel
theorem dX11_fetch_100 : decode cX11_fetch 100 = .ok (.iload 5, 2) := by decide +kernel
theorem dX11_fetch_102 : decode cX11_fetch 102 = .ok (.isub, 1) := by decide +kernel
theorem dX11_fetch_103 : decode cX11_fetch 103 = .ok (.putfield 164, 3) := by decide +kernel
theorem dX11_fetch_106 : decode cX11_fetch 106 = .ok (.aload_n 0, 1) := by decide +kernel
theorem dX11_fetch_107 : decode cX11_fetch 107 = .ok (.getfield 10, 3) := by decide +kernel
theorem dX11_fetch_110 : decode cX11_fetch 110 = .ok (.iconst 1, 1) := by decide +kernel
theorem dX11_fetch_111 : decode cX11_fetch 111 = .ok (.aload_n 0, 1) := by decide +kernel
theorem dX11_fetch_112 : decode cX11_fetch 112 = .ok (.getfield 10, 3) := by decide +kernel
theorem dX11_fetch_115 : decode cX11_fetch 115 = .ok (.aload 4, 2) := by decide +kernel
theorem dX11_fetch_117 : decode cX11_fetch 117 = .ok (.invokevirtual 212, 3) := by decide +kernel
theorem dX11_fetch_120 : decode cX11_fetch 120 = .ok (.invokevirtual 215, 3) := by decide +kernel
theorem dX11_fetch_123 : decode cX11_fetch 123 = .ok (.aload_n 0, 1) := by decide +kernel
theorem dX11_fetch_124 : decode cX11_fetch 124 = .ok (.getfield 10, 3) := by decide +kernel
theorem dX11_fetch_127 : decode cX11_fetch 127 = .ok (.iconst 3, 1) := by decide +kernel
theorem dX11_fetch_128 : decode cX11_fetch 128 = .ok (.iconst 1, 1) := by decide +kernel
theorem dX11_fetch_129 : decode cX11_fetch 129 = .ok (.invokevirtual 215, 3) := by decide +kernel
theorem dX11_fetch_132 : decode cX11_fetch 132 = .ok (.aload_n 0, 1) := by decide +kernel
theorem dX11_fetch_133 : decode cX11_fetch 133 = .ok (.getfield 10, 3) := by decide +kernel
theorem dX11_fetch_136 : decode cX11_fetch 136 = .ok (.iconst 5, 1) := by decide +kernel
theorem dX11_fetch_137 : decode cX11_fetch 137 = .ok (.iload 5, 2) := by decide +kernel
theorem dX11_fetch_139 : decode cX11_fetch 139 = .ok (.invokevirtual 215, 3) := by decide +kernel
theorem dX11_fetch_142 : decode cX11_fetch 142 = .ok (.aload_n 0, 1) := by decide +kernel
theorem dX11_fetch_143 : decode cX11_fetch 143 = .ok (.getfield 10, 3) := by decide +kernel
theorem dX11_fetch_146 : decode cX11_fetch 146 = .ok (.aload_n 3, 1) := by decide +kernel
theorem dX11_fetch_147 : decode cX11_fetch 147 = .ok (.getfield 192, 3) := by decide +kernel
theorem dX11_fetch_150 : decode cX11_fetch 150 = .ok (.iconst 1, 1) := by decide +kernel
theorem dX11_fetch_151 : decode cX11_fetch 151 = .ok (.invokevirtual 219, 3) := by decide +kernel
theorem dX11_fetch_154 : decode cX11_fetch 154 = .ok (.iload 5, 2) := by decide +kernel
theorem dX11_fetch_156 : decode cX11_fetch 156 = .ok (.ireturn, 1) := by decide +kernel
theorem dX11_renew_0 : decode cX11_renew 0 = .ok (.aload_n 0, 1) := by decide +kernel
theorem dX11_renew_1 : decode cX11_renew 1 = .ok (.getfield 10, 3) := by decide +kernel
theorem dX11_renew_4 : decode cX11_renew 4 = .ok (.iload_n 1, 1) := by decide +kernel
theorem dX11_renew_5 : decode cX11_renew 5 = .ok (.invokevirtual 185, 3) := by decide +kernel
theorem dX11_renew_8 : decode cX11_renew 8 = .ok (.istore_n 2, 1) := by decide +kernel
theorem dX11_renew_9 : decode cX11_renew 9 = .ok (.iload_n 2, 1) := by decide +kernel
theorem dX11_renew_10 : decode cX11_renew 10 = .ok (.iconst (-1), 1) := by decide +kernel
theorem dX11_renew_11 : decode cX11_renew 11 = .ok (.if_icmp .ne 6, 3) := by decide +kernel
theorem dX11_renew_14 : decode cX11_renew 14 = .ok (.bipush (-2), 2) := by decide +kernel
theorem dX11_renew_16 : decode cX11_renew 16 = .ok (.ireturn, 1) := by decide +kernel
theorem dX11_renew_17 : decode cX11_renew 17 = .ok (.aload_n 0, 1) := by decide +kernel
theorem dX11_renew_18 : decode cX11_renew 18 = .ok (.getfield 10, 3) := by decide +kernel
theorem dX11_renew_21 : decode cX11_renew 21 = .ok (.getfield 222, 3) := by decide +kernel
theorem dX11_renew_24 : decode cX11_renew 24 = .ok (.sipush 150, 3) := by decide +kernel
theorem dX11_renew_27 : decode cX11_renew 27 = .ok (.if_icmp .lt 6, 3) := by decide +kernel
theorem dX11_renew_30 : decode cX11_renew 30 = .ok (.bipush (-4), 2) := by decide +kernel
theorem dX11_renew_32 : decode cX11_renew 32 = .ok (.ireturn, 1) := by decide +kernel
theorem dX11_renew_33 : decode cX11_renew 33 = .ok (.aload_n 0, 1) := by decide +kernel
theorem dX11_renew_34 : decode cX11_renew 34 = .ok (.getfield 10, 3) := by decide +kernel
theorem dX11_renew_37 : decode cX11_renew 37 = .ok (.getfield 188, 3) := by decide +kernel
theorem dX11_renew_40 : decode cX11_renew 40 = .ok (.iload_n 2, 1) := by decide +kernel
theorem dX11_renew_41 : decode cX11_renew 41 = .ok (.aaload, 1) := by decide +kernel
theorem dX11_renew_42 : decode cX11_renew 42 = .ok (.astore_n 3, 1) := by decide +kernel
theorem dX11_renew_43 : decode cX11_renew 43 = .ok (.aload_n 0, 1) := by decide +kernel
theorem dX11_renew_44 : decode cX11_renew 44 = .ok (.getfield 10, 3) := by decide +kernel
theorem dX11_renew_47 : decode cX11_renew 47 = .ok (.getfield 200, 3) := by decide +kernel
theorem dX11_renew_50 : decode cX11_renew 50 = .ok (.aload_n 3, 1) := by decide +kernel
theorem dX11_renew_51 : decode cX11_renew 51 = .ok (.getfield 192, 3) := by decide +kernel
theorem dX11_renew_54 : decode cX11_renew 54 = .ok (.aaload, 1) := by decide +kernel
theorem dX11_renew_55 : decode cX11_renew 55 = .ok (.astore 4, 2) := by decide +kernel
theorem dX11_renew_57 : decode cX11_renew 57 = .ok (.aload_n 0, 1) := by decide +kernel
theorem dX11_renew_58 : decode cX11_renew 58 = .ok (.getfield 10, 3) := by decide +kernel
theorem dX11_renew_61 : decode cX11_renew 61 = .ok (.aload 4, 2) := by decide +kernel
theorem dX11_renew_63 : decode cX11_renew 63 = .ok (.invokevirtual 212, 3) := by decide +kernel
theorem dX11_renew_66 : decode cX11_renew 66 = .ok (.istore 5, 2) := by decide +kernel
theorem dX11_renew_68 : decode cX11_renew 68 = .ok (.iload 5, 2) := by decide +kernel
theorem dX11_renew_70 : decode cX11_renew 70 = .ok (.aload_n 0, 1) := by decide +kernel
theorem dX11_renew_71 : decode cX11_renew 71 = .ok (.getfield 10, 3) := by decide +kernel
theorem dX11_renew_74 : decode cX11_renew 74 = .ok (.getfield 73, 3) := by decide +kernel
theorem dX11_renew_77 : decode cX11_renew 77 = .ok (.getfield 225, 3) := by decide +kernel
theorem dX11_renew_80 : decode cX11_renew 80 = .ok (.iconst 1, 1) := by decide +kernel
theorem dX11_renew_81 : decode cX11_renew 81 = .ok (.iaload, 1) := by decide +kernel
theorem dX11_renew_82 : decode cX11_renew 82 = .ok (.iadd, 1) := by decide +kernel
theorem dX11_renew_83 : decode cX11_renew 83 = .ok (.istore 6, 2) := by decide +kernel
theorem dX11_renew_85 : decode cX11_renew 85 = .ok (.aload_n 0, 1) := by decide +kernel
theorem dX11_renew_86 : decode cX11_renew 86 = .ok (.getfield 10, 3) := by decide +kernel
theorem dX11_renew_89 : decode cX11_renew 89 = .ok (.getfield 149, 3) := by decide +kernel
theorem dX11_renew_92 : decode cX11_renew 92 = .ok (.aload_n 3, 1) := by decide +kernel
theorem dX11_renew_93 : decode cX11_renew 93 = .ok (.getfield 197, 3) := by decide +kernel
theorem dX11_renew_96 : decode cX11_renew 96 = .ok (.aaload, 1) := by decide +kernel
theorem dX11_renew_97 : decode cX11_renew 97 = .ok (.astore 7, 2) := by decide +kernel
theorem dX11_renew_99 : decode cX11_renew 99 = .ok (.aload 7, 2) := by decide +kernel
theorem dX11_renew_101 : decode cX11_renew 101 = .ok (.getfield 164, 3) := by decide +kernel
theorem dX11_renew_104 : decode cX11_renew 104 = .ok (.iload 6, 2) := by decide +kernel
theorem dX11_renew_106 : decode cX11_renew 106 = .ok (.if_icmp .ge 6, 3) := by decide +kernel
theorem dX11_renew_109 : decode cX11_renew 109 = .ok (.bipush (-8), 2) := by decide +kernel
theorem dX11_renew_111 : decode cX11_renew 111 = .ok (.ireturn, 1) := by decide +kernel
theorem dX11_renew_112 : decode cX11_renew 112 = .ok (.aload 7, 2) := by decide +kernel
theorem dX11_renew_114 : decode cX11_renew 114 = .ok (.dup, 1) := by decide +kernel
theorem dX11_renew_115 : decode cX11_renew 115 = .ok (.getfield 164, 3) := by decide +kernel
theorem dX11_renew_118 : decode cX11_renew 118 = .ok (.iload 6, 2) := by decide +kernel
theorem dX11_renew_120 : decode cX11_renew 120 = .ok (.isub, 1) := by decide +kernel
theorem dX11_renew_121 : decode cX11_renew 121 = .ok (.putfield 164, 3) := by decide +kernel
theorem dX11_renew_124 : decode cX11_renew 124 = .ok (.aload 4, 2) := by decide +kernel
theorem dX11_renew_126 : decode cX11_renew 126 = .ok (.aload_n 0, 1) := by decide +kernel
theorem dX11_renew_127 : decode cX11_renew 127 = .ok (.getfield 10, 3) := by decide +kernel
theorem dX11_renew_130 : decode cX11_renew 130 = .ok (.getfield 174, 3) := by decide +kernel
theorem dX11_renew_133 : decode cX11_renew 133 = .ok (.putfield 229, 3) := by decide +kernel
theorem dX11_renew_136 : decode cX11_renew 136 = .ok (.aload 4, 2) := by decide +kernel
theorem dX11_renew_138 : decode cX11_renew 138 = .ok (.dup, 1) := by decide +kernel
theorem dX11_renew_139 : decode cX11_renew 139 = .ok (.getfield 232, 3) := by decide +kernel
theorem dX11_renew_142 : decode cX11_renew 142 = .ok (.iconst 1, 1) := by decide +kernel
theorem dX11_renew_143 : decode cX11_renew 143 = .ok (.iadd, 1) := by decide +kernel
theorem dX11_renew_144 : decode cX11_renew 144 = .ok (.putfield 232, 3) := by decide +kernel
theorem dX11_renew_147 : decode cX11_renew 147 = .ok (.aload 4, 2) := by decide +kernel
theorem dX11_renew_149 : decode cX11_renew 149 = .ok (.dup, 1) := by decide +kernel
theorem dX11_renew_150 : decode cX11_renew 150 = .ok (.getfield 235, 3) := by decide +kernel
theorem dX11_renew_153 : decode cX11_renew 153 = .ok (.iload 5, 2) := by decide +kernel
theorem dX11_renew_155 : decode cX11_renew 155 = .ok (.iadd, 1) := by decide +kernel
theorem dX11_renew_156 : decode cX11_renew 156 = .ok (.putfield 235, 3) := by decide +kernel
theorem dX11_renew_159 : decode cX11_renew 159 = .ok (.aload_n 0, 1) := by decide +kernel
theorem dX11_renew_160 : decode cX11_renew 160 = .ok (.getfield 10, 3) := by decide +kernel
theorem dX11_renew_163 : decode cX11_renew 163 = .ok (.iconst 1, 1) := by decide +kernel
theorem dX11_renew_164 : decode cX11_renew 164 = .ok (.iload 5, 2) := by decide +kernel
theorem dX11_renew_166 : decode cX11_renew 166 = .ok (.invokevirtual 215, 3) := by decide +kernel
theorem dX11_renew_169 : decode cX11_renew 169 = .ok (.aload_n 0, 1) := by decide +kernel
theorem dX11_renew_170 : decode cX11_renew 170 = .ok (.getfield 10, 3) := by decide +kernel
theorem dX11_renew_173 : decode cX11_renew 173 = .ok (.iconst 5, 1) := by decide +kernel
theorem dX11_renew_174 : decode cX11_renew 174 = .ok (.iload 5, 2) := by decide +kernel
theorem dX11_renew_176 : decode cX11_renew 176 = .ok (.invokevirtual 215, 3) := by decide +kernel
theorem dX11_renew_179 : decode cX11_renew 179 = .ok (.aload_n 3, 1) := by decide +kernel
theorem dX11_renew_180 : decode cX11_renew 180 = .ok (.iconst 0, 1) := by decide +kernel
theorem dX11_renew_181 : decode cX11_renew 181 = .ok (.putfield 238, 3) := by decide +kernel
theorem dX11_renew_184 : decode cX11_renew 184 = .ok (.aload_n 0, 1) := by decide +kernel
theorem dX11_renew_185 : decode cX11_renew 185 = .ok (.getfield 10, 3) := by decide +kernel
theorem dX11_renew_188 : decode cX11_renew 188 = .ok (.aload_n 3, 1) := by decide +kernel
theorem dX11_renew_189 : decode cX11_renew 189 = .ok (.getfield 192, 3) := by decide +kernel
theorem dX11_renew_192 : decode cX11_renew 192 = .ok (.aload_n 3, 1) := by decide +kernel
theorem dX11_renew_193 : decode cX11_renew 193 = .ok (.getfield 197, 3) := by decide +kernel
theorem dX11_renew_196 : decode cX11_renew 196 = .ok (.invokevirtual 241, 3) := by decide +kernel
theorem dX11_renew_199 : decode cX11_renew 199 = .ok (.ireturn, 1) := by decide +kernel
theorem dX11_swear_0 : decode cX11_swear 0 = .ok (.aload_n 0, 1) := by decide +kernel
theorem dX11_swear_1 : decode cX11_swear 1 = .ok (.getfield 10, 3) := by decide +kernel
theorem dX11_swear_4 : decode cX11_swear 4 = .ok (.iload_n 1, 1) := by decide +kernel
theorem dX11_swear_5 : decode cX11_swear 5 = .ok (.invokevirtual 244, 3) := by decide +kernel
theorem dX11_swear_8 : decode cX11_swear 8 = .ok (.ifCond .ne 6, 3) := by decide +kernel
theorem dX11_swear_11 : decode cX11_swear 11 = .ok (.bipush (-2), 2) := by decide +kernel
theorem dX11_swear_13 : decode cX11_swear 13 = .ok (.ireturn, 1) := by decide +kernel
theorem dX11_swear_14 : decode cX11_swear 14 = .ok (.aload_n 0, 1) := by decide +kernel
theorem dX11_swear_15 : decode cX11_swear 15 = .ok (.getfield 10, 3) := by decide +kernel
theorem dX11_swear_18 : decode cX11_swear 18 = .ok (.getfield 222, 3) := by decide +kernel
theorem dX11_swear_21 : decode cX11_swear 21 = .ok (.sipush 150, 3) := by decide +kernel
theorem dX11_swear_24 : decode cX11_swear 24 = .ok (.if_icmp .lt 6, 3) := by decide +kernel
theorem dX11_swear_27 : decode cX11_swear 27 = .ok (.bipush (-4), 2) := by decide +kernel
theorem dX11_swear_29 : decode cX11_swear 29 = .ok (.ireturn, 1) := by decide +kernel
theorem dX11_swear_30 : decode cX11_swear 30 = .ok (.aload_n 0, 1) := by decide +kernel
theorem dX11_swear_31 : decode cX11_swear 31 = .ok (.getfield 10, 3) := by decide +kernel
theorem dX11_swear_34 : decode cX11_swear 34 = .ok (.getfield 200, 3) := by decide +kernel
theorem dX11_swear_37 : decode cX11_swear 37 = .ok (.iload_n 1, 1) := by decide +kernel
theorem dX11_swear_38 : decode cX11_swear 38 = .ok (.aaload, 1) := by decide +kernel
theorem dX11_swear_39 : decode cX11_swear 39 = .ok (.astore_n 2, 1) := by decide +kernel
theorem dX11_swear_40 : decode cX11_swear 40 = .ok (.aload_n 2, 1) := by decide +kernel
theorem dX11_swear_41 : decode cX11_swear 41 = .ok (.getfield 247, 3) := by decide +kernel
theorem dX11_swear_44 : decode cX11_swear 44 = .ok (.ifCond .eq 6, 3) := by decide +kernel
theorem dX11_swear_47 : decode cX11_swear 47 = .ok (.bipush (-5), 2) := by decide +kernel
theorem dX11_swear_49 : decode cX11_swear 49 = .ok (.ireturn, 1) := by decide +kernel
theorem dX11_swear_50 : decode cX11_swear 50 = .ok (.aload_n 0, 1) := by decide +kernel
theorem dX11_swear_51 : decode cX11_swear 51 = .ok (.getfield 10, 3) := by decide +kernel
theorem dX11_swear_54 : decode cX11_swear 54 = .ok (.getfield 149, 3) := by decide +kernel
theorem dX11_swear_57 : decode cX11_swear 57 = .ok (.aload_n 2, 1) := by decide +kernel
theorem dX11_swear_58 : decode cX11_swear 58 = .ok (.getfield 250, 3) := by decide +kernel
theorem dX11_swear_61 : decode cX11_swear 61 = .ok (.aaload, 1) := by decide +kernel
theorem dX11_swear_62 : decode cX11_swear 62 = .ok (.astore_n 3, 1) := by decide +kernel
theorem dX11_swear_63 : decode cX11_swear 63 = .ok (.aload_n 0, 1) := by decide +kernel
theorem dX11_swear_64 : decode cX11_swear 64 = .ok (.getfield 10, 3) := by decide +kernel
theorem dX11_swear_67 : decode cX11_swear 67 = .ok (.getfield 73, 3) := by decide +kernel
theorem dX11_swear_70 : decode cX11_swear 70 = .ok (.getfield 225, 3) := by decide +kernel
theorem dX11_swear_73 : decode cX11_swear 73 = .ok (.iconst 2, 1) := by decide +kernel
theorem dX11_swear_74 : decode cX11_swear 74 = .ok (.iaload, 1) := by decide +kernel
theorem dX11_swear_75 : decode cX11_swear 75 = .ok (.istore 4, 2) := by decide +kernel
theorem dX11_swear_77 : decode cX11_swear 77 = .ok (.aload_n 3, 1) := by decide +kernel
theorem dX11_swear_78 : decode cX11_swear 78 = .ok (.getfield 164, 3) := by decide +kernel
theorem dX11_swear_81 : decode cX11_swear 81 = .ok (.iload 4, 2) := by decide +kernel
theorem dX11_swear_83 : decode cX11_swear 83 = .ok (.if_icmp .ge 6, 3) := by decide +kernel
theorem dX11_swear_86 : decode cX11_swear 86 = .ok (.bipush (-8), 2) := by decide +kernel
theorem dX11_swear_88 : decode cX11_swear 88 = .ok (.ireturn, 1) := by decide +kernel
theorem dX11_swear_89 : decode cX11_swear 89 = .ok (.aload_n 3, 1) := by decide +kernel
theorem dX11_swear_90 : decode cX11_swear 90 = .ok (.dup, 1) := by decide +kernel
theorem dX11_swear_91 : decode cX11_swear 91 = .ok (.getfield 164, 3) := by decide +kernel
theorem dX11_swear_94 : decode cX11_swear 94 = .ok (.iload 4, 2) := by decide +kernel
theorem dX11_swear_96 : decode cX11_swear 96 = .ok (.isub, 1) := by decide +kernel
theorem dX11_swear_97 : decode cX11_swear 97 = .ok (.putfield 164, 3) := by decide +kernel
theorem dX11_swear_100 : decode cX11_swear 100 = .ok (.aload_n 0, 1) := by decide +kernel
theorem dX11_swear_101 : decode cX11_swear 101 = .ok (.getfield 10, 3) := by decide +kernel
theorem dX11_swear_104 : decode cX11_swear 104 = .ok (.iload_n 1, 1) := by decide +kernel
theorem dX11_swear_105 : decode cX11_swear 105 = .ok (.invokevirtual 253, 3) := by decide +kernel
theorem dX11_swear_108 : decode cX11_swear 108 = .ok (.aload_n 0, 1) := by decide +kernel
theorem dX11_swear_109 : decode cX11_swear 109 = .ok (.getfield 10, 3) := by decide +kernel
theorem dX11_swear_112 : decode cX11_swear 112 = .ok (.iload_n 1, 1) := by decide +kernel
theorem dX11_swear_113 : decode cX11_swear 113 = .ok (.aload_n 2, 1) := by decide +kernel
theorem dX11_swear_114 : decode cX11_swear 114 = .ok (.getfield 250, 3) := by decide +kernel
theorem dX11_swear_117 : decode cX11_swear 117 = .ok (.invokevirtual 241, 3) := by decide +kernel
theorem dX11_swear_120 : decode cX11_swear 120 = .ok (.ireturn, 1) := by decide +kernel
theorem dX11_sell_0 : decode cX11_sell 0 = .ok (.aload_n 0, 1) := by decide +kernel
theorem dX11_sell_1 : decode cX11_sell 1 = .ok (.getfield 10, 3) := by decide +kernel
theorem dX11_sell_4 : decode cX11_sell 4 = .ok (.iload_n 1, 1) := by decide +kernel
theorem dX11_sell_5 : decode cX11_sell 5 = .ok (.invokevirtual 185, 3) := by decide +kernel
theorem dX11_sell_8 : decode cX11_sell 8 = .ok (.istore 4, 2) := by decide +kernel
theorem dX11_sell_10 : decode cX11_sell 10 = .ok (.iload 4, 2) := by decide +kernel
theorem dX11_sell_12 : decode cX11_sell 12 = .ok (.iconst (-1), 1) := by decide +kernel
theorem dX11_sell_13 : decode cX11_sell 13 = .ok (.if_icmp .eq 14, 3) := by decide +kernel
theorem dX11_sell_16 : decode cX11_sell 16 = .ok (.aload_n 0, 1) := by decide +kernel
theorem dX11_sell_17 : decode cX11_sell 17 = .ok (.getfield 10, 3) := by decide +kernel
theorem dX11_sell_20 : decode cX11_sell 20 = .ok (.iload_n 2, 1) := by decide +kernel
theorem dX11_sell_21 : decode cX11_sell 21 = .ok (.invokevirtual 170, 3) := by decide +kernel
theorem dX11_sell_24 : decode cX11_sell 24 = .ok (.ifCond .ne 6, 3) := by decide +kernel
theorem dX11_sell_27 : decode cX11_sell 27 = .ok (.bipush (-2), 2) := by decide +kernel
theorem dX11_sell_29 : decode cX11_sell 29 = .ok (.ireturn, 1) := by decide +kernel
theorem dX11_sell_30 : decode cX11_sell 30 = .ok (.aload_n 0, 1) := by decide +kernel
theorem dX11_sell_31 : decode cX11_sell 31 = .ok (.getfield 10, 3) := by decide +kernel
theorem dX11_sell_34 : decode cX11_sell 34 = .ok (.getfield 188, 3) := by decide +kernel
theorem dX11_sell_37 : decode cX11_sell 37 = .ok (.iload 4, 2) := by decide +kernel
theorem dX11_sell_39 : decode cX11_sell 39 = .ok (.aaload, 1) := by decide +kernel
theorem dX11_sell_40 : decode cX11_sell 40 = .ok (.astore 5, 2) := by decide +kernel
theorem dX11_sell_42 : decode cX11_sell 42 = .ok (.iload_n 3, 1) := by decide +kernel
theorem dX11_sell_43 : decode cX11_sell 43 = .ok (.iconst 0, 1) := by decide +kernel
theorem dX11_sell_44 : decode cX11_sell 44 = .ok (.sipush 999, 3) := by decide +kernel
theorem dX11_sell_47 : decode cX11_sell 47 = .ok (.invokestatic 59, 3) := by decide +kernel
theorem dX11_sell_50 : decode cX11_sell 50 = .ok (.ifCond .eq 12, 3) := by decide +kernel
theorem dX11_sell_53 : decode cX11_sell 53 = .ok (.aload 5, 2) := by decide +kernel
theorem dX11_sell_55 : decode cX11_sell 55 = .ok (.getfield 197, 3) := by decide +kernel
theorem dX11_sell_58 : decode cX11_sell 58 = .ok (.iload_n 2, 1) := by decide +kernel
theorem dX11_sell_59 : decode cX11_sell 59 = .ok (.if_icmp .ne 6, 3) := by decide +kernel
theorem dX11_sell_62 : decode cX11_sell 62 = .ok (.bipush (-3), 2) := by decide +kernel
theorem dX11_sell_64 : decode cX11_sell 64 = .ok (.ireturn, 1) := by decide +kernel
theorem dX11_sell_65 : decode cX11_sell 65 = .ok (.aload_n 0, 1) := by decide +kernel
theorem dX11_sell_66 : decode cX11_sell 66 = .ok (.getfield 10, 3) := by decide +kernel
theorem dX11_sell_69 : decode cX11_sell 69 = .ok (.getfield 149, 3) := by decide +kernel
theorem dX11_sell_72 : decode cX11_sell 72 = .ok (.iload_n 2, 1) := by decide +kernel
theorem dX11_sell_73 : decode cX11_sell 73 = .ok (.aaload, 1) := by decide +kernel
theorem dX11_sell_74 : decode cX11_sell 74 = .ok (.astore 6, 2) := by decide +kernel
theorem dX11_sell_76 : decode cX11_sell 76 = .ok (.aload 6, 2) := by decide +kernel
theorem dX11_sell_78 : decode cX11_sell 78 = .ok (.getfield 164, 3) := by decide +kernel
theorem dX11_sell_81 : decode cX11_sell 81 = .ok (.iconst 2, 1) := by decide +kernel
theorem dX11_sell_82 : decode cX11_sell 82 = .ok (.iload_n 3, 1) := by decide +kernel
theorem dX11_sell_83 : decode cX11_sell 83 = .ok (.imul, 1) := by decide +kernel
theorem dX11_sell_84 : decode cX11_sell 84 = .ok (.if_icmp .ge 6, 3) := by decide +kernel
theorem dX11_sell_87 : decode cX11_sell 87 = .ok (.bipush (-8), 2) := by decide +kernel
theorem dX11_sell_89 : decode cX11_sell 89 = .ok (.ireturn, 1) := by decide +kernel
theorem dX11_sell_90 : decode cX11_sell 90 = .ok (.aload 6, 2) := by decide +kernel
theorem dX11_sell_92 : decode cX11_sell 92 = .ok (.dup, 1) := by decide +kernel
theorem dX11_sell_93 : decode cX11_sell 93 = .ok (.getfield 164, 3) := by decide +kernel
theorem dX11_sell_96 : decode cX11_sell 96 = .ok (.iconst 2, 1) := by decide +kernel
theorem dX11_sell_97 : decode cX11_sell 97 = .ok (.iload_n 3, 1) := by decide +kernel
theorem dX11_sell_98 : decode cX11_sell 98 = .ok (.imul, 1) := by decide +kernel
theorem dX11_sell_99 : decode cX11_sell 99 = .ok (.isub, 1) := by decide +kernel
theorem dX11_sell_100 : decode cX11_sell 100 = .ok (.putfield 164, 3) := by decide +kernel
theorem dX11_sell_103 : decode cX11_sell 103 = .ok (.aload_n 0, 1) := by decide +kernel
theorem dX11_sell_104 : decode cX11_sell 104 = .ok (.getfield 10, 3) := by decide +kernel
theorem dX11_sell_107 : decode cX11_sell 107 = .ok (.getfield 149, 3) := by decide +kernel
theorem dX11_sell_110 : decode cX11_sell 110 = .ok (.aload 5, 2) := by decide +kernel
theorem dX11_sell_112 : decode cX11_sell 112 = .ok (.getfield 197, 3) := by decide +kernel
theorem dX11_sell_115 : decode cX11_sell 115 = .ok (.aaload, 1) := by decide +kernel
theorem dX11_sell_116 : decode cX11_sell 116 = .ok (.dup, 1) := by decide +kernel
theorem dX11_sell_117 : decode cX11_sell 117 = .ok (.getfield 164, 3) := by decide +kernel
theorem dX11_sell_120 : decode cX11_sell 120 = .ok (.iconst 2, 1) := by decide +kernel
theorem dX11_sell_121 : decode cX11_sell 121 = .ok (.iload_n 3, 1) := by decide +kernel
theorem dX11_sell_122 : decode cX11_sell 122 = .ok (.imul, 1) := by decide +kernel
theorem dX11_sell_123 : decode cX11_sell 123 = .ok (.iadd, 1) := by decide +kernel
theorem dX11_sell_124 : decode cX11_sell 124 = .ok (.putfield 164, 3) := by decide +kernel
theorem dX11_sell_127 : decode cX11_sell 127 = .ok (.aload 5, 2) := by decide +kernel
theorem dX11_sell_129 : decode cX11_sell 129 = .ok (.iload_n 2, 1) := by decide +kernel
theorem dX11_sell_130 : decode cX11_sell 130 = .ok (.putfield 197, 3) := by decide +kernel
theorem dX11_sell_133 : decode cX11_sell 133 = .ok (.iconst 0, 1) := by decide +kernel
theorem dX11_sell_134 : decode cX11_sell 134 = .ok (.ireturn, 1) := by decide +kernel
theorem dX11_of_0 : decode cX11_of 0 = .ok (.aload_n 0, 1) := by decide +kernel
theorem dX11_of_1 : decode cX11_of 1 = .ok (.getfield 10, 3) := by decide +kernel
theorem dX11_of_4 : decode cX11_of 4 = .ok (.iload_n 1, 1) := by decide +kernel
theorem dX11_of_5 : decode cX11_of 5 = .ok (.invokevirtual 244, 3) := by decide +kernel
theorem dX11_of_8 : decode cX11_of 8 = .ok (.ifCond .ne 7, 3) := by decide +kernel
theorem dX11_of_11 : decode cX11_of 11 = .ok (.sipush (-1000), 3) := by decide +kernel
theorem dX11_of_14 : decode cX11_of 14 = .ok (.ireturn, 1) := by decide +kernel
theorem dX11_of_15 : decode cX11_of 15 = .ok (.aload_n 0, 1) := by decide +kernel
theorem dX11_of_16 : decode cX11_of 16 = .ok (.getfield 10, 3) := by decide +kernel
theorem dX11_of_19 : decode cX11_of 19 = .ok (.getfield 200, 3) := by decide +kernel
theorem dX11_of_22 : decode cX11_of 22 = .ok (.iload_n 1, 1) := by decide +kernel
theorem dX11_of_23 : decode cX11_of 23 = .ok (.aaload, 1) := by decide +kernel
theorem dX11_of_24 : decode cX11_of 24 = .ok (.astore_n 3, 1) := by decide +kernel
theorem dX11_of_25 : decode cX11_of 25 = .ok (.iload_n 2, 1) := by decide +kernel
theorem dX11_of_26 : decode cX11_of 26 = .ok (.tableswitch 115 0 8 #[50, 55, 60, 65, 70, 75, 80, 97, 106], 50) := by decide +kernel
theorem dX11_of_76 : decode cX11_of 76 = .ok (.aload_n 3, 1) := by decide +kernel
theorem dX11_of_77 : decode cX11_of 77 = .ok (.getfield 256, 3) := by decide +kernel
theorem dX11_of_80 : decode cX11_of 80 = .ok (.ireturn, 1) := by decide +kernel
theorem dX11_of_81 : decode cX11_of 81 = .ok (.aload_n 3, 1) := by decide +kernel
theorem dX11_of_82 : decode cX11_of 82 = .ok (.getfield 250, 3) := by decide +kernel
theorem dX11_of_85 : decode cX11_of 85 = .ok (.ireturn, 1) := by decide +kernel
theorem dX11_of_86 : decode cX11_of 86 = .ok (.aload_n 3, 1) := by decide +kernel
theorem dX11_of_87 : decode cX11_of 87 = .ok (.getfield 259, 3) := by decide +kernel
theorem dX11_of_90 : decode cX11_of 90 = .ok (.ireturn, 1) := by decide +kernel
theorem dX11_of_91 : decode cX11_of 91 = .ok (.aload_n 3, 1) := by decide +kernel
theorem dX11_of_92 : decode cX11_of 92 = .ok (.getfield 229, 3) := by decide +kernel
theorem dX11_of_95 : decode cX11_of 95 = .ok (.ireturn, 1) := by decide +kernel
theorem dX11_of_96 : decode cX11_of 96 = .ok (.aload_n 3, 1) := by decide +kernel
theorem dX11_of_97 : decode cX11_of 97 = .ok (.getfield 262, 3) := by decide +kernel
theorem dX11_of_100 : decode cX11_of 100 = .ok (.ireturn, 1) := by decide +kernel
theorem dX11_of_101 : decode cX11_of 101 = .ok (.aload_n 3, 1) := by decide +kernel
theorem dX11_of_102 : decode cX11_of 102 = .ok (.getfield 247, 3) := by decide +kernel
theorem dX11_of_105 : decode cX11_of 105 = .ok (.ireturn, 1) := by decide +kernel
theorem dX11_of_106 : decode cX11_of 106 = .ok (.aload_n 0, 1) := by decide +kernel
theorem dX11_of_107 : decode cX11_of 107 = .ok (.getfield 10, 3) := by decide +kernel
theorem dX11_of_110 : decode cX11_of 110 = .ok (.aload_n 3, 1) := by decide +kernel
theorem dX11_of_111 : decode cX11_of 111 = .ok (.invokevirtual 208, 3) := by decide +kernel
theorem dX11_of_114 : decode cX11_of 114 = .ok (.ifCond .eq 7, 3) := by decide +kernel
theorem dX11_of_117 : decode cX11_of 117 = .ok (.iconst 1, 1) := by decide +kernel
theorem dX11_of_118 : decode cX11_of 118 = .ok (.goto 4, 3) := by decide +kernel
theorem dX11_of_121 : decode cX11_of 121 = .ok (.iconst 0, 1) := by decide +kernel
theorem dX11_of_122 : decode cX11_of 122 = .ok (.ireturn, 1) := by decide +kernel
theorem dX11_of_123 : decode cX11_of 123 = .ok (.aload_n 0, 1) := by decide +kernel
theorem dX11_of_124 : decode cX11_of 124 = .ok (.getfield 10, 3) := by decide +kernel
theorem dX11_of_127 : decode cX11_of 127 = .ok (.aload_n 3, 1) := by decide +kernel
theorem dX11_of_128 : decode cX11_of 128 = .ok (.invokevirtual 265, 3) := by decide +kernel
theorem dX11_of_131 : decode cX11_of 131 = .ok (.ireturn, 1) := by decide +kernel
theorem dX11_of_132 : decode cX11_of 132 = .ok (.aload_n 0, 1) := by decide +kernel
theorem dX11_of_133 : decode cX11_of 133 = .ok (.getfield 10, 3) := by decide +kernel
theorem dX11_of_136 : decode cX11_of 136 = .ok (.aload_n 3, 1) := by decide +kernel
theorem dX11_of_137 : decode cX11_of 137 = .ok (.invokevirtual 268, 3) := by decide +kernel
theorem dX11_of_140 : decode cX11_of 140 = .ok (.ireturn, 1) := by decide +kernel
theorem dX11_of_141 : decode cX11_of 141 = .ok (.sipush (-1000), 3) := by decide +kernel
theorem dX11_of_144 : decode cX11_of 144 = .ok (.ireturn, 1) := by decide +kernel
theorem dX11_passed_0 : decode cX11_passed 0 = .ok (.iconst 0, 1) := by decide +kernel
theorem dX11_passed_1 : decode cX11_passed 1 = .ok (.istore_n 2, 1) := by decide +kernel
theorem dX11_passed_2 : decode cX11_passed 2 = .ok (.iconst 0, 1) := by decide +kernel
theorem dX11_passed_3 : decode cX11_passed 3 = .ok (.istore_n 3, 1) := by decide +kernel
theorem dX11_passed_4 : decode cX11_passed 4 = .ok (.iload_n 3, 1) := by decide +kernel
theorem dX11_passed_5 : decode cX11_passed 5 = .ok (.aload_n 0, 1) := by decide +kernel
theorem dX11_passed_6 : decode cX11_passed 6 = .ok (.getfield 10, 3) := by decide +kernel
theorem dX11_passed_9 : decode cX11_passed 9 = .ok (.getfield 271, 3) := by decide +kernel
theorem dX11_passed_12 : decode cX11_passed 12 = .ok (.if_icmp .ge 30, 3) := by decide +kernel
theorem dX11_passed_15 : decode cX11_passed 15 = .ok (.aload_n 0, 1) := by decide +kernel
theorem dX11_passed_16 : decode cX11_passed 16 = .ok (.getfield 10, 3) := by decide +kernel
theorem dX11_passed_19 : decode cX11_passed 19 = .ok (.iload_n 3, 1) := by decide +kernel
theorem dX11_passed_20 : decode cX11_passed 20 = .ok (.invokevirtual 274, 3) := by decide +kernel
theorem dX11_passed_23 : decode cX11_passed 23 = .ok (.ifCond .eq 13, 3) := by decide +kernel
theorem dX11_passed_26 : decode cX11_passed 26 = .ok (.iload_n 2, 1) := by decide +kernel
theorem dX11_passed_27 : decode cX11_passed 27 = .ok (.iload_n 1, 1) := by decide +kernel
theorem dX11_passed_28 : decode cX11_passed 28 = .ok (.if_icmp .ne 5, 3) := by decide +kernel
theorem dX11_passed_31 : decode cX11_passed 31 = .ok (.iload_n 3, 1) := by decide +kernel
theorem dX11_passed_32 : decode cX11_passed 32 = .ok (.ireturn, 1) := by decide +kernel
theorem dX11_passed_33 : decode cX11_passed 33 = .ok (.iinc 2 1, 3) := by decide +kernel
theorem dX11_passed_36 : decode cX11_passed 36 = .ok (.iinc 3 1, 3) := by decide +kernel
theorem dX11_passed_39 : decode cX11_passed 39 = .ok (.goto (-35), 3) := by decide +kernel
theorem dX11_passed_42 : decode cX11_passed 42 = .ok (.iload_n 1, 1) := by decide +kernel
theorem dX11_passed_43 : decode cX11_passed 43 = .ok (.iconst (-1), 1) := by decide +kernel
theorem dX11_passed_44 : decode cX11_passed 44 = .ok (.if_icmp .ne 7, 3) := by decide +kernel
theorem dX11_passed_47 : decode cX11_passed 47 = .ok (.iload_n 2, 1) := by decide +kernel
theorem dX11_passed_48 : decode cX11_passed 48 = .ok (.goto 4, 3) := by decide +kernel
theorem dX11_passed_51 : decode cX11_passed 51 = .ok (.iconst (-1), 1) := by decide +kernel
theorem dX11_passed_52 : decode cX11_passed 52 = .ok (.ireturn, 1) := by decide +kernel
theorem dX11_sale_0 : decode cX11_sale 0 = .ok (.aload_n 0, 1) := by decide +kernel
theorem dX11_sale_1 : decode cX11_sale 1 = .ok (.getfield 10, 3) := by decide +kernel
theorem dX11_sale_4 : decode cX11_sale 4 = .ok (.iload_n 1, 1) := by decide +kernel
theorem dX11_sale_5 : decode cX11_sale 5 = .ok (.invokevirtual 274, 3) := by decide +kernel
theorem dX11_sale_8 : decode cX11_sale 8 = .ok (.ifCond .eq 33, 3) := by decide +kernel
theorem dX11_sale_11 : decode cX11_sale 11 = .ok (.aload_n 0, 1) := by decide +kernel
theorem dX11_sale_12 : decode cX11_sale 12 = .ok (.getfield 10, 3) := by decide +kernel
theorem dX11_sale_15 : decode cX11_sale 15 = .ok (.aload_n 0, 1) := by decide +kernel
theorem dX11_sale_16 : decode cX11_sale 16 = .ok (.getfield 10, 3) := by decide +kernel
theorem dX11_sale_19 : decode cX11_sale 19 = .ok (.getfield 200, 3) := by decide +kernel
theorem dX11_sale_22 : decode cX11_sale 22 = .ok (.iload_n 1, 1) := by decide +kernel
theorem dX11_sale_23 : decode cX11_sale 23 = .ok (.aaload, 1) := by decide +kernel
theorem dX11_sale_24 : decode cX11_sale 24 = .ok (.invokevirtual 208, 3) := by decide +kernel
theorem dX11_sale_27 : decode cX11_sale 27 = .ok (.ifCond .ne 14, 3) := by decide +kernel
theorem dX11_sale_30 : decode cX11_sale 30 = .ok (.iload_n 2, 1) := by decide +kernel
theorem dX11_sale_31 : decode cX11_sale 31 = .ok (.iconst 0, 1) := by decide +kernel
theorem dX11_sale_32 : decode cX11_sale 32 = .ok (.sipush 9999, 3) := by decide +kernel
theorem dX11_sale_35 : decode cX11_sale 35 = .ok (.invokestatic 59, 3) := by decide +kernel
theorem dX11_sale_38 : decode cX11_sale 38 = .ok (.ifCond .ne 6, 3) := by decide +kernel
theorem dX11_sale_41 : decode cX11_sale 41 = .ok (.ldc 173, 2) := by decide +kernel
theorem dX11_sale_43 : decode cX11_sale 43 = .ok (.ireturn, 1) := by decide +kernel
theorem dX11_sale_44 : decode cX11_sale 44 = .ok (.aload_n 0, 1) := by decide +kernel
theorem dX11_sale_45 : decode cX11_sale 45 = .ok (.getfield 10, 3) := by decide +kernel
theorem dX11_sale_48 : decode cX11_sale 48 = .ok (.getfield 200, 3) := by decide +kernel
theorem dX11_sale_51 : decode cX11_sale 51 = .ok (.iload_n 1, 1) := by decide +kernel
theorem dX11_sale_52 : decode cX11_sale 52 = .ok (.aaload, 1) := by decide +kernel
theorem dX11_sale_53 : decode cX11_sale 53 = .ok (.astore_n 3, 1) := by decide +kernel
theorem dX11_sale_54 : decode cX11_sale 54 = .ok (.aload_n 0, 1) := by decide +kernel
theorem dX11_sale_55 : decode cX11_sale 55 = .ok (.getfield 10, 3) := by decide +kernel
theorem dX11_sale_58 : decode cX11_sale 58 = .ok (.aload_n 3, 1) := by decide +kernel
theorem dX11_sale_59 : decode cX11_sale 59 = .ok (.invokevirtual 204, 3) := by decide +kernel
theorem dX11_sale_62 : decode cX11_sale 62 = .ok (.istore 4, 2) := by decide +kernel
theorem dX11_sale_64 : decode cX11_sale 64 = .ok (.iconst 2, 1) := by decide +kernel
theorem dX11_sale_65 : decode cX11_sale 65 = .ok (.iload_n 2, 1) := by decide +kernel
theorem dX11_sale_66 : decode cX11_sale 66 = .ok (.imul, 1) := by decide +kernel
theorem dX11_sale_67 : decode cX11_sale 67 = .ok (.iconst 2, 1) := by decide +kernel
theorem dX11_sale_68 : decode cX11_sale 68 = .ok (.aload_n 3, 1) := by decide +kernel
theorem dX11_sale_69 : decode cX11_sale 69 = .ok (.getfield 259, 3) := by decide +kernel
theorem dX11_sale_72 : decode cX11_sale 72 = .ok (.imul, 1) := by decide +kernel
theorem dX11_sale_73 : decode cX11_sale 73 = .ok (.isub, 1) := by decide +kernel
theorem dX11_sale_74 : decode cX11_sale 74 = .ok (.iconst 0, 1) := by decide +kernel
theorem dX11_sale_75 : decode cX11_sale 75 = .ok (.invokestatic 277, 3) := by decide +kernel
theorem dX11_sale_78 : decode cX11_sale 78 = .ok (.istore 5, 2) := by decide +kernel
theorem dX11_sale_80 : decode cX11_sale 80 = .ok (.aload_n 0, 1) := by decide +kernel
theorem dX11_sale_81 : decode cX11_sale 81 = .ok (.getfield 10, 3) := by decide +kernel
theorem dX11_sale_84 : decode cX11_sale 84 = .ok (.iconst 1, 1) := by decide +kernel
theorem dX11_sale_85 : decode cX11_sale 85 = .ok (.iload 5, 2) := by decide +kernel
theorem dX11_sale_87 : decode cX11_sale 87 = .ok (.aload_n 0, 1) := by decide +kernel
theorem dX11_sale_88 : decode cX11_sale 88 = .ok (.getfield 10, 3) := by decide +kernel
theorem dX11_sale_91 : decode cX11_sale 91 = .ok (.aload_n 3, 1) := by decide +kernel
theorem dX11_sale_92 : decode cX11_sale 92 = .ok (.invokevirtual 212, 3) := by decide +kernel
theorem dX11_sale_95 : decode cX11_sale 95 = .ok (.invokestatic 282, 3) := by decide +kernel
theorem dX11_sale_98 : decode cX11_sale 98 = .ok (.invokevirtual 215, 3) := by decide +kernel
theorem dX11_sale_101 : decode cX11_sale 101 = .ok (.aload_n 0, 1) := by decide +kernel
theorem dX11_sale_102 : decode cX11_sale 102 = .ok (.getfield 10, 3) := by decide +kernel
theorem dX11_sale_105 : decode cX11_sale 105 = .ok (.iconst 4, 1) := by decide +kernel
theorem dX11_sale_106 : decode cX11_sale 106 = .ok (.iconst 1, 1) := by decide +kernel
theorem dX11_sale_107 : decode cX11_sale 107 = .ok (.invokevirtual 215, 3) := by decide +kernel
theorem dX11_sale_110 : decode cX11_sale 110 = .ok (.aload_n 0, 1) := by decide +kernel
theorem dX11_sale_111 : decode cX11_sale 111 = .ok (.getfield 10, 3) := by decide +kernel
theorem dX11_sale_114 : decode cX11_sale 114 = .ok (.iconst 5, 1) := by decide +kernel
theorem dX11_sale_115 : decode cX11_sale 115 = .ok (.iconst 2, 1) := by decide +kernel
theorem dX11_sale_116 : decode cX11_sale 116 = .ok (.iload_n 2, 1) := by decide +kernel
theorem dX11_sale_117 : decode cX11_sale 117 = .ok (.imul, 1) := by decide +kernel
theorem dX11_sale_118 : decode cX11_sale 118 = .ok (.iload 4, 2) := by decide +kernel
theorem dX11_sale_120 : decode cX11_sale 120 = .ok (.invokestatic 282, 3) := by decide +kernel
theorem dX11_sale_123 : decode cX11_sale 123 = .ok (.invokevirtual 215, 3) := by decide +kernel
theorem dX11_sale_126 : decode cX11_sale 126 = .ok (.aload_n 3, 1) := by decide +kernel
theorem dX11_sale_127 : decode cX11_sale 127 = .ok (.iconst 2, 1) := by decide +kernel
theorem dX11_sale_128 : decode cX11_sale 128 = .ok (.iload_n 2, 1) := by decide +kernel
theorem dX11_sale_129 : decode cX11_sale 129 = .ok (.imul, 1) := by decide +kernel
theorem dX11_sale_130 : decode cX11_sale 130 = .ok (.iload 4, 2) := by decide +kernel
theorem dX11_sale_132 : decode cX11_sale 132 = .ok (.isub, 1) := by decide +kernel
theorem dX11_sale_133 : decode cX11_sale 133 = .ok (.iconst 0, 1) := by decide +kernel
theorem dX11_sale_134 : decode cX11_sale 134 = .ok (.invokestatic 277, 3) := by decide +kernel
theorem dX11_sale_137 : decode cX11_sale 137 = .ok (.putfield 285, 3) := by decide +kernel
theorem dX11_sale_140 : decode cX11_sale 140 = .ok (.aload_n 3, 1) := by decide +kernel
theorem dX11_sale_141 : decode cX11_sale 141 = .ok (.aload_n 0, 1) := by decide +kernel
theorem dX11_sale_142 : decode cX11_sale 142 = .ok (.getfield 10, 3) := by decide +kernel
theorem dX11_sale_145 : decode cX11_sale 145 = .ok (.getfield 174, 3) := by decide +kernel
theorem dX11_sale_148 : decode cX11_sale 148 = .ok (.putfield 288, 3) := by decide +kernel
theorem dX11_sale_151 : decode cX11_sale 151 = .ok (.aload_n 0, 1) := by decide +kernel
theorem dX11_sale_152 : decode cX11_sale 152 = .ok (.getfield 10, 3) := by decide +kernel
theorem dX11_sale_155 : decode cX11_sale 155 = .ok (.iload_n 1, 1) := by decide +kernel
theorem dX11_sale_156 : decode cX11_sale 156 = .ok (.iconst 2, 1) := by decide +kernel
theorem dX11_sale_157 : decode cX11_sale 157 = .ok (.invokevirtual 219, 3) := by decide +kernel
theorem dX11_sale_160 : decode cX11_sale 160 = .ok (.iconst 2, 1) := by decide +kernel
theorem dX11_sale_161 : decode cX11_sale 161 = .ok (.iload_n 2, 1) := by decide +kernel
theorem dX11_sale_162 : decode cX11_sale 162 = .ok (.imul, 1) := by decide +kernel
theorem dX11_sale_163 : decode cX11_sale 163 = .ok (.iload 4, 2) := by decide +kernel
theorem dX11_sale_165 : decode cX11_sale 165 = .ok (.isub, 1) := by decide +kernel
theorem dX11_sale_166 : decode cX11_sale 166 = .ok (.ireturn, 1) := by decide +kernel
theorem dX11_over_0 : decode cX11_over 0 = .ok (.aload_n 0, 1) := by decide +kernel
theorem dX11_over_1 : decode cX11_over 1 = .ok (.getfield 10, 3) := by decide +kernel
theorem dX11_over_4 : decode cX11_over 4 = .ok (.iload_n 1, 1) := by decide +kernel
theorem dX11_over_5 : decode cX11_over 5 = .ok (.invokevirtual 244, 3) := by decide +kernel
theorem dX11_over_8 : decode cX11_over 8 = .ok (.ifCond .ne 6, 3) := by decide +kernel
theorem dX11_over_11 : decode cX11_over 11 = .ok (.bipush (-2), 2) := by decide +kernel
theorem dX11_over_13 : decode cX11_over 13 = .ok (.ireturn, 1) := by decide +kernel
theorem dX11_over_14 : decode cX11_over 14 = .ok (.aload_n 0, 1) := by decide +kernel
theorem dX11_over_15 : decode cX11_over 15 = .ok (.getfield 10, 3) := by decide +kernel
theorem dX11_over_18 : decode cX11_over 18 = .ok (.getfield 200, 3) := by decide +kernel
theorem dX11_over_21 : decode cX11_over 21 = .ok (.iload_n 1, 1) := by decide +kernel
theorem dX11_over_22 : decode cX11_over 22 = .ok (.aaload, 1) := by decide +kernel
theorem dX11_over_23 : decode cX11_over 23 = .ok (.astore_n 2, 1) := by decide +kernel
theorem dX11_over_24 : decode cX11_over 24 = .ok (.aload_n 2, 1) := by decide +kernel
theorem dX11_over_25 : decode cX11_over 25 = .ok (.getfield 247, 3) := by decide +kernel
theorem dX11_over_28 : decode cX11_over 28 = .ok (.iconst 2, 1) := by decide +kernel
theorem dX11_over_29 : decode cX11_over 29 = .ok (.if_icmp .ne 20, 3) := by decide +kernel
theorem dX11_over_32 : decode cX11_over 32 = .ok (.aload_n 0, 1) := by decide +kernel
theorem dX11_over_33 : decode cX11_over 33 = .ok (.getfield 10, 3) := by decide +kernel
theorem dX11_over_36 : decode cX11_over 36 = .ok (.getfield 174, 3) := by decide +kernel
theorem dX11_over_39 : decode cX11_over 39 = .ok (.aload_n 2, 1) := by decide +kernel
theorem dX11_over_40 : decode cX11_over 40 = .ok (.getfield 288, 3) := by decide +kernel
theorem dX11_over_43 : decode cX11_over 43 = .ok (.isub, 1) := by decide +kernel
theorem dX11_over_44 : decode cX11_over 44 = .ok (.bipush 52, 2) := by decide +kernel
theorem dX11_over_46 : decode cX11_over 46 = .ok (.if_icmp .lt 6, 3) := by decide +kernel
theorem dX11_over_49 : decode cX11_over 49 = .ok (.bipush (-5), 2) := by decide +kernel
theorem dX11_over_51 : decode cX11_over 51 = .ok (.ireturn, 1) := by decide +kernel
theorem dX11_over_52 : decode cX11_over 52 = .ok (.aload_n 2, 1) := by decide +kernel
theorem dX11_over_53 : decode cX11_over 53 = .ok (.getfield 285, 3) := by decide +kernel
theorem dX11_over_56 : decode cX11_over 56 = .ok (.istore_n 3, 1) := by decide +kernel
theorem dX11_over_57 : decode cX11_over 57 = .ok (.aload_n 2, 1) := by decide +kernel
theorem dX11_over_58 : decode cX11_over 58 = .ok (.iconst 0, 1) := by decide +kernel
theorem dX11_over_59 : decode cX11_over 59 = .ok (.putfield 285, 3) := by decide +kernel
theorem dX11_over_62 : decode cX11_over 62 = .ok (.aload_n 0, 1) := by decide +kernel
theorem dX11_over_63 : decode cX11_over 63 = .ok (.getfield 10, 3) := by decide +kernel
theorem dX11_over_66 : decode cX11_over 66 = .ok (.getfield 149, 3) := by decide +kernel
theorem dX11_over_69 : decode cX11_over 69 = .ok (.aload_n 2, 1) := by decide +kernel
theorem dX11_over_70 : decode cX11_over 70 = .ok (.getfield 250, 3) := by decide +kernel
theorem dX11_over_73 : decode cX11_over 73 = .ok (.aaload, 1) := by decide +kernel
theorem dX11_over_74 : decode cX11_over 74 = .ok (.dup, 1) := by decide +kernel
theorem dX11_over_75 : decode cX11_over 75 = .ok (.getfield 164, 3) := by decide +kernel
theorem dX11_over_78 : decode cX11_over 78 = .ok (.iload_n 3, 1) := by decide +kernel
theorem dX11_over_79 : decode cX11_over 79 = .ok (.iadd, 1) := by decide +kernel
theorem dX11_over_80 : decode cX11_over 80 = .ok (.putfield 164, 3) := by decide +kernel
theorem dX11_over_83 : decode cX11_over 83 = .ok (.iload_n 3, 1) := by decide +kernel
theorem dX11_over_84 : decode cX11_over 84 = .ok (.ireturn, 1) := by decide +kernel
theorem dX11_lend_0 : decode cX11_lend 0 = .ok (.aload_n 0, 1) := by decide +kernel
theorem dX11_lend_1 : decode cX11_lend 1 = .ok (.getfield 10, 3) := by decide +kernel
theorem dX11_lend_4 : decode cX11_lend 4 = .ok (.iload_n 1, 1) := by decide +kernel
theorem dX11_lend_5 : decode cX11_lend 5 = .ok (.invokevirtual 291, 3) := by decide +kernel
theorem dX11_lend_8 : decode cX11_lend 8 = .ok (.ifCond .ne 6, 3) := by decide +kernel
theorem dX11_lend_11 : decode cX11_lend 11 = .ok (.bipush (-2), 2) := by decide +kernel
theorem dX11_lend_13 : decode cX11_lend 13 = .ok (.ireturn, 1) := by decide +kernel
theorem dX11_lend_14 : decode cX11_lend 14 = .ok (.iload_n 2, 1) := by decide +kernel
theorem dX11_lend_15 : decode cX11_lend 15 = .ok (.iconst 0, 1) := by decide +kernel
theorem dX11_lend_16 : decode cX11_lend 16 = .ok (.bipush 100, 2) := by decide +kernel
theorem dX11_lend_18 : decode cX11_lend 18 = .ok (.invokestatic 59, 3) := by decide +kernel
theorem dX11_lend_21 : decode cX11_lend 21 = .ok (.ifCond .eq 13, 3) := by decide +kernel
theorem dX11_lend_24 : decode cX11_lend 24 = .ok (.iload_n 3, 1) := by decide +kernel
theorem dX11_lend_25 : decode cX11_lend 25 = .ok (.iconst 1, 1) := by decide +kernel
theorem dX11_lend_26 : decode cX11_lend 26 = .ok (.bipush 52, 2) := by decide +kernel
theorem dX11_lend_28 : decode cX11_lend 28 = .ok (.invokestatic 59, 3) := by decide +kernel
theorem dX11_lend_31 : decode cX11_lend 31 = .ok (.ifCond .ne 6, 3) := by decide +kernel
theorem dX11_lend_34 : decode cX11_lend 34 = .ok (.bipush (-3), 2) := by decide +kernel
theorem dX11_lend_36 : decode cX11_lend 36 = .ok (.ireturn, 1) := by decide +kernel
theorem dX11_lend_37 : decode cX11_lend 37 = .ok (.aload_n 0, 1) := by decide +kernel
theorem dX11_lend_38 : decode cX11_lend 38 = .ok (.getfield 10, 3) := by decide +kernel
theorem dX11_lend_41 : decode cX11_lend 41 = .ok (.getfield 73, 3) := by decide +kernel
theorem dX11_lend_44 : decode cX11_lend 44 = .ok (.invokevirtual 294, 3) := by decide +kernel
theorem dX11_lend_47 : decode cX11_lend 47 = .ok (.istore 4, 2) := by decide +kernel
theorem dX11_lend_49 : decode cX11_lend 49 = .ok (.iload 4, 2) := by decide +kernel
theorem dX11_lend_51 : decode cX11_lend 51 = .ok (.iconst 1, 1) := by decide +kernel
theorem dX11_lend_52 : decode cX11_lend 52 = .ok (.if_icmp .lt 40, 3) := by decide +kernel
theorem dX11_lend_55 : decode cX11_lend 55 = .ok (.aload_n 0, 1) := by decide +kernel
theorem dX11_lend_56 : decode cX11_lend 56 = .ok (.getfield 10, 3) := by decide +kernel
theorem dX11_lend_59 : decode cX11_lend 59 = .ok (.getfield 73, 3) := by decide +kernel
theorem dX11_lend_62 : decode cX11_lend 62 = .ok (.aload_n 0, 1) := by decide +kernel
theorem dX11_lend_63 : decode cX11_lend 63 = .ok (.getfield 10, 3) := by decide +kernel
theorem dX11_lend_66 : decode cX11_lend 66 = .ok (.getfield 125, 3) := by decide +kernel
theorem dX11_lend_69 : decode cX11_lend 69 = .ok (.iload_n 1, 1) := by decide +kernel
theorem dX11_lend_70 : decode cX11_lend 70 = .ok (.aaload, 1) := by decide +kernel
theorem dX11_lend_71 : decode cX11_lend 71 = .ok (.iload 4, 2) := by decide +kernel
theorem dX11_lend_73 : decode cX11_lend 73 = .ok (.iload_n 2, 1) := by decide +kernel
theorem dX11_lend_74 : decode cX11_lend 74 = .ok (.iload_n 3, 1) := by decide +kernel
theorem dX11_lend_75 : decode cX11_lend 75 = .ok (.invokevirtual 298, 3) := by decide +kernel
theorem dX11_lend_78 : decode cX11_lend 78 = .ok (.lconst 0, 1) := by decide +kernel
theorem dX11_lend_79 : decode cX11_lend 79 = .ok (.lcmp, 1) := by decide +kernel
theorem dX11_lend_80 : decode cX11_lend 80 = .ok (.ifCond .lt 6, 3) := by decide +kernel
theorem dX11_lend_83 : decode cX11_lend 83 = .ok (.iload 4, 2) := by decide +kernel
theorem dX11_lend_85 : decode cX11_lend 85 = .ok (.ireturn, 1) := by decide +kernel
theorem dX11_lend_86 : decode cX11_lend 86 = .ok (.iinc 4 (-1), 3) := by decide +kernel
theorem dX11_lend_89 : decode cX11_lend 89 = .ok (.goto (-40), 3) := by decide +kernel
theorem dX11_lend_92 : decode cX11_lend 92 = .ok (.iconst 0, 1) := by decide +kernel
theorem dX11_lend_93 : decode cX11_lend 93 = .ok (.ireturn, 1) := by decide +kernel
theorem dX11_gained_0 : decode cX11_gained 0 = .ok (.aload_n 0, 1) := by decide +kernel
theorem dX11_gained_1 : decode cX11_gained 1 = .ok (.getfield 10, 3) := by decide +kernel
theorem dX11_gained_4 : decode cX11_gained 4 = .ok (.iload_n 1, 1) := by decide +kernel
theorem dX11_gained_5 : decode cX11_gained 5 = .ok (.invokevirtual 291, 3) := by decide +kernel
theorem dX11_gained_8 : decode cX11_gained 8 = .ok (.ifCond .ne 7, 3) := by decide +kernel
theorem dX11_gained_11 : decode cX11_gained 11 = .ok (.ldc2_w 302, 3) := by decide +kernel
theorem dX11_gained_14 : decode cX11_gained 14 = .ok (.lreturn, 1) := by decide +kernel
theorem dX11_gained_15 : decode cX11_gained 15 = .ok (.iload_n 2, 1) := by decide +kernel
theorem dX11_gained_16 : decode cX11_gained 16 = .ok (.invokestatic 109, 3) := by decide +kernel
theorem dX11_gained_19 : decode cX11_gained 19 = .ok (.ifCond .eq 24, 3) := by decide +kernel
theorem dX11_gained_22 : decode cX11_gained 22 = .ok (.iload_n 3, 1) := by decide +kernel
theorem dX11_gained_23 : decode cX11_gained 23 = .ok (.iconst 0, 1) := by decide +kernel
theorem dX11_gained_24 : decode cX11_gained 24 = .ok (.bipush 100, 2) := by decide +kernel
theorem dX11_gained_26 : decode cX11_gained 26 = .ok (.invokestatic 59, 3) := by decide +kernel
theorem dX11_gained_29 : decode cX11_gained 29 = .ok (.ifCond .eq 14, 3) := by decide +kernel
theorem dX11_gained_32 : decode cX11_gained 32 = .ok (.iload 4, 2) := by decide +kernel
theorem dX11_gained_34 : decode cX11_gained 34 = .ok (.iconst 1, 1) := by decide +kernel
theorem dX11_gained_35 : decode cX11_gained 35 = .ok (.bipush 52, 2) := by decide +kernel
theorem dX11_gained_37 : decode cX11_gained 37 = .ok (.invokestatic 59, 3) := by decide +kernel
theorem dX11_gained_40 : decode cX11_gained 40 = .ok (.ifCond .ne 7, 3) := by decide +kernel
theorem dX11_gained_43 : decode cX11_gained 43 = .ok (.ldc2_w 304, 3) := by decide +kernel
theorem dX11_gained_46 : decode cX11_gained 46 = .ok (.lreturn, 1) := by decide +kernel
theorem dX11_gained_47 : decode cX11_gained 47 = .ok (.aload_n 0, 1) := by decide +kernel
theorem dX11_gained_48 : decode cX11_gained 48 = .ok (.getfield 10, 3) := by decide +kernel
theorem dX11_gained_51 : decode cX11_gained 51 = .ok (.getfield 73, 3) := by decide +kernel
theorem dX11_gained_54 : decode cX11_gained 54 = .ok (.iload_n 2, 1) := by decide +kernel
theorem dX11_gained_55 : decode cX11_gained 55 = .ok (.invokevirtual 112, 3) := by decide +kernel
theorem dX11_gained_58 : decode cX11_gained 58 = .ok (.ifCond .ne 7, 3) := by decide +kernel
theorem dX11_gained_61 : decode cX11_gained 61 = .ok (.ldc2_w 306, 3) := by decide +kernel
theorem dX11_gained_64 : decode cX11_gained 64 = .ok (.lreturn, 1) := by decide +kernel
theorem dX11_gained_65 : decode cX11_gained 65 = .ok (.aload_n 0, 1) := by decide +kernel
theorem dX11_gained_66 : decode cX11_gained 66 = .ok (.getfield 10, 3) := by decide +kernel
theorem dX11_gained_69 : decode cX11_gained 69 = .ok (.getfield 125, 3) := by decide +kernel
theorem dX11_gained_72 : decode cX11_gained 72 = .ok (.iload_n 1, 1) := by decide +kernel
theorem dX11_gained_73 : decode cX11_gained 73 = .ok (.aaload, 1) := by decide +kernel
theorem dX11_gained_74 : decode cX11_gained 74 = .ok (.astore 5, 2) := by decide +kernel
theorem dX11_gained_76 : decode cX11_gained 76 = .ok (.ldc2_w 308, 3) := by decide +kernel
theorem dX11_gained_79 : decode cX11_gained 79 = .ok (.aload 5, 2) := by decide +kernel
theorem dX11_gained_81 : decode cX11_gained 81 = .ok (.invokevirtual 310, 3) := by decide +kernel
theorem dX11_gained_84 : decode cX11_gained 84 = .ok (.i2l, 1) := by decide +kernel
theorem dX11_gained_85 : decode cX11_gained 85 = .ok (.lmul, 1) := by decide +kernel
theorem dX11_gained_86 : decode cX11_gained 86 = .ok (.lstore 6, 2) := by decide +kernel
theorem dX11_gained_88 : decode cX11_gained 88 = .ok (.lload 6, 2) := by decide +kernel
theorem dX11_gained_90 : decode cX11_gained 90 = .ok (.lconst 1, 1) := by decide +kernel
theorem dX11_gained_91 : decode cX11_gained 91 = .ok (.lcmp, 1) := by decide +kernel
theorem dX11_gained_92 : decode cX11_gained 92 = .ok (.ifCond .ge 7, 3) := by decide +kernel
theorem dX11_gained_95 : decode cX11_gained 95 = .ok (.ldc2_w 306, 3) := by decide +kernel
theorem dX11_gained_98 : decode cX11_gained 98 = .ok (.lreturn, 1) := by decide +kernel
theorem dX11_gained_99 : decode cX11_gained 99 = .ok (.ldc2_w 313, 3) := by decide +kernel
theorem dX11_gained_102 : decode cX11_gained 102 = .ok (.aload_n 0, 1) := by decide +kernel
theorem dX11_gained_103 : decode cX11_gained 103 = .ok (.getfield 10, 3) := by decide +kernel
theorem dX11_gained_106 : decode cX11_gained 106 = .ok (.getfield 73, 3) := by decide +kernel
theorem dX11_gained_109 : decode cX11_gained 109 = .ok (.aload 5, 2) := by decide +kernel
theorem dX11_gained_111 : decode cX11_gained 111 = .ok (.iload_n 2, 1) := by decide +kernel
theorem dX11_gained_112 : decode cX11_gained 112 = .ok (.iload_n 3, 1) := by decide +kernel
theorem dX11_gained_113 : decode cX11_gained 113 = .ok (.iload 4, 2) := by decide +kernel
theorem dX11_gained_115 : decode cX11_gained 115 = .ok (.invokevirtual 298, 3) := by decide +kernel
theorem dX11_gained_118 : decode cX11_gained 118 = .ok (.lmul, 1) := by decide +kernel
theorem dX11_gained_119 : decode cX11_gained 119 = .ok (.lload 6, 2) := by decide +kernel
theorem dX11_gained_121 : decode cX11_gained 121 = .ok (.ldiv, 1) := by decide +kernel
theorem dX11_gained_122 : decode cX11_gained 122 = .ok (.lreturn, 1) := by decide +kernel
theorem dX11_rack_0 : decode cX11_rack 0 = .ok (.iload_n 1, 1) := by decide +kernel
theorem dX11_rack_1 : decode cX11_rack 1 = .ok (.iconst 1, 1) := by decide +kernel
theorem dX11_rack_2 : decode cX11_rack 2 = .ok (.bipush 99, 2) := by decide +kernel
theorem dX11_rack_4 : decode cX11_rack 4 = .ok (.invokestatic 59, 3) := by decide +kernel
theorem dX11_rack_7 : decode cX11_rack 7 = .ok (.ifCond .eq 13, 3) := by decide +kernel
theorem dX11_rack_10 : decode cX11_rack 10 = .ok (.iload_n 2, 1) := by decide +kernel
theorem dX11_rack_11 : decode cX11_rack 11 = .ok (.iconst 0, 1) := by decide +kernel
theorem dX11_rack_12 : decode cX11_rack 12 = .ok (.bipush 99, 2) := by decide +kernel
theorem dX11_rack_14 : decode cX11_rack 14 = .ok (.invokestatic 59, 3) := by decide +kernel
theorem dX11_rack_17 : decode cX11_rack 17 = .ok (.ifCond .ne 6, 3) := by decide +kernel
theorem dX11_rack_20 : decode cX11_rack 20 = .ok (.bipush (-3), 2) := by decide +kernel
theorem dX11_rack_22 : decode cX11_rack 22 = .ok (.ireturn, 1) := by decide +kernel
theorem dX11_rack_23 : decode cX11_rack 23 = .ok (.aload_n 0, 1) := by decide +kernel
theorem dX11_rack_24 : decode cX11_rack 24 = .ok (.getfield 10, 3) := by decide +kernel
theorem dX11_rack_27 : decode cX11_rack 27 = .ok (.getfield 315, 3) := by decide +kernel
theorem dX11_rack_30 : decode cX11_rack 30 = .ok (.bipush 10, 2) := by decide +kernel
theorem dX11_rack_32 : decode cX11_rack 32 = .ok (.if_icmp .lt 6, 3) := by decide +kernel
theorem dX11_rack_35 : decode cX11_rack 35 = .ok (.bipush (-4), 2) := by decide +kernel
theorem dX11_rack_37 : decode cX11_rack 37 = .ok (.ireturn, 1) := by decide +kernel
theorem dX11_rack_38 : decode cX11_rack 38 = .ok (.aload_n 0, 1) := by decide +kernel
theorem dX11_rack_39 : decode cX11_rack 39 = .ok (.getfield 10, 3) := by decide +kernel
theorem dX11_rack_42 : decode cX11_rack 42 = .ok (.getfield 318, 3) := by decide +kernel
theorem dX11_rack_45 : decode cX11_rack 45 = .ok (.aload_n 0, 1) := by decide +kernel
theorem dX11_rack_46 : decode cX11_rack 46 = .ok (.getfield 10, 3) := by decide +kernel
theorem dX11_rack_49 : decode cX11_rack 49 = .ok (.getfield 315, 3) := by decide +kernel
theorem dX11_rack_52 : decode cX11_rack 52 = .ok (.aaload, 1) := by decide +kernel
theorem dX11_rack_53 : decode cX11_rack 53 = .ok (.iconst 0, 1) := by decide +kernel
theorem dX11_rack_54 : decode cX11_rack 54 = .ok (.iload_n 1, 1) := by decide +kernel
theorem dX11_rack_55 : decode cX11_rack 55 = .ok (.iastore, 1) := by decide +kernel
theorem dX11_rack_56 : decode cX11_rack 56 = .ok (.aload_n 0, 1) := by decide +kernel
theorem dX11_rack_57 : decode cX11_rack 57 = .ok (.getfield 10, 3) := by decide +kernel
theorem dX11_rack_60 : decode cX11_rack 60 = .ok (.getfield 318, 3) := by decide +kernel
theorem dX11_rack_63 : decode cX11_rack 63 = .ok (.aload_n 0, 1) := by decide +kernel
theorem dX11_rack_64 : decode cX11_rack 64 = .ok (.getfield 10, 3) := by decide +kernel
theorem dX11_rack_67 : decode cX11_rack 67 = .ok (.getfield 315, 3) := by decide +kernel
theorem dX11_rack_70 : decode cX11_rack 70 = .ok (.aaload, 1) := by decide +kernel
theorem dX11_rack_71 : decode cX11_rack 71 = .ok (.iconst 1, 1) := by decide +kernel
theorem dX11_rack_72 : decode cX11_rack 72 = .ok (.iload_n 2, 1) := by decide +kernel
theorem dX11_rack_73 : decode cX11_rack 73 = .ok (.iastore, 1) := by decide +kernel
theorem dX11_rack_74 : decode cX11_rack 74 = .ok (.aload_n 0, 1) := by decide +kernel
theorem dX11_rack_75 : decode cX11_rack 75 = .ok (.getfield 10, 3) := by decide +kernel
theorem dX11_rack_78 : decode cX11_rack 78 = .ok (.dup, 1) := by decide +kernel
theorem dX11_rack_79 : decode cX11_rack 79 = .ok (.getfield 315, 3) := by decide +kernel
theorem dX11_rack_82 : decode cX11_rack 82 = .ok (.iconst 1, 1) := by decide +kernel
theorem dX11_rack_83 : decode cX11_rack 83 = .ok (.iadd, 1) := by decide +kernel
theorem dX11_rack_84 : decode cX11_rack 84 = .ok (.putfield 315, 3) := by decide +kernel
theorem dX11_rack_87 : decode cX11_rack 87 = .ok (.aload_n 0, 1) := by decide +kernel
theorem dX11_rack_88 : decode cX11_rack 88 = .ok (.getfield 10, 3) := by decide +kernel
theorem dX11_rack_91 : decode cX11_rack 91 = .ok (.getfield 315, 3) := by decide +kernel
theorem dX11_rack_94 : decode cX11_rack 94 = .ok (.iconst 1, 1) := by decide +kernel
theorem dX11_rack_95 : decode cX11_rack 95 = .ok (.isub, 1) := by decide +kernel
theorem dX11_rack_96 : decode cX11_rack 96 = .ok (.ireturn, 1) := by decide +kernel
theorem dX11_put_0 : decode cX11_put 0 = .ok (.aload_n 0, 1) := by decide +kernel
theorem dX11_put_1 : decode cX11_put 1 = .ok (.getfield 10, 3) := by decide +kernel
theorem dX11_put_4 : decode cX11_put 4 = .ok (.iload_n 1, 1) := by decide +kernel
theorem dX11_put_5 : decode cX11_put 5 = .ok (.invokevirtual 244, 3) := by decide +kernel
theorem dX11_put_8 : decode cX11_put 8 = .ok (.ifCond .eq 14, 3) := by decide +kernel
theorem dX11_put_11 : decode cX11_put 11 = .ok (.aload_n 0, 1) := by decide +kernel
theorem dX11_put_12 : decode cX11_put 12 = .ok (.getfield 10, 3) := by decide +kernel
theorem dX11_put_15 : decode cX11_put 15 = .ok (.iload_n 2, 1) := by decide +kernel
theorem dX11_put_16 : decode cX11_put 16 = .ok (.invokevirtual 322, 3) := by decide +kernel
theorem dX11_put_19 : decode cX11_put 19 = .ok (.ifCond .ne 6, 3) := by decide +kernel
theorem dX11_put_22 : decode cX11_put 22 = .ok (.bipush (-2), 2) := by decide +kernel
theorem dX11_put_24 : decode cX11_put 24 = .ok (.ireturn, 1) := by decide +kernel
theorem dX11_put_25 : decode cX11_put 25 = .ok (.aload_n 0, 1) := by decide +kernel
theorem dX11_put_26 : decode cX11_put 26 = .ok (.getfield 10, 3) := by decide +kernel
theorem dX11_put_29 : decode cX11_put 29 = .ok (.getfield 200, 3) := by decide +kernel
theorem dX11_put_32 : decode cX11_put 32 = .ok (.iload_n 1, 1) := by decide +kernel
theorem dX11_put_33 : decode cX11_put 33 = .ok (.aaload, 1) := by decide +kernel
theorem dX11_put_34 : decode cX11_put 34 = .ok (.astore_n 3, 1) := by decide +kernel
theorem dX11_put_35 : decode cX11_put 35 = .ok (.aload_n 0, 1) := by decide +kernel
theorem dX11_put_36 : decode cX11_put 36 = .ok (.getfield 10, 3) := by decide +kernel
theorem dX11_put_39 : decode cX11_put 39 = .ok (.iload_n 2, 1) := by decide +kernel
theorem dX11_put_40 : decode cX11_put 40 = .ok (.invokevirtual 325, 3) := by decide +kernel
theorem dX11_put_43 : decode cX11_put 43 = .ok (.aload_n 0, 1) := by decide +kernel
theorem dX11_put_44 : decode cX11_put 44 = .ok (.getfield 10, 3) := by decide +kernel
theorem dX11_put_47 : decode cX11_put 47 = .ok (.getfield 125, 3) := by decide +kernel
theorem dX11_put_50 : decode cX11_put 50 = .ok (.aload_n 3, 1) := by decide +kernel
theorem dX11_put_51 : decode cX11_put 51 = .ok (.getfield 256, 3) := by decide +kernel
theorem dX11_put_54 : decode cX11_put 54 = .ok (.aaload, 1) := by decide +kernel
theorem dX11_put_55 : decode cX11_put 55 = .ok (.getfield 129, 3) := by decide +kernel
theorem dX11_put_58 : decode cX11_put 58 = .ok (.isub, 1) := by decide +kernel
theorem dX11_put_59 : decode cX11_put 59 = .ok (.istore 4, 2) := by decide +kernel
theorem dX11_put_61 : decode cX11_put 61 = .ok (.aload_n 3, 1) := by decide +kernel
theorem dX11_put_62 : decode cX11_put 62 = .ok (.getfield 247, 3) := by decide +kernel
theorem dX11_put_65 : decode cX11_put 65 = .ok (.ifCond .ne 16, 3) := by decide +kernel
theorem dX11_put_68 : decode cX11_put 68 = .ok (.aload_n 3, 1) := by decide +kernel
theorem dX11_put_69 : decode cX11_put 69 = .ok (.getfield 262, 3) := by decide +kernel
theorem dX11_put_72 : decode cX11_put 72 = .ok (.iload_n 2, 1) := by decide +kernel
theorem dX11_put_73 : decode cX11_put 73 = .ok (.if_icmp .eq 8, 3) := by decide +kernel
theorem dX11_put_76 : decode cX11_put 76 = .ok (.iload 4, 2) := by decide +kernel
theorem dX11_put_78 : decode cX11_put 78 = .ok (.ifCond .ge 6, 3) := by decide +kernel
theorem dX11_put_81 : decode cX11_put 81 = .ok (.bipush (-5), 2) := by decide +kernel
theorem dX11_put_83 : decode cX11_put 83 = .ok (.ireturn, 1) := by decide +kernel
theorem dX11_put_84 : decode cX11_put 84 = .ok (.aload_n 3, 1) := by decide +kernel
theorem dX11_put_85 : decode cX11_put 85 = .ok (.iload_n 2, 1) := by decide +kernel
theorem dX11_put_86 : decode cX11_put 86 = .ok (.putfield 262, 3) := by decide +kernel
theorem dX11_put_89 : decode cX11_put 89 = .ok (.iload 4, 2) := by decide +kernel
theorem dX11_put_91 : decode cX11_put 91 = .ok (.ireturn, 1) := by decide +kernel
theorem dX11_rush_0 : decode cX11_rush 0 = .ok (.iload_n 2, 1) := by decide +kernel
theorem dX11_rush_1 : decode cX11_rush 1 = .ok (.iconst 0, 1) := by decide +kernel
theorem dX11_rush_2 : decode cX11_rush 2 = .ok (.sipush 255, 3) := by decide +kernel
theorem dX11_rush_5 : decode cX11_rush 5 = .ok (.invokestatic 59, 3) := by decide +kernel
theorem dX11_rush_8 : decode cX11_rush 8 = .ok (.ifCond .ne 6, 3) := by decide +kernel
theorem dX11_rush_11 : decode cX11_rush 11 = .ok (.bipush (-3), 2) := by decide +kernel
theorem dX11_rush_13 : decode cX11_rush 13 = .ok (.ireturn, 1) := by decide +kernel
theorem dX11_rush_14 : decode cX11_rush 14 = .ok (.aload_n 0, 1) := by decide +kernel
theorem dX11_rush_15 : decode cX11_rush 15 = .ok (.getfield 41, 3) := by decide +kernel
theorem dX11_rush_18 : decode cX11_rush 18 = .ok (.aload_n 0, 1) := by decide +kernel
theorem dX11_rush_19 : decode cX11_rush 19 = .ok (.getfield 10, 3) := by decide +kernel
theorem dX11_rush_22 : decode cX11_rush 22 = .ok (.iload_n 1, 1) := by decide +kernel
theorem dX11_rush_23 : decode cX11_rush 23 = .ok (.iload_n 2, 1) := by decide +kernel
theorem dX11_rush_24 : decode cX11_rush 24 = .ok (.invokevirtual 328, 3) := by decide +kernel
theorem dX11_rush_27 : decode cX11_rush 27 = .ok (.ifCond .ne 6, 3) := by decide +kernel
theorem dX11_rush_30 : decode cX11_rush 30 = .ok (.bipush (-5), 2) := by decide +kernel
theorem dX11_rush_32 : decode cX11_rush 32 = .ok (.ireturn, 1) := by decide +kernel
theorem dX11_rush_33 : decode cX11_rush 33 = .ok (.aload_n 0, 1) := by decide +kernel
theorem dX11_rush_34 : decode cX11_rush 34 = .ok (.getfield 41, 3) := by decide +kernel
theorem dX11_rush_37 : decode cX11_rush 37 = .ok (.invokevirtual 332, 3) := by decide +kernel
theorem dX11_rush_40 : decode cX11_rush 40 = .ok (.ireturn, 1) := by decide +kernel
theorem dX11_best_0 : decode cX11_best 0 = .ok (.iload_n 1, 1) := by decide +kernel
theorem dX11_best_1 : decode cX11_best 1 = .ok (.iconst 0, 1) := by decide +kernel
theorem dX11_best_2 : decode cX11_best 2 = .ok (.iconst 3, 1) := by decide +kernel
theorem dX11_best_3 : decode cX11_best 3 = .ok (.invokestatic 59, 3) := by decide +kernel
theorem dX11_best_6 : decode cX11_best 6 = .ok (.ifCond .ne 6, 3) := by decide +kernel
theorem dX11_best_9 : decode cX11_best 9 = .ok (.bipush (-2), 2) := by decide +kernel
theorem dX11_best_11 : decode cX11_best 11 = .ok (.ireturn, 1) := by decide +kernel
theorem dX11_best_12 : decode cX11_best 12 = .ok (.iload_n 2, 1) := by decide +kernel
theorem dX11_best_13 : decode cX11_best 13 = .ok (.iconst 1, 1) := by decide +kernel
theorem dX11_best_14 : decode cX11_best 14 = .ok (.bipush 7, 2) := by decide +kernel
theorem dX11_best_16 : decode cX11_best 16 = .ok (.invokestatic 59, 3) := by decide +kernel
theorem dX11_best_19 : decode cX11_best 19 = .ok (.ifCond .ne 6, 3) := by decide +kernel
theorem dX11_best_22 : decode cX11_best 22 = .ok (.bipush (-3), 2) := by decide +kernel
theorem dX11_best_24 : decode cX11_best 24 = .ok (.ireturn, 1) := by decide +kernel
theorem dX11_best_25 : decode cX11_best 25 = .ok (.aload_n 0, 1) := by decide +kernel
theorem dX11_best_26 : decode cX11_best 26 = .ok (.getfield 41, 3) := by decide +kernel
theorem dX11_best_29 : decode cX11_best 29 = .ok (.aload_n 0, 1) := by decide +kernel
theorem dX11_best_30 : decode cX11_best 30 = .ok (.getfield 10, 3) := by decide +kernel
theorem dX11_best_33 : decode cX11_best 33 = .ok (.iload_n 2, 1) := by decide +kernel
theorem dX11_best_34 : decode cX11_best 34 = .ok (.invokevirtual 335, 3) := by decide +kernel
theorem dX11_best_37 : decode cX11_best 37 = .ok (.iload_n 2, 1) := by decide +kernel
theorem dX11_best_38 : decode cX11_best 38 = .ok (.if_icmp .ge 6, 3) := by decide +kernel
theorem dX11_best_41 : decode cX11_best 41 = .ok (.bipush (-5), 2) := by decide +kernel
theorem dX11_best_43 : decode cX11_best 43 = .ok (.ireturn, 1) := by decide +kernel
theorem dX11_best_44 : decode cX11_best 44 = .ok (.aload_n 0, 1) := by decide +kernel
theorem dX11_best_45 : decode cX11_best 45 = .ok (.getfield 33, 3) := by decide +kernel
theorem dX11_best_48 : decode cX11_best 48 = .ok (.iload_n 1, 1) := by decide +kernel
theorem dX11_best_49 : decode cX11_best 49 = .ok (.aaload, 1) := by decide +kernel
theorem dX11_best_50 : decode cX11_best 50 = .ok (.getfield 339, 3) := by decide +kernel
theorem dX11_best_53 : decode cX11_best 53 = .ok (.iconst (-1), 1) := by decide +kernel
theorem dX11_best_54 : decode cX11_best 54 = .ok (.if_icmp .ne 6, 3) := by decide +kernel
theorem dX11_best_57 : decode cX11_best 57 = .ok (.bipush (-6), 2) := by decide +kernel
theorem dX11_best_59 : decode cX11_best 59 = .ok (.ireturn, 1) := by decide +kernel
theorem dX11_best_60 : decode cX11_best 60 = .ok (.aload_n 0, 1) := by decide +kernel
theorem dX11_best_61 : decode cX11_best 61 = .ok (.getfield 33, 3) := by decide +kernel
theorem dX11_best_64 : decode cX11_best 64 = .ok (.iload_n 1, 1) := by decide +kernel
theorem dX11_best_65 : decode cX11_best 65 = .ok (.aaload, 1) := by decide +kernel
theorem dX11_best_66 : decode cX11_best 66 = .ok (.getfield 339, 3) := by decide +kernel
theorem dX11_best_69 : decode cX11_best 69 = .ok (.iload_n 2, 1) := by decide +kernel
theorem dX11_best_70 : decode cX11_best 70 = .ok (.if_icmp .ge 6, 3) := by decide +kernel
theorem dX11_best_73 : decode cX11_best 73 = .ok (.bipush (-7), 2) := by decide +kernel
theorem dX11_best_75 : decode cX11_best 75 = .ok (.ireturn, 1) := by decide +kernel
theorem dX11_best_76 : decode cX11_best 76 = .ok (.aload_n 0, 1) := by decide +kernel
theorem dX11_best_77 : decode cX11_best 77 = .ok (.getfield 41, 3) := by decide +kernel
theorem dX11_best_80 : decode cX11_best 80 = .ok (.aload_n 0, 1) := by decide +kernel
theorem dX11_best_81 : decode cX11_best 81 = .ok (.getfield 33, 3) := by decide +kernel
theorem dX11_best_84 : decode cX11_best 84 = .ok (.iload_n 1, 1) := by decide +kernel
theorem dX11_best_85 : decode cX11_best 85 = .ok (.aaload, 1) := by decide +kernel
theorem dX11_best_86 : decode cX11_best 86 = .ok (.iload_n 2, 1) := by decide +kernel
theorem dX11_best_87 : decode cX11_best 87 = .ok (.invokevirtual 342, 3) := by decide +kernel
theorem dX11_best_90 : decode cX11_best 90 = .ok (.ifCond .ne 6, 3) := by decide +kernel
theorem dX11_best_93 : decode cX11_best 93 = .ok (.bipush (-3), 2) := by decide +kernel
theorem dX11_best_95 : decode cX11_best 95 = .ok (.ireturn, 1) := by decide +kernel
theorem dX11_best_96 : decode cX11_best 96 = .ok (.aload_n 0, 1) := by decide +kernel
theorem dX11_best_97 : decode cX11_best 97 = .ok (.getfield 41, 3) := by decide +kernel
theorem dX11_best_100 : decode cX11_best 100 = .ok (.aload_n 0, 1) := by decide +kernel
theorem dX11_best_101 : decode cX11_best 101 = .ok (.getfield 10, 3) := by decide +kernel
theorem dX11_best_104 : decode cX11_best 104 = .ok (.iload_n 2, 1) := by decide +kernel
theorem dX11_best_105 : decode cX11_best 105 = .ok (.iload_n 3, 1) := by decide +kernel
theorem dX11_best_106 : decode cX11_best 106 = .ok (.invokevirtual 346, 3) := by decide +kernel
theorem dX11_best_109 : decode cX11_best 109 = .ok (.ireturn, 1) := by decide +kernel
theorem dX11_life_0 : decode cX11_life 0 = .ok (.aload_n 0, 1) := by decide +kernel
theorem dX11_life_1 : decode cX11_life 1 = .ok (.iload_n 1, 1) := by decide +kernel
theorem dX11_life_2 : decode cX11_life 2 = .ok (.iload_n 2, 1) := by decide +kernel
theorem dX11_life_3 : decode cX11_life 3 = .ok (.iload_n 3, 1) := by decide +kernel
theorem dX11_life_4 : decode cX11_life 4 = .ok (.iload 4, 2) := by decide +kernel
theorem dX11_life_6 : decode cX11_life 6 = .ok (.iload 5, 2) := by decide +kernel
theorem dX11_life_8 : decode cX11_life 8 = .ok (.invokevirtual 350, 3) := by decide +kernel
theorem dX11_life_11 : decode cX11_life 11 = .ok (.istore 6, 2) := by decide +kernel
theorem dX11_life_13 : decode cX11_life 13 = .ok (.iload 6, 2) := by decide +kernel
theorem dX11_life_15 : decode cX11_life 15 = .ok (.ifCond .eq 8, 3) := by decide +kernel
theorem dX11_life_18 : decode cX11_life 18 = .ok (.iload 6, 2) := by decide +kernel
theorem dX11_life_20 : decode cX11_life 20 = .ok (.goto 16, 3) := by decide +kernel
theorem dX11_life_23 : decode cX11_life 23 = .ok (.aload_n 0, 1) := by decide +kernel
theorem dX11_life_24 : decode cX11_life 24 = .ok (.getfield 10, 3) := by decide +kernel
theorem dX11_life_27 : decode cX11_life 27 = .ok (.iload_n 1, 1) := by decide +kernel
theorem dX11_life_28 : decode cX11_life 28 = .ok (.iload_n 3, 1) := by decide +kernel
theorem dX11_life_29 : decode cX11_life 29 = .ok (.iload 4, 2) := by decide +kernel
theorem dX11_life_31 : decode cX11_life 31 = .ok (.iload 5, 2) := by decide +kernel
theorem dX11_life_33 : decode cX11_life 33 = .ok (.invokevirtual 354, 3) := by decide +kernel
theorem dX11_life_36 : decode cX11_life 36 = .ok (.ireturn, 1) := by decide +kernel
theorem dX11_lifeRefused_0 : decode cX11_lifeRefused 0 = .ok (.aload_n 0, 1) := by decide +kernel
theorem dX11_lifeRefused_1 : decode cX11_lifeRefused 1 = .ok (.getfield 10, 3) := by decide +kernel
theorem dX11_lifeRefused_4 : decode cX11_lifeRefused 4 = .ok (.iload_n 1, 1) := by decide +kernel
theorem dX11_lifeRefused_5 : decode cX11_lifeRefused 5 = .ok (.invokevirtual 170, 3) := by decide +kernel
theorem dX11_lifeRefused_8 : decode cX11_lifeRefused 8 = .ok (.ifCond .eq 14, 3) := by decide +kernel
theorem dX11_lifeRefused_11 : decode cX11_lifeRefused 11 = .ok (.aload_n 0, 1) := by decide +kernel
theorem dX11_lifeRefused_12 : decode cX11_lifeRefused 12 = .ok (.getfield 10, 3) := by decide +kernel
theorem dX11_lifeRefused_15 : decode cX11_lifeRefused 15 = .ok (.iload_n 2, 1) := by decide +kernel
theorem dX11_lifeRefused_16 : decode cX11_lifeRefused 16 = .ok (.invokevirtual 291, 3) := by decide +kernel
theorem dX11_lifeRefused_19 : decode cX11_lifeRefused 19 = .ok (.ifCond .ne 6, 3) := by decide +kernel
theorem dX11_lifeRefused_22 : decode cX11_lifeRefused 22 = .ok (.bipush (-2), 2) := by decide +kernel
theorem dX11_lifeRefused_24 : decode cX11_lifeRefused 24 = .ok (.ireturn, 1) := by decide +kernel
theorem dX11_lifeRefused_25 : decode cX11_lifeRefused 25 = .ok (.iload_n 3, 1) := by decide +kernel
theorem dX11_lifeRefused_26 : decode cX11_lifeRefused 26 = .ok (.invokestatic 109, 3) := by decide +kernel
theorem dX11_lifeRefused_29 : decode cX11_lifeRefused 29 = .ok (.ifCond .eq 13, 3) := by decide +kernel
theorem dX11_lifeRefused_32 : decode cX11_lifeRefused 32 = .ok (.iload 4, 2) := by decide +kernel
theorem dX11_lifeRefused_34 : decode cX11_lifeRefused 34 = .ok (.iload 5, 2) := by decide +kernel
theorem dX11_lifeRefused_36 : decode cX11_lifeRefused 36 = .ok (.invokestatic 358, 3) := by decide +kernel
theorem dX11_lifeRefused_39 : decode cX11_lifeRefused 39 = .ok (.ifCond .ne 6, 3) := by decide +kernel
theorem dX11_lifeRefused_42 : decode cX11_lifeRefused 42 = .ok (.bipush (-3), 2) := by decide +kernel
theorem dX11_lifeRefused_44 : decode cX11_lifeRefused 44 = .ok (.ireturn, 1) := by decide +kernel
theorem dX11_lifeRefused_45 : decode cX11_lifeRefused 45 = .ok (.aload_n 0, 1) := by decide +kernel
theorem dX11_lifeRefused_46 : decode cX11_lifeRefused 46 = .ok (.getfield 10, 3) := by decide +kernel
theorem dX11_lifeRefused_49 : decode cX11_lifeRefused 49 = .ok (.getfield 73, 3) := by decide +kernel
theorem dX11_lifeRefused_52 : decode cX11_lifeRefused 52 = .ok (.iload_n 3, 1) := by decide +kernel
theorem dX11_lifeRefused_53 : decode cX11_lifeRefused 53 = .ok (.invokevirtual 112, 3) := by decide +kernel
theorem dX11_lifeRefused_56 : decode cX11_lifeRefused 56 = .ok (.ifCond .eq 7, 3) := by decide +kernel
theorem dX11_lifeRefused_59 : decode cX11_lifeRefused 59 = .ok (.iconst 0, 1) := by decide +kernel
theorem dX11_lifeRefused_60 : decode cX11_lifeRefused 60 = .ok (.goto 5, 3) := by decide +kernel
theorem dX11_lifeRefused_63 : decode cX11_lifeRefused 63 = .ok (.bipush (-5), 2) := by decide +kernel
theorem dX11_lifeRefused_65 : decode cX11_lifeRefused 65 = .ok (.ireturn, 1) := by decide +kernel
theorem dX11_isLifeSpan_0 : decode cX11_isLifeSpan 0 = .ok (.iload_n 0, 1) := by decide +kernel
theorem dX11_isLifeSpan_1 : decode cX11_isLifeSpan 1 = .ok (.iconst 1, 1) := by decide +kernel
theorem dX11_isLifeSpan_2 : decode cX11_isLifeSpan 2 = .ok (.bipush 104, 2) := by decide +kernel
theorem dX11_isLifeSpan_4 : decode cX11_isLifeSpan 4 = .ok (.invokestatic 59, 3) := by decide +kernel
theorem dX11_isLifeSpan_7 : decode cX11_isLifeSpan 7 = .ok (.ifCond .eq 18, 3) := by decide +kernel
theorem dX11_isLifeSpan_10 : decode cX11_isLifeSpan 10 = .ok (.iload_n 1, 1) := by decide +kernel
theorem dX11_isLifeSpan_11 : decode cX11_isLifeSpan 11 = .ok (.iconst 0, 1) := by decide +kernel
theorem dX11_isLifeSpan_12 : decode cX11_isLifeSpan 12 = .ok (.sipush 999, 3) := by decide +kernel
theorem dX11_isLifeSpan_15 : decode cX11_isLifeSpan 15 = .ok (.invokestatic 59, 3) := by decide +kernel
theorem dX11_isLifeSpan_18 : decode cX11_isLifeSpan 18 = .ok (.ifCond .eq 7, 3) := by decide +kernel
theorem dX11_isLifeSpan_21 : decode cX11_isLifeSpan 21 = .ok (.iconst 1, 1) := by decide +kernel
theorem dX11_isLifeSpan_22 : decode cX11_isLifeSpan 22 = .ok (.goto 4, 3) := by decide +kernel
theorem dX11_isLifeSpan_25 : decode cX11_isLifeSpan 25 = .ok (.iconst 0, 1) := by decide +kernel
theorem dX11_isLifeSpan_26 : decode cX11_isLifeSpan 26 = .ok (.ireturn, 1) := by decide +kernel
theorem dX11_needs_0 : decode cX11_needs 0 = .ok (.aload_n 0, 1) := by decide +kernel
theorem dX11_needs_1 : decode cX11_needs 1 = .ok (.iload_n 1, 1) := by decide +kernel
theorem dX11_needs_2 : decode cX11_needs 2 = .ok (.iload_n 2, 1) := by decide +kernel
theorem dX11_needs_3 : decode cX11_needs 3 = .ok (.iload_n 3, 1) := by decide +kernel
theorem dX11_needs_4 : decode cX11_needs 4 = .ok (.iload 4, 2) := by decide +kernel
theorem dX11_needs_6 : decode cX11_needs 6 = .ok (.iconst 0, 1) := by decide +kernel
theorem dX11_needs_7 : decode cX11_needs 7 = .ok (.invokevirtual 350, 3) := by decide +kernel
theorem dX11_needs_10 : decode cX11_needs 10 = .ok (.istore 5, 2) := by decide +kernel
theorem dX11_needs_12 : decode cX11_needs 12 = .ok (.iload 5, 2) := by decide +kernel
theorem dX11_needs_14 : decode cX11_needs 14 = .ok (.ifCond .eq 6, 3) := by decide +kernel
theorem dX11_needs_17 : decode cX11_needs 17 = .ok (.iload 5, 2) := by decide +kernel
theorem dX11_needs_19 : decode cX11_needs 19 = .ok (.ireturn, 1) := by decide +kernel
theorem dX11_needs_20 : decode cX11_needs 20 = .ok (.iconst 0, 1) := by decide +kernel
theorem dX11_needs_21 : decode cX11_needs 21 = .ok (.istore 6, 2) := by decide +kernel
theorem dX11_needs_23 : decode cX11_needs 23 = .ok (.iload 6, 2) := by decide +kernel
theorem dX11_needs_25 : decode cX11_needs 25 = .ok (.sipush 999, 3) := by decide +kernel
theorem dX11_needs_28 : decode cX11_needs 28 = .ok (.if_icmp .gt 29, 3) := by decide +kernel
theorem dX11_needs_31 : decode cX11_needs 31 = .ok (.aload_n 0, 1) := by decide +kernel
theorem dX11_needs_32 : decode cX11_needs 32 = .ok (.getfield 10, 3) := by decide +kernel
theorem dX11_needs_35 : decode cX11_needs 35 = .ok (.iload_n 1, 1) := by decide +kernel
theorem dX11_needs_36 : decode cX11_needs 36 = .ok (.iload_n 3, 1) := by decide +kernel
theorem dX11_needs_37 : decode cX11_needs 37 = .ok (.iload 4, 2) := by decide +kernel
theorem dX11_needs_39 : decode cX11_needs 39 = .ok (.iload 6, 2) := by decide +kernel
theorem dX11_needs_41 : decode cX11_needs 41 = .ok (.invokevirtual 354, 3) := by decide +kernel
theorem dX11_needs_44 : decode cX11_needs 44 = .ok (.iconst (-1), 1) := by decide +kernel
theorem dX11_needs_45 : decode cX11_needs 45 = .ok (.if_icmp .ne 6, 3) := by decide +kernel
theorem dX11_needs_48 : decode cX11_needs 48 = .ok (.iload 6, 2) := by decide +kernel
theorem dX11_needs_50 : decode cX11_needs 50 = .ok (.ireturn, 1) := by decide +kernel
theorem dX11_needs_51 : decode cX11_needs 51 = .ok (.iinc 6 1, 3) := by decide +kernel
theorem dX11_needs_54 : decode cX11_needs 54 = .ok (.goto (-31), 3) := by decide +kernel
theorem dX11_needs_57 : decode cX11_needs 57 = .ok (.iconst (-1), 1) := by decide +kernel
theorem dX11_needs_58 : decode cX11_needs 58 = .ok (.ireturn, 1) := by decide +kernel
theorem dX11_lots_0 : decode cX11_lots 0 = .ok (.iload_n 1, 1) := by decide +kernel
theorem dX11_lots_1 : decode cX11_lots 1 = .ok (.iconst 1, 1) := by decide +kernel
theorem dX11_lots_2 : decode cX11_lots 2 = .ok (.bipush 10, 2) := by decide +kernel
theorem dX11_lots_4 : decode cX11_lots 4 = .ok (.invokestatic 59, 3) := by decide +kernel
theorem dX11_lots_7 : decode cX11_lots 7 = .ok (.ifCond .ne 6, 3) := by decide +kernel
theorem dX11_lots_10 : decode cX11_lots 10 = .ok (.bipush (-3), 2) := by decide +kernel
theorem dX11_lots_12 : decode cX11_lots 12 = .ok (.ireturn, 1) := by decide +kernel
theorem dX11_lots_13 : decode cX11_lots 13 = .ok (.aload_n 0, 1) := by decide +kernel
theorem dX11_lots_14 : decode cX11_lots 14 = .ok (.getfield 41, 3) := by decide +kernel
theorem dX11_lots_17 : decode cX11_lots 17 = .ok (.aload_n 0, 1) := by decide +kernel
theorem dX11_lots_18 : decode cX11_lots 18 = .ok (.getfield 10, 3) := by decide +kernel
theorem dX11_lots_21 : decode cX11_lots 21 = .ok (.invokevirtual 362, 3) := by decide +kernel
theorem dX11_lots_24 : decode cX11_lots 24 = .ok (.iload_n 1, 1) := by decide +kernel
theorem dX11_lots_25 : decode cX11_lots 25 = .ok (.if_icmp .ge 6, 3) := by decide +kernel
theorem dX11_lots_28 : decode cX11_lots 28 = .ok (.bipush (-5), 2) := by decide +kernel
theorem dX11_lots_30 : decode cX11_lots 30 = .ok (.ireturn, 1) := by decide +kernel
theorem dX11_lots_31 : decode cX11_lots 31 = .ok (.aload_n 0, 1) := by decide +kernel
theorem dX11_lots_32 : decode cX11_lots 32 = .ok (.getfield 41, 3) := by decide +kernel
theorem dX11_lots_35 : decode cX11_lots 35 = .ok (.iload_n 1, 1) := by decide +kernel
theorem dX11_lots_36 : decode cX11_lots 36 = .ok (.iload_n 2, 1) := by decide +kernel
theorem dX11_lots_37 : decode cX11_lots 37 = .ok (.invokevirtual 366, 3) := by decide +kernel
theorem dX11_lots_40 : decode cX11_lots 40 = .ok (.ireturn, 1) := by decide +kernel
theorem dX11_fits_0 : decode cX11_fits 0 = .ok (.iload_n 1, 1) := by decide +kernel
theorem dX11_fits_1 : decode cX11_fits 1 = .ok (.iconst 0, 1) := by decide +kernel
theorem dX11_fits_2 : decode cX11_fits 2 = .ok (.aload_n 0, 1) := by decide +kernel
theorem dX11_fits_3 : decode cX11_fits 3 = .ok (.getfield 10, 3) := by decide +kernel
theorem dX11_fits_6 : decode cX11_fits 6 = .ok (.getfield 87, 3) := by decide +kernel
theorem dX11_fits_9 : decode cX11_fits 9 = .ok (.getfield 97, 3) := by decide +kernel
theorem dX11_fits_12 : decode cX11_fits 12 = .ok (.iconst 1, 1) := by decide +kernel
theorem dX11_fits_13 : decode cX11_fits 13 = .ok (.isub, 1) := by decide +kernel
theorem dX11_fits_14 : decode cX11_fits 14 = .ok (.invokestatic 59, 3) := by decide +kernel
theorem dX11_fits_17 : decode cX11_fits 17 = .ok (.ifCond .ne 6, 3) := by decide +kernel
theorem dX11_fits_20 : decode cX11_fits 20 = .ok (.bipush (-2), 2) := by decide +kernel
theorem dX11_fits_22 : decode cX11_fits 22 = .ok (.ireturn, 1) := by decide +kernel
theorem dX11_fits_23 : decode cX11_fits 23 = .ok (.iconst 0, 1) := by decide +kernel
theorem dX11_fits_24 : decode cX11_fits 24 = .ok (.istore_n 3, 1) := by decide +kernel
theorem dX11_fits_25 : decode cX11_fits 25 = .ok (.iconst 0, 1) := by decide +kernel
theorem dX11_fits_26 : decode cX11_fits 26 = .ok (.istore 4, 2) := by decide +kernel
theorem dX11_fits_28 : decode cX11_fits 28 = .ok (.iload 4, 2) := by decide +kernel
theorem dX11_fits_30 : decode cX11_fits 30 = .ok (.aload_n 0, 1) := by decide +kernel
theorem dX11_fits_31 : decode cX11_fits 31 = .ok (.getfield 10, 3) := by decide +kernel
theorem dX11_fits_34 : decode cX11_fits 34 = .ok (.getfield 271, 3) := by decide +kernel
theorem dX11_fits_37 : decode cX11_fits 37 = .ok (.if_icmp .ge 33, 3) := by decide +kernel
theorem dX11_fits_40 : decode cX11_fits 40 = .ok (.aload_n 0, 1) := by decide +kernel
theorem dX11_fits_41 : decode cX11_fits 41 = .ok (.getfield 10, 3) := by decide +kernel
theorem dX11_fits_44 : decode cX11_fits 44 = .ok (.iload_n 1, 1) := by decide +kernel
theorem dX11_fits_45 : decode cX11_fits 45 = .ok (.iload 4, 2) := by decide +kernel
theorem dX11_fits_47 : decode cX11_fits 47 = .ok (.invokevirtual 369, 3) := by decide +kernel
theorem dX11_fits_50 : decode cX11_fits 50 = .ok (.ifCond .eq 14, 3) := by decide +kernel
theorem dX11_fits_53 : decode cX11_fits 53 = .ok (.iload_n 3, 1) := by decide +kernel
theorem dX11_fits_54 : decode cX11_fits 54 = .ok (.iload_n 2, 1) := by decide +kernel
theorem dX11_fits_55 : decode cX11_fits 55 = .ok (.if_icmp .ne 6, 3) := by decide +kernel
theorem dX11_fits_58 : decode cX11_fits 58 = .ok (.iload 4, 2) := by decide +kernel
theorem dX11_fits_60 : decode cX11_fits 60 = .ok (.ireturn, 1) := by decide +kernel
theorem dX11_fits_61 : decode cX11_fits 61 = .ok (.iinc 3 1, 3) := by decide +kernel
theorem dX11_fits_64 : decode cX11_fits 64 = .ok (.iinc 4 1, 3) := by decide +kernel
theorem dX11_fits_67 : decode cX11_fits 67 = .ok (.goto (-39), 3) := by decide +kernel
theorem dX11_fits_70 : decode cX11_fits 70 = .ok (.iload_n 2, 1) := by decide +kernel
theorem dX11_fits_71 : decode cX11_fits 71 = .ok (.iconst (-1), 1) := by decide +kernel
theorem dX11_fits_72 : decode cX11_fits 72 = .ok (.if_icmp .ne 7, 3) := by decide +kernel
theorem dX11_fits_75 : decode cX11_fits 75 = .ok (.iload_n 3, 1) := by decide +kernel
theorem dX11_fits_76 : decode cX11_fits 76 = .ok (.goto 4, 3) := by decide +kernel
theorem dX11_fits_79 : decode cX11_fits 79 = .ok (.iconst (-1), 1) := by decide +kernel
theorem dX11_fits_80 : decode cX11_fits 80 = .ok (.ireturn, 1) := by decide +kernel
theorem dX11_hold_0 : decode cX11_hold 0 = .ok (.iload_n 1, 1) := by decide +kernel
theorem dX11_hold_1 : decode cX11_hold 1 = .ok (.iconst 0, 1) := by decide +kernel
theorem dX11_hold_2 : decode cX11_hold 2 = .ok (.aload_n 0, 1) := by decide +kernel
theorem dX11_hold_3 : decode cX11_hold 3 = .ok (.getfield 10, 3) := by decide +kernel
theorem dX11_hold_6 : decode cX11_hold 6 = .ok (.getfield 87, 3) := by decide +kernel
theorem dX11_hold_9 : decode cX11_hold 9 = .ok (.getfield 97, 3) := by decide +kernel
theorem dX11_hold_12 : decode cX11_hold 12 = .ok (.iconst 1, 1) := by decide +kernel
theorem dX11_hold_13 : decode cX11_hold 13 = .ok (.isub, 1) := by decide +kernel
theorem dX11_hold_14 : decode cX11_hold 14 = .ok (.invokestatic 59, 3) := by decide +kernel
theorem dX11_hold_17 : decode cX11_hold 17 = .ok (.ifCond .ne 6, 3) := by decide +kernel
theorem dX11_hold_20 : decode cX11_hold 20 = .ok (.bipush (-2), 2) := by decide +kernel
theorem dX11_hold_22 : decode cX11_hold 22 = .ok (.ireturn, 1) := by decide +kernel
theorem dX11_hold_23 : decode cX11_hold 23 = .ok (.iconst 0, 1) := by decide +kernel
theorem dX11_hold_24 : decode cX11_hold 24 = .ok (.istore_n 2, 1) := by decide +kernel
theorem dX11_hold_25 : decode cX11_hold 25 = .ok (.iconst 0, 1) := by decide +kernel
theorem dX11_hold_26 : decode cX11_hold 26 = .ok (.istore_n 3, 1) := by decide +kernel
theorem dX11_hold_27 : decode cX11_hold 27 = .ok (.iload_n 3, 1) := by decide +kernel
theorem dX11_hold_28 : decode cX11_hold 28 = .ok (.aload_n 0, 1) := by decide +kernel
theorem dX11_hold_29 : decode cX11_hold 29 = .ok (.getfield 10, 3) := by decide +kernel
theorem dX11_hold_32 : decode cX11_hold 32 = .ok (.getfield 271, 3) := by decide +kernel
theorem dX11_hold_35 : decode cX11_hold 35 = .ok (.if_icmp .ge 68, 3) := by decide +kernel
theorem dX11_hold_38 : decode cX11_hold 38 = .ok (.aload_n 0, 1) := by decide +kernel
theorem dX11_hold_39 : decode cX11_hold 39 = .ok (.getfield 10, 3) := by decide +kernel
theorem dX11_hold_42 : decode cX11_hold 42 = .ok (.iload_n 1, 1) := by decide +kernel
theorem dX11_hold_43 : decode cX11_hold 43 = .ok (.iload_n 3, 1) := by decide +kernel
theorem dX11_hold_44 : decode cX11_hold 44 = .ok (.invokevirtual 369, 3) := by decide +kernel
theorem dX11_hold_47 : decode cX11_hold 47 = .ok (.ifCond .eq 50, 3) := by decide +kernel
theorem dX11_hold_50 : decode cX11_hold 50 = .ok (.aload_n 0, 1) := by decide +kernel
theorem dX11_hold_51 : decode cX11_hold 51 = .ok (.getfield 10, 3) := by decide +kernel
theorem dX11_hold_54 : decode cX11_hold 54 = .ok (.getfield 200, 3) := by decide +kernel
theorem dX11_hold_57 : decode cX11_hold 57 = .ok (.iload_n 3, 1) := by decide +kernel
theorem dX11_hold_58 : decode cX11_hold 58 = .ok (.aaload, 1) := by decide +kernel
theorem dX11_hold_59 : decode cX11_hold 59 = .ok (.astore 4, 2) := by decide +kernel
theorem dX11_hold_61 : decode cX11_hold 61 = .ok (.aload 4, 2) := by decide +kernel
theorem dX11_hold_63 : decode cX11_hold 63 = .ok (.aload 4, 2) := by decide +kernel
theorem dX11_hold_65 : decode cX11_hold 65 = .ok (.getfield 372, 3) := by decide +kernel
theorem dX11_hold_68 : decode cX11_hold 68 = .ok (.aload_n 0, 1) := by decide +kernel
theorem dX11_hold_69 : decode cX11_hold 69 = .ok (.getfield 10, 3) := by decide +kernel
theorem dX11_hold_72 : decode cX11_hold 72 = .ok (.getfield 174, 3) := by decide +kernel
theorem dX11_hold_75 : decode cX11_hold 75 = .ok (.aload_n 0, 1) := by decide +kernel
theorem dX11_hold_76 : decode cX11_hold 76 = .ok (.getfield 10, 3) := by decide +kernel
theorem dX11_hold_79 : decode cX11_hold 79 = .ok (.getfield 73, 3) := by decide +kernel
theorem dX11_hold_82 : decode cX11_hold 82 = .ok (.getfield 225, 3) := by decide +kernel
theorem dX11_hold_85 : decode cX11_hold 85 = .ok (.iconst 5, 1) := by decide +kernel
theorem dX11_hold_86 : decode cX11_hold 86 = .ok (.iaload, 1) := by decide +kernel
theorem dX11_hold_87 : decode cX11_hold 87 = .ok (.iadd, 1) := by decide +kernel
theorem dX11_hold_88 : decode cX11_hold 88 = .ok (.invokestatic 277, 3) := by decide +kernel
theorem dX11_hold_91 : decode cX11_hold 91 = .ok (.putfield 372, 3) := by decide +kernel
theorem dX11_hold_94 : decode cX11_hold 94 = .ok (.iinc 2 1, 3) := by decide +kernel
theorem dX11_hold_97 : decode cX11_hold 97 = .ok (.iinc 3 1, 3) := by decide +kernel
theorem dX11_hold_100 : decode cX11_hold 100 = .ok (.goto (-73), 3) := by decide +kernel
theorem dX11_hold_103 : decode cX11_hold 103 = .ok (.iload_n 2, 1) := by decide +kernel
theorem dX11_hold_104 : decode cX11_hold 104 = .ok (.ireturn, 1) := by decide +kernel
theorem dX11_runs_0 : decode cX11_runs 0 = .ok (.aload_n 0, 1) := by decide +kernel
theorem dX11_runs_1 : decode cX11_runs 1 = .ok (.getfield 10, 3) := by decide +kernel
theorem dX11_runs_4 : decode cX11_runs 4 = .ok (.iload_n 1, 1) := by decide +kernel
theorem dX11_runs_5 : decode cX11_runs 5 = .ok (.invokevirtual 170, 3) := by decide +kernel
theorem dX11_runs_8 : decode cX11_runs 8 = .ok (.ifCond .eq 12, 3) := by decide +kernel
theorem dX11_runs_11 : decode cX11_runs 11 = .ok (.iload_n 2, 1) := by decide +kernel
theorem dX11_runs_12 : decode cX11_runs 12 = .ok (.iconst 0, 1) := by decide +kernel
theorem dX11_runs_13 : decode cX11_runs 13 = .ok (.iconst 1, 1) := by decide +kernel
theorem dX11_runs_14 : decode cX11_runs 14 = .ok (.invokestatic 59, 3) := by decide +kernel
theorem dX11_runs_17 : decode cX11_runs 17 = .ok (.ifCond .ne 6, 3) := by decide +kernel
theorem dX11_runs_20 : decode cX11_runs 20 = .ok (.bipush (-2), 2) := by decide +kernel
theorem dX11_runs_22 : decode cX11_runs 22 = .ok (.ireturn, 1) := by decide +kernel
theorem dX11_runs_23 : decode cX11_runs 23 = .ok (.aload_n 0, 1) := by decide +kernel
theorem dX11_runs_24 : decode cX11_runs 24 = .ok (.getfield 10, 3) := by decide +kernel
theorem dX11_runs_27 : decode cX11_runs 27 = .ok (.getfield 105, 3) := by decide +kernel
theorem dX11_runs_30 : decode cX11_runs 30 = .ok (.ifCond .ne 6, 3) := by decide +kernel
theorem dX11_runs_33 : decode cX11_runs 33 = .ok (.bipush (-5), 2) := by decide +kernel
theorem dX11_runs_35 : decode cX11_runs 35 = .ok (.ireturn, 1) := by decide +kernel
theorem dX11_runs_36 : decode cX11_runs 36 = .ok (.iconst 0, 1) := by decide +kernel
theorem dX11_runs_37 : decode cX11_runs 37 = .ok (.istore_n 3, 1) := by decide +kernel
theorem dX11_runs_38 : decode cX11_runs 38 = .ok (.iconst 0, 1) := by decide +kernel
theorem dX11_runs_39 : decode cX11_runs 39 = .ok (.istore 4, 2) := by decide +kernel
theorem dX11_runs_41 : decode cX11_runs 41 = .ok (.iconst 0, 1) := by decide +kernel
theorem dX11_runs_42 : decode cX11_runs 42 = .ok (.istore 5, 2) := by decide +kernel
theorem dX11_runs_44 : decode cX11_runs 44 = .ok (.iload 5, 2) := by decide +kernel
theorem dX11_runs_46 : decode cX11_runs 46 = .ok (.aload_n 0, 1) := by decide +kernel
theorem dX11_runs_47 : decode cX11_runs 47 = .ok (.getfield 10, 3) := by decide +kernel
theorem dX11_runs_50 : decode cX11_runs 50 = .ok (.getfield 271, 3) := by decide +kernel
theorem dX11_runs_53 : decode cX11_runs 53 = .ok (.if_icmp .ge 36, 3) := by decide +kernel
theorem dX11_runs_56 : decode cX11_runs 56 = .ok (.aload_n 0, 1) := by decide +kernel
theorem dX11_runs_57 : decode cX11_runs 57 = .ok (.getfield 10, 3) := by decide +kernel
theorem dX11_runs_60 : decode cX11_runs 60 = .ok (.iload_n 1, 1) := by decide +kernel
theorem dX11_runs_61 : decode cX11_runs 61 = .ok (.iload 5, 2) := by decide +kernel
theorem dX11_runs_63 : decode cX11_runs 63 = .ok (.invokevirtual 375, 3) := by decide +kernel
theorem dX11_runs_66 : decode cX11_runs 66 = .ok (.istore 6, 2) := by decide +kernel
theorem dX11_runs_68 : decode cX11_runs 68 = .ok (.iload 6, 2) := by decide +kernel
theorem dX11_runs_70 : decode cX11_runs 70 = .ok (.ifCond .le 13, 3) := by decide +kernel
theorem dX11_runs_73 : decode cX11_runs 73 = .ok (.iinc 3 1, 3) := by decide +kernel
theorem dX11_runs_76 : decode cX11_runs 76 = .ok (.iload 4, 2) := by decide +kernel
theorem dX11_runs_78 : decode cX11_runs 78 = .ok (.iload 6, 2) := by decide +kernel
theorem dX11_runs_80 : decode cX11_runs 80 = .ok (.iadd, 1) := by decide +kernel
theorem dX11_runs_81 : decode cX11_runs 81 = .ok (.istore 4, 2) := by decide +kernel
theorem dX11_runs_83 : decode cX11_runs 83 = .ok (.iinc 5 1, 3) := by decide +kernel
theorem dX11_runs_86 : decode cX11_runs 86 = .ok (.goto (-42), 3) := by decide +kernel
theorem dX11_runs_89 : decode cX11_runs 89 = .ok (.iload_n 2, 1) := by decide +kernel
theorem dX11_runs_90 : decode cX11_runs 90 = .ok (.ifCond .ne 7, 3) := by decide +kernel
theorem dX11_runs_93 : decode cX11_runs 93 = .ok (.iload_n 3, 1) := by decide +kernel
theorem dX11_runs_94 : decode cX11_runs 94 = .ok (.goto 5, 3) := by decide +kernel
theorem dX11_runs_97 : decode cX11_runs 97 = .ok (.iload 4, 2) := by decide +kernel
theorem dX11_runs_99 : decode cX11_runs 99 = .ok (.ireturn, 1) := by decide +kernel
theorem dX11_chain_0 : decode cX11_chain 0 = .ok (.aload_n 0, 1) := by decide +kernel
theorem dX11_chain_1 : decode cX11_chain 1 = .ok (.getfield 10, 3) := by decide +kernel
theorem dX11_chain_4 : decode cX11_chain 4 = .ok (.iload_n 1, 1) := by decide +kernel
theorem dX11_chain_5 : decode cX11_chain 5 = .ok (.invokevirtual 170, 3) := by decide +kernel
theorem dX11_chain_8 : decode cX11_chain 8 = .ok (.ifCond .eq 18, 3) := by decide +kernel
theorem dX11_chain_11 : decode cX11_chain 11 = .ok (.aload_n 0, 1) := by decide +kernel
theorem dX11_chain_12 : decode cX11_chain 12 = .ok (.getfield 41, 3) := by decide +kernel
theorem dX11_chain_15 : decode cX11_chain 15 = .ok (.aload_n 0, 1) := by decide +kernel
theorem dX11_chain_16 : decode cX11_chain 16 = .ok (.getfield 10, 3) := by decide +kernel
theorem dX11_chain_19 : decode cX11_chain 19 = .ok (.iload_n 1, 1) := by decide +kernel
theorem dX11_chain_20 : decode cX11_chain 20 = .ok (.invokevirtual 378, 3) := by decide +kernel
theorem dX11_chain_23 : decode cX11_chain 23 = .ok (.goto 5, 3) := by decide +kernel
theorem dX11_chain_26 : decode cX11_chain 26 = .ok (.bipush (-2), 2) := by decide +kernel
theorem dX11_chain_28 : decode cX11_chain 28 = .ok (.ireturn, 1) := by decide +kernel
theorem dX11_book_0 : decode cX11_book 0 = .ok (.iload_n 1, 1) := by decide +kernel
theorem dX11_book_1 : decode cX11_book 1 = .ok (.iconst 0, 1) := by decide +kernel
theorem dX11_book_2 : decode cX11_book 2 = .ok (.aload_n 0, 1) := by decide +kernel
theorem dX11_book_3 : decode cX11_book 3 = .ok (.getfield 10, 3) := by decide +kernel
theorem dX11_book_6 : decode cX11_book 6 = .ok (.getfield 174, 3) := by decide +kernel
theorem dX11_book_9 : decode cX11_book 9 = .ok (.invokestatic 59, 3) := by decide +kernel
theorem dX11_book_12 : decode cX11_book 12 = .ok (.ifCond .eq 12, 3) := by decide +kernel
theorem dX11_book_15 : decode cX11_book 15 = .ok (.iload_n 2, 1) := by decide +kernel
theorem dX11_book_16 : decode cX11_book 16 = .ok (.iconst 0, 1) := by decide +kernel
theorem dX11_book_17 : decode cX11_book 17 = .ok (.iconst 4, 1) := by decide +kernel
theorem dX11_book_18 : decode cX11_book 18 = .ok (.invokestatic 59, 3) := by decide +kernel
theorem dX11_book_21 : decode cX11_book 21 = .ok (.ifCond .ne 6, 3) := by decide +kernel
theorem dX11_book_24 : decode cX11_book 24 = .ok (.bipush (-2), 2) := by decide +kernel
theorem dX11_book_26 : decode cX11_book 26 = .ok (.ireturn, 1) := by decide +kernel
theorem dX11_book_27 : decode cX11_book 27 = .ok (.aload_n 0, 1) := by decide +kernel
theorem dX11_book_28 : decode cX11_book 28 = .ok (.getfield 10, 3) := by decide +kernel
theorem dX11_book_31 : decode cX11_book 31 = .ok (.getfield 381, 3) := by decide +kernel
theorem dX11_book_34 : decode cX11_book 34 = .ok (.iload_n 2, 1) := by decide +kernel
theorem dX11_book_35 : decode cX11_book 35 = .ok (.aaload, 1) := by decide +kernel
theorem dX11_book_36 : decode cX11_book 36 = .ok (.iload_n 1, 1) := by decide +kernel
theorem dX11_book_37 : decode cX11_book 37 = .ok (.iaload, 1) := by decide +kernel
theorem dX11_book_38 : decode cX11_book 38 = .ok (.ireturn, 1) := by decide +kernel
theorem dX11_worst_0 : decode cX11_worst 0 = .ok (.iload_n 2, 1) := by decide +kernel
theorem dX11_worst_1 : decode cX11_worst 1 = .ok (.iconst 0, 1) := by decide +kernel
theorem dX11_worst_2 : decode cX11_worst 2 = .ok (.iconst 1, 1) := by decide +kernel
theorem dX11_worst_3 : decode cX11_worst 3 = .ok (.invokestatic 59, 3) := by decide +kernel
theorem dX11_worst_6 : decode cX11_worst 6 = .ok (.ifCond .ne 6, 3) := by decide +kernel
theorem dX11_worst_9 : decode cX11_worst 9 = .ok (.bipush (-2), 2) := by decide +kernel
theorem dX11_worst_11 : decode cX11_worst 11 = .ok (.ireturn, 1) := by decide +kernel
theorem dX11_worst_12 : decode cX11_worst 12 = .ok (.iload_n 1, 1) := by decide +kernel
theorem dX11_worst_13 : decode cX11_worst 13 = .ok (.iconst 1, 1) := by decide +kernel
theorem dX11_worst_14 : decode cX11_worst 14 = .ok (.bipush 52, 2) := by decide +kernel
theorem dX11_worst_16 : decode cX11_worst 16 = .ok (.invokestatic 59, 3) := by decide +kernel
theorem dX11_worst_19 : decode cX11_worst 19 = .ok (.ifCond .eq 16, 3) := by decide +kernel
theorem dX11_worst_22 : decode cX11_worst 22 = .ok (.iload_n 1, 1) := by decide +kernel
theorem dX11_worst_23 : decode cX11_worst 23 = .ok (.aload_n 0, 1) := by decide +kernel
theorem dX11_worst_24 : decode cX11_worst 24 = .ok (.getfield 10, 3) := by decide +kernel
theorem dX11_worst_27 : decode cX11_worst 27 = .ok (.getfield 174, 3) := by decide +kernel
theorem dX11_worst_30 : decode cX11_worst 30 = .ok (.iconst 1, 1) := by decide +kernel
theorem dX11_worst_31 : decode cX11_worst 31 = .ok (.iadd, 1) := by decide +kernel
theorem dX11_worst_32 : decode cX11_worst 32 = .ok (.if_icmp .le 6, 3) := by decide +kernel
theorem dX11_worst_35 : decode cX11_worst 35 = .ok (.bipush (-3), 2) := by decide +kernel
theorem dX11_worst_37 : decode cX11_worst 37 = .ok (.ireturn, 1) := by decide +kernel
theorem dX11_worst_38 : decode cX11_worst 38 = .ok (.iconst 0, 1) := by decide +kernel
theorem dX11_worst_39 : decode cX11_worst 39 = .ok (.istore_n 3, 1) := by decide +kernel
theorem dX11_worst_40 : decode cX11_worst 40 = .ok (.iconst 0, 1) := by decide +kernel
theorem dX11_worst_41 : decode cX11_worst 41 = .ok (.istore 4, 2) := by decide +kernel
theorem dX11_worst_43 : decode cX11_worst 43 = .ok (.iload 4, 2) := by decide +kernel
theorem dX11_worst_45 : decode cX11_worst 45 = .ok (.iload_n 1, 1) := by decide +kernel
theorem dX11_worst_46 : decode cX11_worst 46 = .ok (.if_icmp .ge 21, 3) := by decide +kernel
theorem dX11_worst_49 : decode cX11_worst 49 = .ok (.iload_n 3, 1) := by decide +kernel
theorem dX11_worst_50 : decode cX11_worst 50 = .ok (.aload_n 0, 1) := by decide +kernel
theorem dX11_worst_51 : decode cX11_worst 51 = .ok (.getfield 10, 3) := by decide +kernel
theorem dX11_worst_54 : decode cX11_worst 54 = .ok (.iload 4, 2) := by decide +kernel
theorem dX11_worst_56 : decode cX11_worst 56 = .ok (.invokevirtual 384, 3) := by decide +kernel
theorem dX11_worst_59 : decode cX11_worst 59 = .ok (.iadd, 1) := by decide +kernel
theorem dX11_worst_60 : decode cX11_worst 60 = .ok (.istore_n 3, 1) := by decide +kernel
theorem dX11_worst_61 : decode cX11_worst 61 = .ok (.iinc 4 1, 3) := by decide +kernel
theorem dX11_worst_64 : decode cX11_worst 64 = .ok (.goto (-21), 3) := by decide +kernel
theorem dX11_worst_67 : decode cX11_worst 67 = .ok (.iconst 0, 1) := by decide +kernel
theorem dX11_worst_68 : decode cX11_worst 68 = .ok (.istore 4, 2) := by decide +kernel
theorem dX11_worst_70 : decode cX11_worst 70 = .ok (.iload_n 3, 1) := by decide +kernel
theorem dX11_worst_71 : decode cX11_worst 71 = .ok (.istore 5, 2) := by decide +kernel
theorem dX11_worst_73 : decode cX11_worst 73 = .ok (.iconst 1, 1) := by decide +kernel
theorem dX11_worst_74 : decode cX11_worst 74 = .ok (.istore 6, 2) := by decide +kernel
theorem dX11_worst_76 : decode cX11_worst 76 = .ok (.iload 6, 2) := by decide +kernel
theorem dX11_worst_78 : decode cX11_worst 78 = .ok (.iload_n 1, 1) := by decide +kernel
theorem dX11_worst_79 : decode cX11_worst 79 = .ok (.iadd, 1) := by decide +kernel
theorem dX11_worst_80 : decode cX11_worst 80 = .ok (.aload_n 0, 1) := by decide +kernel
theorem dX11_worst_81 : decode cX11_worst 81 = .ok (.getfield 10, 3) := by decide +kernel
theorem dX11_worst_84 : decode cX11_worst 84 = .ok (.getfield 174, 3) := by decide +kernel
theorem dX11_worst_87 : decode cX11_worst 87 = .ok (.iconst 1, 1) := by decide +kernel
theorem dX11_worst_88 : decode cX11_worst 88 = .ok (.iadd, 1) := by decide +kernel
theorem dX11_worst_89 : decode cX11_worst 89 = .ok (.if_icmp .gt 50, 3) := by decide +kernel
theorem dX11_worst_92 : decode cX11_worst 92 = .ok (.iload_n 3, 1) := by decide +kernel
theorem dX11_worst_93 : decode cX11_worst 93 = .ok (.aload_n 0, 1) := by decide +kernel
theorem dX11_worst_94 : decode cX11_worst 94 = .ok (.getfield 10, 3) := by decide +kernel
theorem dX11_worst_97 : decode cX11_worst 97 = .ok (.iload 6, 2) := by decide +kernel
theorem dX11_worst_99 : decode cX11_worst 99 = .ok (.iload_n 1, 1) := by decide +kernel
theorem dX11_worst_100 : decode cX11_worst 100 = .ok (.iadd, 1) := by decide +kernel
theorem dX11_worst_101 : decode cX11_worst 101 = .ok (.iconst 1, 1) := by decide +kernel
theorem dX11_worst_102 : decode cX11_worst 102 = .ok (.isub, 1) := by decide +kernel
theorem dX11_worst_103 : decode cX11_worst 103 = .ok (.invokevirtual 384, 3) := by decide +kernel
theorem dX11_worst_106 : decode cX11_worst 106 = .ok (.aload_n 0, 1) := by decide +kernel
theorem dX11_worst_107 : decode cX11_worst 107 = .ok (.getfield 10, 3) := by decide +kernel
theorem dX11_worst_110 : decode cX11_worst 110 = .ok (.iload 6, 2) := by decide +kernel
theorem dX11_worst_112 : decode cX11_worst 112 = .ok (.iconst 1, 1) := by decide +kernel
theorem dX11_worst_113 : decode cX11_worst 113 = .ok (.isub, 1) := by decide +kernel
theorem dX11_worst_114 : decode cX11_worst 114 = .ok (.invokevirtual 384, 3) := by decide +kernel
theorem dX11_worst_117 : decode cX11_worst 117 = .ok (.isub, 1) := by decide +kernel
theorem dX11_worst_118 : decode cX11_worst 118 = .ok (.iadd, 1) := by decide +kernel
theorem dX11_worst_119 : decode cX11_worst 119 = .ok (.istore_n 3, 1) := by decide +kernel
theorem dX11_worst_120 : decode cX11_worst 120 = .ok (.iload_n 3, 1) := by decide +kernel
theorem dX11_worst_121 : decode cX11_worst 121 = .ok (.iload 5, 2) := by decide +kernel
theorem dX11_worst_123 : decode cX11_worst 123 = .ok (.if_icmp .le 10, 3) := by decide +kernel
theorem dX11_worst_126 : decode cX11_worst 126 = .ok (.iload_n 3, 1) := by decide +kernel
theorem dX11_worst_127 : decode cX11_worst 127 = .ok (.istore 5, 2) := by decide +kernel
theorem dX11_worst_129 : decode cX11_worst 129 = .ok (.iload 6, 2) := by decide +kernel
theorem dX11_worst_131 : decode cX11_worst 131 = .ok (.istore 4, 2) := by decide +kernel
theorem dX11_worst_133 : decode cX11_worst 133 = .ok (.iinc 6 1, 3) := by decide +kernel
theorem dX11_worst_136 : decode cX11_worst 136 = .ok (.goto (-60), 3) := by decide +kernel
theorem dX11_worst_139 : decode cX11_worst 139 = .ok (.iload_n 2, 1) := by decide +kernel
theorem dX11_worst_140 : decode cX11_worst 140 = .ok (.ifCond .ne 8, 3) := by decide +kernel
theorem dX11_worst_143 : decode cX11_worst 143 = .ok (.iload 4, 2) := by decide +kernel
theorem dX11_worst_145 : decode cX11_worst 145 = .ok (.goto 5, 3) := by decide +kernel
theorem dX11_worst_148 : decode cX11_worst 148 = .ok (.iload 5, 2) := by decide +kernel
theorem dX11_worst_150 : decode cX11_worst 150 = .ok (.ireturn, 1) := by decide +kernel
theorem dX11_scribe_0 : decode cX11_scribe 0 = .ok (.iload_n 1, 1) := by decide +kernel
theorem dX11_scribe_1 : decode cX11_scribe 1 = .ok (.iconst 0, 1) := by decide +kernel
theorem dX11_scribe_2 : decode cX11_scribe 2 = .ok (.iconst 3, 1) := by decide +kernel
theorem dX11_scribe_3 : decode cX11_scribe 3 = .ok (.invokestatic 59, 3) := by decide +kernel
theorem dX11_scribe_6 : decode cX11_scribe 6 = .ok (.ifCond .ne 6, 3) := by decide +kernel
theorem dX11_scribe_9 : decode cX11_scribe 9 = .ok (.bipush (-2), 2) := by decide +kernel
theorem dX11_scribe_11 : decode cX11_scribe 11 = .ok (.ireturn, 1) := by decide +kernel
theorem dX11_scribe_12 : decode cX11_scribe 12 = .ok (.iload_n 2, 1) := by decide +kernel
theorem dX11_scribe_13 : decode cX11_scribe 13 = .ok (.iload_n 3, 1) := by decide +kernel
theorem dX11_scribe_14 : decode cX11_scribe 14 = .ok (.iload 4, 2) := by decide +kernel
theorem dX11_scribe_16 : decode cX11_scribe 16 = .ok (.iload 5, 2) := by decide +kernel
theorem dX11_scribe_18 : decode cX11_scribe 18 = .ok (.iload 6, 2) := by decide +kernel
theorem dX11_scribe_20 : decode cX11_scribe 20 = .ok (.invokestatic 387, 3) := by decide +kernel
theorem dX11_scribe_23 : decode cX11_scribe 23 = .ok (.ifCond .ne 6, 3) := by decide +kernel
theorem dX11_scribe_26 : decode cX11_scribe 26 = .ok (.bipush (-3), 2) := by decide +kernel
theorem dX11_scribe_28 : decode cX11_scribe 28 = .ok (.ireturn, 1) := by decide +kernel
theorem dX11_scribe_29 : decode cX11_scribe 29 = .ok (.aload_n 0, 1) := by decide +kernel
theorem dX11_scribe_30 : decode cX11_scribe 30 = .ok (.getfield 10, 3) := by decide +kernel
theorem dX11_scribe_33 : decode cX11_scribe 33 = .ok (.getfield 391, 3) := by decide +kernel
theorem dX11_scribe_36 : decode cX11_scribe 36 = .ok (.iload_n 1, 1) := by decide +kernel
theorem dX11_scribe_37 : decode cX11_scribe 37 = .ok (.aaload, 1) := by decide +kernel
theorem dX11_scribe_38 : decode cX11_scribe 38 = .ok (.astore 7, 2) := by decide +kernel
theorem dX11_scribe_40 : decode cX11_scribe 40 = .ok (.aload 7, 2) := by decide +kernel
theorem dX11_scribe_42 : decode cX11_scribe 42 = .ok (.iconst 0, 1) := by decide +kernel
theorem dX11_scribe_43 : decode cX11_scribe 43 = .ok (.iload_n 2, 1) := by decide +kernel
theorem dX11_scribe_44 : decode cX11_scribe 44 = .ok (.iastore, 1) := by decide +kernel
theorem dX11_scribe_45 : decode cX11_scribe 45 = .ok (.aload 7, 2) := by decide +kernel
theorem dX11_scribe_47 : decode cX11_scribe 47 = .ok (.iconst 1, 1) := by decide +kernel
theorem dX11_scribe_48 : decode cX11_scribe 48 = .ok (.iload_n 3, 1) := by decide +kernel
theorem dX11_scribe_49 : decode cX11_scribe 49 = .ok (.iastore, 1) := by decide +kernel
theorem dX11_scribe_50 : decode cX11_scribe 50 = .ok (.aload 7, 2) := by decide +kernel
theorem dX11_scribe_52 : decode cX11_scribe 52 = .ok (.iconst 2, 1) := by decide +kernel
theorem dX11_scribe_53 : decode cX11_scribe 53 = .ok (.iload 4, 2) := by decide +kernel
theorem dX11_scribe_55 : decode cX11_scribe 55 = .ok (.iastore, 1) := by decide +kernel
theorem dX11_scribe_56 : decode cX11_scribe 56 = .ok (.aload 7, 2) := by decide +kernel
theorem dX11_scribe_58 : decode cX11_scribe 58 = .ok (.iconst 3, 1) := by decide +kernel
theorem dX11_scribe_59 : decode cX11_scribe 59 = .ok (.iload 5, 2) := by decide +kernel
theorem dX11_scribe_61 : decode cX11_scribe 61 = .ok (.iastore, 1) := by decide +kernel
theorem dX11_scribe_62 : decode cX11_scribe 62 = .ok (.aload 7, 2) := by decide +kernel
theorem dX11_scribe_64 : decode cX11_scribe 64 = .ok (.iconst 4, 1) := by decide +kernel
theorem dX11_scribe_65 : decode cX11_scribe 65 = .ok (.iload 6, 2) := by decide +kernel
theorem dX11_scribe_67 : decode cX11_scribe 67 = .ok (.iastore, 1) := by decide +kernel
theorem dX11_scribe_68 : decode cX11_scribe 68 = .ok (.iconst 0, 1) := by decide +kernel
theorem dX11_scribe_69 : decode cX11_scribe 69 = .ok (.ireturn, 1) := by decide +kernel
theorem dX11_areStrokes_0 : decode cX11_areStrokes 0 = .ok (.iload_n 0, 1) := by decide +kernel
theorem dX11_areStrokes_1 : decode cX11_areStrokes 1 = .ok (.iconst 0, 1) := by decide +kernel
theorem dX11_areStrokes_2 : decode cX11_areStrokes 2 = .ok (.bipush 9, 2) := by decide +kernel
theorem dX11_areStrokes_4 : decode cX11_areStrokes 4 = .ok (.invokestatic 59, 3) := by decide +kernel
theorem dX11_areStrokes_7 : decode cX11_areStrokes 7 = .ok (.ifCond .eq 48, 3) := by decide +kernel
theorem dX11_areStrokes_10 : decode cX11_areStrokes 10 = .ok (.iload_n 1, 1) := by decide +kernel
theorem dX11_areStrokes_11 : decode cX11_areStrokes 11 = .ok (.iconst 0, 1) := by decide +kernel
theorem dX11_areStrokes_12 : decode cX11_areStrokes 12 = .ok (.bipush 9, 2) := by decide +kernel
theorem dX11_areStrokes_14 : decode cX11_areStrokes 14 = .ok (.invokestatic 59, 3) := by decide +kernel
theorem dX11_areStrokes_17 : decode cX11_areStrokes 17 = .ok (.ifCond .eq 38, 3) := by decide +kernel
theorem dX11_areStrokes_20 : decode cX11_areStrokes 20 = .ok (.iload_n 2, 1) := by decide +kernel
theorem dX11_areStrokes_21 : decode cX11_areStrokes 21 = .ok (.iconst 0, 1) := by decide +kernel
theorem dX11_areStrokes_22 : decode cX11_areStrokes 22 = .ok (.bipush 9, 2) := by decide +kernel
theorem dX11_areStrokes_24 : decode cX11_areStrokes 24 = .ok (.invokestatic 59, 3) := by decide +kernel
theorem dX11_areStrokes_27 : decode cX11_areStrokes 27 = .ok (.ifCond .eq 28, 3) := by decide +kernel
theorem dX11_areStrokes_30 : decode cX11_areStrokes 30 = .ok (.iload_n 3, 1) := by decide +kernel
theorem dX11_areStrokes_31 : decode cX11_areStrokes 31 = .ok (.iconst 0, 1) := by decide +kernel
theorem dX11_areStrokes_32 : decode cX11_areStrokes 32 = .ok (.bipush 9, 2) := by decide +kernel
theorem dX11_areStrokes_34 : decode cX11_areStrokes 34 = .ok (.invokestatic 59, 3) := by decide +kernel
theorem dX11_areStrokes_37 : decode cX11_areStrokes 37 = .ok (.ifCond .eq 18, 3) := by decide +kernel
theorem dX11_areStrokes_40 : decode cX11_areStrokes 40 = .ok (.iload 4, 2) := by decide +kernel
theorem dX11_areStrokes_42 : decode cX11_areStrokes 42 = .ok (.iconst 0, 1) := by decide +kernel
theorem dX11_areStrokes_43 : decode cX11_areStrokes 43 = .ok (.bipush 9, 2) := by decide +kernel
theorem dX11_areStrokes_45 : decode cX11_areStrokes 45 = .ok (.invokestatic 59, 3) := by decide +kernel
theorem dX11_areStrokes_48 : decode cX11_areStrokes 48 = .ok (.ifCond .eq 7, 3) := by decide +kernel
theorem dX11_areStrokes_51 : decode cX11_areStrokes 51 = .ok (.iconst 1, 1) := by decide +kernel
theorem dX11_areStrokes_52 : decode cX11_areStrokes 52 = .ok (.goto 4, 3) := by decide +kernel
theorem dX11_areStrokes_55 : decode cX11_areStrokes 55 = .ok (.iconst 0, 1) := by decide +kernel
theorem dX11_areStrokes_56 : decode cX11_areStrokes 56 = .ok (.ireturn, 1) := by decide +kernel
theorem dX11_duty_0 : decode cX11_duty 0 = .ok (.iload_n 1, 1) := by decide +kernel
theorem dX11_duty_1 : decode cX11_duty 1 = .ok (.iconst 0, 1) := by decide +kernel
theorem dX11_duty_2 : decode cX11_duty 2 = .ok (.iconst 3, 1) := by decide +kernel
theorem dX11_duty_3 : decode cX11_duty 3 = .ok (.invokestatic 59, 3) := by decide +kernel
theorem dX11_duty_6 : decode cX11_duty 6 = .ok (.ifCond .ne 6, 3) := by decide +kernel
theorem dX11_duty_9 : decode cX11_duty 9 = .ok (.bipush (-2), 2) := by decide +kernel
theorem dX11_duty_11 : decode cX11_duty 11 = .ok (.ireturn, 1) := by decide +kernel
theorem dX11_duty_12 : decode cX11_duty 12 = .ok (.aload_n 0, 1) := by decide +kernel
theorem dX11_duty_13 : decode cX11_duty 13 = .ok (.getfield 10, 3) := by decide +kernel
theorem dX11_duty_16 : decode cX11_duty 16 = .ok (.getfield 394, 3) := by decide +kernel
theorem dX11_duty_19 : decode cX11_duty 19 = .ok (.istore_n 2, 1) := by decide +kernel
theorem dX11_duty_20 : decode cX11_duty 20 = .ok (.aload_n 0, 1) := by decide +kernel
theorem dX11_duty_21 : decode cX11_duty 21 = .ok (.getfield 10, 3) := by decide +kernel
theorem dX11_duty_24 : decode cX11_duty 24 = .ok (.iload_n 1, 1) := by decide +kernel
theorem dX11_duty_25 : decode cX11_duty 25 = .ok (.putfield 394, 3) := by decide +kernel
theorem dX11_duty_28 : decode cX11_duty 28 = .ok (.iload_n 2, 1) := by decide +kernel
theorem dX11_duty_29 : decode cX11_duty 29 = .ok (.ireturn, 1) := by decide +kernel
theorem dX11_hand_0 : decode cX11_hand 0 = .ok (.aload_n 0, 1) := by decide +kernel
theorem dX11_hand_1 : decode cX11_hand 1 = .ok (.getfield 10, 3) := by decide +kernel
theorem dX11_hand_4 : decode cX11_hand 4 = .ok (.iload_n 1, 1) := by decide +kernel
theorem dX11_hand_5 : decode cX11_hand 5 = .ok (.invokevirtual 397, 3) := by decide +kernel
theorem dX11_hand_8 : decode cX11_hand 8 = .ok (.istore 7, 2) := by decide +kernel
theorem dX11_hand_10 : decode cX11_hand 10 = .ok (.iload 7, 2) := by decide +kernel
theorem dX11_hand_12 : decode cX11_hand 12 = .ok (.iconst (-1), 1) := by decide +kernel
theorem dX11_hand_13 : decode cX11_hand 13 = .ok (.if_icmp .ne 6, 3) := by decide +kernel
theorem dX11_hand_16 : decode cX11_hand 16 = .ok (.bipush (-2), 2) := by decide +kernel
theorem dX11_hand_18 : decode cX11_hand 18 = .ok (.ireturn, 1) := by decide +kernel
theorem dX11_hand_19 : decode cX11_hand 19 = .ok (.iload_n 2, 1) := by decide +kernel
theorem dX11_hand_20 : decode cX11_hand 20 = .ok (.iload_n 3, 1) := by decide +kernel
theorem dX11_hand_21 : decode cX11_hand 21 = .ok (.iload 4, 2) := by decide +kernel
theorem dX11_hand_23 : decode cX11_hand 23 = .ok (.iload 5, 2) := by decide +kernel
theorem dX11_hand_25 : decode cX11_hand 25 = .ok (.iload 6, 2) := by decide +kernel
theorem dX11_hand_27 : decode cX11_hand 27 = .ok (.invokestatic 387, 3) := by decide +kernel
theorem dX11_hand_30 : decode cX11_hand 30 = .ok (.ifCond .ne 6, 3) := by decide +kernel
theorem dX11_hand_33 : decode cX11_hand 33 = .ok (.bipush (-3), 2) := by decide +kernel
theorem dX11_hand_35 : decode cX11_hand 35 = .ok (.ireturn, 1) := by decide +kernel
theorem dX11_hand_36 : decode cX11_hand 36 = .ok (.aload_n 0, 1) := by decide +kernel
theorem dX11_hand_37 : decode cX11_hand 37 = .ok (.iconst 0, 1) := by decide +kernel
theorem dX11_hand_38 : decode cX11_hand 38 = .ok (.iload_n 2, 1) := by decide +kernel
theorem dX11_hand_39 : decode cX11_hand 39 = .ok (.iload_n 3, 1) := by decide +kernel
theorem dX11_hand_40 : decode cX11_hand 40 = .ok (.iload 4, 2) := by decide +kernel
theorem dX11_hand_42 : decode cX11_hand 42 = .ok (.iload 5, 2) := by decide +kernel
theorem dX11_hand_44 : decode cX11_hand 44 = .ok (.iload 6, 2) := by decide +kernel
theorem dX11_hand_46 : decode cX11_hand 46 = .ok (.invokevirtual 400, 3) := by decide +kernel
theorem dX11_hand_49 : decode cX11_hand 49 = .ok (.istore 8, 2) := by decide +kernel
theorem dX11_hand_51 : decode cX11_hand 51 = .ok (.iconst 1, 1) := by decide +kernel
theorem dX11_hand_52 : decode cX11_hand 52 = .ok (.istore 9, 2) := by decide +kernel
theorem dX11_hand_54 : decode cX11_hand 54 = .ok (.iload 9, 2) := by decide +kernel
theorem dX11_hand_56 : decode cX11_hand 56 = .ok (.iconst 4, 1) := by decide +kernel
theorem dX11_hand_57 : decode cX11_hand 57 = .ok (.if_icmp .ge 30, 3) := by decide +kernel
theorem dX11_hand_60 : decode cX11_hand 60 = .ok (.iload 8, 2) := by decide +kernel
theorem dX11_hand_62 : decode cX11_hand 62 = .ok (.aload_n 0, 1) := by decide +kernel
theorem dX11_hand_63 : decode cX11_hand 63 = .ok (.iload 9, 2) := by decide +kernel
theorem dX11_hand_65 : decode cX11_hand 65 = .ok (.iload_n 2, 1) := by decide +kernel
theorem dX11_hand_66 : decode cX11_hand 66 = .ok (.iload_n 3, 1) := by decide +kernel
theorem dX11_hand_67 : decode cX11_hand 67 = .ok (.iload 4, 2) := by decide +kernel
theorem dX11_hand_69 : decode cX11_hand 69 = .ok (.iload 5, 2) := by decide +kernel
theorem dX11_hand_71 : decode cX11_hand 71 = .ok (.iload 6, 2) := by decide +kernel
theorem dX11_hand_73 : decode cX11_hand 73 = .ok (.invokevirtual 400, 3) := by decide +kernel
theorem dX11_hand_76 : decode cX11_hand 76 = .ok (.invokestatic 282, 3) := by decide +kernel
theorem dX11_hand_79 : decode cX11_hand 79 = .ok (.istore 8, 2) := by decide +kernel
theorem dX11_hand_81 : decode cX11_hand 81 = .ok (.iinc 9 1, 3) := by decide +kernel
theorem dX11_hand_84 : decode cX11_hand 84 = .ok (.goto (-30), 3) := by decide +kernel
theorem dX11_hand_87 : decode cX11_hand 87 = .ok (.iload 8, 2) := by decide +kernel
theorem dX11_hand_89 : decode cX11_hand 89 = .ok (.bipush 6, 2) := by decide +kernel
theorem dX11_hand_91 : decode cX11_hand 91 = .ok (.if_icmp .le 5, 3) := by decide +kernel
theorem dX11_hand_94 : decode cX11_hand 94 = .ok (.iconst 2, 1) := by decide +kernel
theorem dX11_hand_95 : decode cX11_hand 95 = .ok (.ireturn, 1) := by decide +kernel
theorem dX11_hand_96 : decode cX11_hand 96 = .ok (.aload_n 0, 1) := by decide +kernel
theorem dX11_hand_97 : decode cX11_hand 97 = .ok (.aload_n 0, 1) := by decide +kernel
theorem dX11_hand_98 : decode cX11_hand 98 = .ok (.getfield 10, 3) := by decide +kernel
theorem dX11_hand_101 : decode cX11_hand 101 = .ok (.getfield 188, 3) := by decide +kernel
theorem dX11_hand_104 : decode cX11_hand 104 = .ok (.iload 7, 2) := by decide +kernel
theorem dX11_hand_106 : decode cX11_hand 106 = .ok (.aaload, 1) := by decide +kernel
theorem dX11_hand_107 : decode cX11_hand 107 = .ok (.getfield 404, 3) := by decide +kernel
theorem dX11_hand_110 : decode cX11_hand 110 = .ok (.iload_n 2, 1) := by decide +kernel
theorem dX11_hand_111 : decode cX11_hand 111 = .ok (.iload_n 3, 1) := by decide +kernel
theorem dX11_hand_112 : decode cX11_hand 112 = .ok (.iload 4, 2) := by decide +kernel
theorem dX11_hand_114 : decode cX11_hand 114 = .ok (.iload 5, 2) := by decide +kernel
theorem dX11_hand_116 : decode cX11_hand 116 = .ok (.iload 6, 2) := by decide +kernel
theorem dX11_hand_118 : decode cX11_hand 118 = .ok (.invokevirtual 400, 3) := by decide +kernel
theorem dX11_hand_121 : decode cX11_hand 121 = .ok (.iload 8, 2) := by decide +kernel
theorem dX11_hand_123 : decode cX11_hand 123 = .ok (.if_icmp .ne 7, 3) := by decide +kernel
theorem dX11_hand_126 : decode cX11_hand 126 = .ok (.iconst 0, 1) := by decide +kernel
theorem dX11_hand_127 : decode cX11_hand 127 = .ok (.goto 4, 3) := by decide +kernel
theorem dX11_hand_130 : decode cX11_hand 130 = .ok (.iconst 1, 1) := by decide +kernel
theorem dX11_hand_131 : decode cX11_hand 131 = .ok (.ireturn, 1) := by decide +kernel
theorem dX11_farFrom_0 : decode cX11_farFrom 0 = .ok (.aload_n 0, 1) := by decide +kernel
theorem dX11_farFrom_1 : decode cX11_farFrom 1 = .ok (.getfield 10, 3) := by decide +kernel
theorem dX11_farFrom_4 : decode cX11_farFrom 4 = .ok (.getfield 391, 3) := by decide +kernel
theorem dX11_farFrom_7 : decode cX11_farFrom 7 = .ok (.iload_n 1, 1) := by decide +kernel
theorem dX11_farFrom_8 : decode cX11_farFrom 8 = .ok (.aaload, 1) := by decide +kernel
theorem dX11_farFrom_9 : decode cX11_farFrom 9 = .ok (.astore 7, 2) := by decide +kernel
theorem dX11_farFrom_11 : decode cX11_farFrom 11 = .ok (.iload_n 2, 1) := by decide +kernel
theorem dX11_farFrom_12 : decode cX11_farFrom 12 = .ok (.aload 7, 2) := by decide +kernel
theorem dX11_farFrom_14 : decode cX11_farFrom 14 = .ok (.iconst 0, 1) := by decide +kernel
theorem dX11_farFrom_15 : decode cX11_farFrom 15 = .ok (.iaload, 1) := by decide +kernel
theorem dX11_farFrom_16 : decode cX11_farFrom 16 = .ok (.isub, 1) := by decide +kernel
theorem dX11_farFrom_17 : decode cX11_farFrom 17 = .ok (.invokestatic 407, 3) := by decide +kernel
theorem dX11_farFrom_20 : decode cX11_farFrom 20 = .ok (.iload_n 3, 1) := by decide +kernel
theorem dX11_farFrom_21 : decode cX11_farFrom 21 = .ok (.aload 7, 2) := by decide +kernel
theorem dX11_farFrom_23 : decode cX11_farFrom 23 = .ok (.iconst 1, 1) := by decide +kernel
theorem dX11_farFrom_24 : decode cX11_farFrom 24 = .ok (.iaload, 1) := by decide +kernel
theorem dX11_farFrom_25 : decode cX11_farFrom 25 = .ok (.isub, 1) := by decide +kernel
theorem dX11_farFrom_26 : decode cX11_farFrom 26 = .ok (.invokestatic 407, 3) := by decide +kernel
theorem dX11_farFrom_29 : decode cX11_farFrom 29 = .ok (.iadd, 1) := by decide +kernel
theorem dX11_farFrom_30 : decode cX11_farFrom 30 = .ok (.iload 4, 2) := by decide +kernel
theorem dX11_farFrom_32 : decode cX11_farFrom 32 = .ok (.aload 7, 2) := by decide +kernel
theorem dX11_farFrom_34 : decode cX11_farFrom 34 = .ok (.iconst 2, 1) := by decide +kernel
theorem dX11_farFrom_35 : decode cX11_farFrom 35 = .ok (.iaload, 1) := by decide +kernel
theorem dX11_farFrom_36 : decode cX11_farFrom 36 = .ok (.isub, 1) := by decide +kernel
theorem dX11_farFrom_37 : decode cX11_farFrom 37 = .ok (.invokestatic 407, 3) := by decide +kernel
theorem dX11_farFrom_40 : decode cX11_farFrom 40 = .ok (.iadd, 1) := by decide +kernel
theorem dX11_farFrom_41 : decode cX11_farFrom 41 = .ok (.iload 5, 2) := by decide +kernel
theorem dX11_farFrom_43 : decode cX11_farFrom 43 = .ok (.aload 7, 2) := by decide +kernel
theorem dX11_farFrom_45 : decode cX11_farFrom 45 = .ok (.iconst 3, 1) := by decide +kernel
theorem dX11_farFrom_46 : decode cX11_farFrom 46 = .ok (.iaload, 1) := by decide +kernel
theorem dX11_farFrom_47 : decode cX11_farFrom 47 = .ok (.isub, 1) := by decide +kernel
theorem dX11_farFrom_48 : decode cX11_farFrom 48 = .ok (.invokestatic 407, 3) := by decide +kernel
theorem dX11_farFrom_51 : decode cX11_farFrom 51 = .ok (.iadd, 1) := by decide +kernel
theorem dX11_farFrom_52 : decode cX11_farFrom 52 = .ok (.iload 6, 2) := by decide +kernel
theorem dX11_farFrom_54 : decode cX11_farFrom 54 = .ok (.aload 7, 2) := by decide +kernel
theorem dX11_farFrom_56 : decode cX11_farFrom 56 = .ok (.iconst 4, 1) := by decide +kernel
theorem dX11_farFrom_57 : decode cX11_farFrom 57 = .ok (.iaload, 1) := by decide +kernel
theorem dX11_farFrom_58 : decode cX11_farFrom 58 = .ok (.isub, 1) := by decide +kernel
theorem dX11_farFrom_59 : decode cX11_farFrom 59 = .ok (.invokestatic 407, 3) := by decide +kernel
theorem dX11_farFrom_62 : decode cX11_farFrom 62 = .ok (.iadd, 1) := by decide +kernel
theorem dX11_farFrom_63 : decode cX11_farFrom 63 = .ok (.ireturn, 1) := by decide +kernel
theorem dX11_suit_0 : decode cX11_suit 0 = .ok (.aload_n 0, 1) := by decide +kernel
theorem dX11_suit_1 : decode cX11_suit 1 = .ok (.getfield 10, 3) := by decide +kernel
theorem dX11_suit_4 : decode cX11_suit 4 = .ok (.iload_n 1, 1) := by decide +kernel
theorem dX11_suit_5 : decode cX11_suit 5 = .ok (.invokevirtual 170, 3) := by decide +kernel
theorem dX11_suit_8 : decode cX11_suit 8 = .ok (.ifCond .eq 14, 3) := by decide +kernel
theorem dX11_suit_11 : decode cX11_suit 11 = .ok (.aload_n 0, 1) := by decide +kernel
theorem dX11_suit_12 : decode cX11_suit 12 = .ok (.getfield 10, 3) := by decide +kernel
theorem dX11_suit_15 : decode cX11_suit 15 = .ok (.iload_n 2, 1) := by decide +kernel
theorem dX11_suit_16 : decode cX11_suit 16 = .ok (.invokevirtual 291, 3) := by decide +kernel
theorem dX11_suit_19 : decode cX11_suit 19 = .ok (.ifCond .ne 6, 3) := by decide +kernel
theorem dX11_suit_22 : decode cX11_suit 22 = .ok (.bipush (-2), 2) := by decide +kernel
theorem dX11_suit_24 : decode cX11_suit 24 = .ok (.ireturn, 1) := by decide +kernel
theorem dX11_suit_25 : decode cX11_suit 25 = .ok (.iload_n 3, 1) := by decide +kernel
theorem dX11_suit_26 : decode cX11_suit 26 = .ok (.invokestatic 109, 3) := by decide +kernel
theorem dX11_suit_29 : decode cX11_suit 29 = .ok (.ifCond .ne 6, 3) := by decide +kernel
theorem dX11_suit_32 : decode cX11_suit 32 = .ok (.bipush (-3), 2) := by decide +kernel
theorem dX11_suit_34 : decode cX11_suit 34 = .ok (.ireturn, 1) := by decide +kernel
theorem dX11_suit_35 : decode cX11_suit 35 = .ok (.aload_n 0, 1) := by decide +kernel
theorem dX11_suit_36 : decode cX11_suit 36 = .ok (.getfield 10, 3) := by decide +kernel
theorem dX11_suit_39 : decode cX11_suit 39 = .ok (.getfield 149, 3) := by decide +kernel
theorem dX11_suit_42 : decode cX11_suit 42 = .ok (.iload_n 1, 1) := by decide +kernel
theorem dX11_suit_43 : decode cX11_suit 43 = .ok (.aaload, 1) := by decide +kernel
theorem dX11_suit_44 : decode cX11_suit 44 = .ok (.iload_n 3, 1) := by decide +kernel
theorem dX11_suit_45 : decode cX11_suit 45 = .ok (.putfield 167, 3) := by decide +kernel
theorem dX11_suit_48 : decode cX11_suit 48 = .ok (.iconst 0, 1) := by decide +kernel
theorem dX11_suit_49 : decode cX11_suit 49 = .ok (.ireturn, 1) := by decide +kernel
theorem dX11_street_0 : decode cX11_street 0 = .ok (.iload_n 1, 1) := by decide +kernel
theorem dX11_street_1 : decode cX11_street 1 = .ok (.iload_n 2, 1) := by decide +kernel
theorem dX11_street_2 : decode cX11_street 2 = .ok (.invokestatic 358, 3) := by decide +kernel
theorem dX11_street_5 : decode cX11_street 5 = .ok (.ifCond .eq 15, 3) := by decide +kernel
theorem dX11_street_8 : decode cX11_street 8 = .ok (.aload_n 0, 1) := by decide +kernel
theorem dX11_street_9 : decode cX11_street 9 = .ok (.getfield 10, 3) := by decide +kernel
theorem dX11_street_12 : decode cX11_street 12 = .ok (.iload_n 1, 1) := by decide +kernel
theorem dX11_street_13 : decode cX11_street 13 = .ok (.iload_n 2, 1) := by decide +kernel
theorem dX11_street_14 : decode cX11_street 14 = .ok (.invokevirtual 410, 3) := by decide +kernel
theorem dX11_street_17 : decode cX11_street 17 = .ok (.goto 5, 3) := by decide +kernel
theorem dX11_street_20 : decode cX11_street 20 = .ok (.bipush (-3), 2) := by decide +kernel
theorem dX11_street_22 : decode cX11_street 22 = .ok (.ireturn, 1) := by decide +kernel
theorem dX11_shilling_0 : decode cX11_shilling 0 = .ok (.iload_n 1, 1) := by decide +kernel
theorem dX11_shilling_1 : decode cX11_shilling 1 = .ok (.iconst 0, 1) := by decide +kernel
theorem dX11_shilling_2 : decode cX11_shilling 2 = .ok (.invokestatic 358, 3) := by decide +kernel
theorem dX11_shilling_5 : decode cX11_shilling 5 = .ok (.ifCond .ne 6, 3) := by decide +kernel
theorem dX11_shilling_8 : decode cX11_shilling 8 = .ok (.bipush (-3), 2) := by decide +kernel
theorem dX11_shilling_10 : decode cX11_shilling 10 = .ok (.ireturn, 1) := by decide +kernel
theorem dX11_shilling_11 : decode cX11_shilling 11 = .ok (.aload_n 0, 1) := by decide +kernel
theorem dX11_shilling_12 : decode cX11_shilling 12 = .ok (.getfield 10, 3) := by decide +kernel
theorem dX11_shilling_15 : decode cX11_shilling 15 = .ok (.iload_n 1, 1) := by decide +kernel
theorem dX11_shilling_16 : decode cX11_shilling 16 = .ok (.iconst 0, 1) := by decide +kernel
theorem dX11_shilling_17 : decode cX11_shilling 17 = .ok (.invokevirtual 410, 3) := by decide +kernel
theorem dX11_shilling_20 : decode cX11_shilling 20 = .ok (.aload_n 0, 1) := by decide +kernel
theorem dX11_shilling_21 : decode cX11_shilling 21 = .ok (.getfield 10, 3) := by decide +kernel
theorem dX11_shilling_24 : decode cX11_shilling 24 = .ok (.iload_n 1, 1) := by decide +kernel
theorem dX11_shilling_25 : decode cX11_shilling 25 = .ok (.bipush 12, 2) := by decide +kernel
theorem dX11_shilling_27 : decode cX11_shilling 27 = .ok (.invokevirtual 410, 3) := by decide +kernel
theorem dX11_shilling_30 : decode cX11_shilling 30 = .ok (.iconst (-1), 1) := by decide +kernel
theorem dX11_shilling_31 : decode cX11_shilling 31 = .ok (.ixor, 1) := by decide +kernel
theorem dX11_shilling_32 : decode cX11_shilling 32 = .ok (.iand, 1) := by decide +kernel
theorem dX11_shilling_33 : decode cX11_shilling 33 = .ok (.ireturn, 1) := by decide +kernel
theorem dX11_trips_0 : decode cX11_trips 0 = .ok (.iload_n 2, 1) := by decide +kernel
theorem dX11_trips_1 : decode cX11_trips 1 = .ok (.iconst 0, 1) := by decide +kernel
theorem dX11_trips_2 : decode cX11_trips 2 = .ok (.sipush 255, 3) := by decide +kernel
theorem dX11_trips_5 : decode cX11_trips 5 = .ok (.invokestatic 59, 3) := by decide +kernel
theorem dX11_trips_8 : decode cX11_trips 8 = .ok (.ifCond .eq 13, 3) := by decide +kernel
theorem dX11_trips_11 : decode cX11_trips 11 = .ok (.iload_n 3, 1) := by decide +kernel
theorem dX11_trips_12 : decode cX11_trips 12 = .ok (.iconst 1, 1) := by decide +kernel
theorem dX11_trips_13 : decode cX11_trips 13 = .ok (.bipush 99, 2) := by decide +kernel
theorem dX11_trips_15 : decode cX11_trips 15 = .ok (.invokestatic 59, 3) := by decide +kernel
theorem dX11_trips_18 : decode cX11_trips 18 = .ok (.ifCond .ne 6, 3) := by decide +kernel
theorem dX11_trips_21 : decode cX11_trips 21 = .ok (.bipush (-3), 2) := by decide +kernel
theorem dX11_trips_23 : decode cX11_trips 23 = .ok (.ireturn, 1) := by decide +kernel
theorem dX11_trips_24 : decode cX11_trips 24 = .ok (.aload_n 0, 1) := by decide +kernel
theorem dX11_trips_25 : decode cX11_trips 25 = .ok (.getfield 41, 3) := by decide +kernel
theorem dX11_trips_28 : decode cX11_trips 28 = .ok (.aload_n 0, 1) := by decide +kernel
theorem dX11_trips_29 : decode cX11_trips 29 = .ok (.getfield 10, 3) := by decide +kernel
theorem dX11_trips_32 : decode cX11_trips 32 = .ok (.iload_n 1, 1) := by decide +kernel
theorem dX11_trips_33 : decode cX11_trips 33 = .ok (.iload_n 2, 1) := by decide +kernel
theorem dX11_trips_34 : decode cX11_trips 34 = .ok (.invokevirtual 328, 3) := by decide +kernel
theorem dX11_trips_37 : decode cX11_trips 37 = .ok (.ifCond .ne 6, 3) := by decide +kernel
theorem dX11_trips_40 : decode cX11_trips 40 = .ok (.bipush (-5), 2) := by decide +kernel
theorem dX11_trips_42 : decode cX11_trips 42 = .ok (.ireturn, 1) := by decide +kernel
theorem dX11_trips_43 : decode cX11_trips 43 = .ok (.aload_n 0, 1) := by decide +kernel
theorem dX11_trips_44 : decode cX11_trips 44 = .ok (.getfield 41, 3) := by decide +kernel
theorem dX11_trips_47 : decode cX11_trips 47 = .ok (.iload_n 3, 1) := by decide +kernel
theorem dX11_trips_48 : decode cX11_trips 48 = .ok (.invokevirtual 413, 3) := by decide +kernel
theorem dX11_trips_51 : decode cX11_trips 51 = .ok (.ireturn, 1) := by decide +kernel
theorem dX11_renewals_0 : decode cX11_renewals 0 = .ok (.aload_n 0, 1) := by decide +kernel
theorem dX11_renewals_1 : decode cX11_renewals 1 = .ok (.getfield 10, 3) := by decide +kernel
theorem dX11_renewals_4 : decode cX11_renewals 4 = .ok (.iload_n 1, 1) := by decide +kernel
theorem dX11_renewals_5 : decode cX11_renewals 5 = .ok (.invokevirtual 244, 3) := by decide +kernel
theorem dX11_renewals_8 : decode cX11_renewals 8 = .ok (.ifCond .eq 12, 3) := by decide +kernel
theorem dX11_renewals_11 : decode cX11_renewals 11 = .ok (.iload_n 2, 1) := by decide +kernel
theorem dX11_renewals_12 : decode cX11_renewals 12 = .ok (.iconst 0, 1) := by decide +kernel
theorem dX11_renewals_13 : decode cX11_renewals 13 = .ok (.iconst 1, 1) := by decide +kernel
theorem dX11_renewals_14 : decode cX11_renewals 14 = .ok (.invokestatic 59, 3) := by decide +kernel
theorem dX11_renewals_17 : decode cX11_renewals 17 = .ok (.ifCond .ne 6, 3) := by decide +kernel
theorem dX11_renewals_20 : decode cX11_renewals 20 = .ok (.bipush (-2), 2) := by decide +kernel
theorem dX11_renewals_22 : decode cX11_renewals 22 = .ok (.ireturn, 1) := by decide +kernel
theorem dX11_renewals_23 : decode cX11_renewals 23 = .ok (.iload_n 2, 1) := by decide +kernel
theorem dX11_renewals_24 : decode cX11_renewals 24 = .ok (.ifCond .ne 18, 3) := by decide +kernel
theorem dX11_renewals_27 : decode cX11_renewals 27 = .ok (.aload_n 0, 1) := by decide +kernel
theorem dX11_renewals_28 : decode cX11_renewals 28 = .ok (.getfield 10, 3) := by decide +kernel
theorem dX11_renewals_31 : decode cX11_renewals 31 = .ok (.getfield 200, 3) := by decide +kernel
theorem dX11_renewals_34 : decode cX11_renewals 34 = .ok (.iload_n 1, 1) := by decide +kernel
theorem dX11_renewals_35 : decode cX11_renewals 35 = .ok (.aaload, 1) := by decide +kernel
theorem dX11_renewals_36 : decode cX11_renewals 36 = .ok (.getfield 232, 3) := by decide +kernel
theorem dX11_renewals_39 : decode cX11_renewals 39 = .ok (.goto 15, 3) := by decide +kernel
theorem dX11_renewals_42 : decode cX11_renewals 42 = .ok (.aload_n 0, 1) := by decide +kernel
theorem dX11_renewals_43 : decode cX11_renewals 43 = .ok (.getfield 10, 3) := by decide +kernel
theorem dX11_renewals_46 : decode cX11_renewals 46 = .ok (.getfield 200, 3) := by decide +kernel
theorem dX11_renewals_49 : decode cX11_renewals 49 = .ok (.iload_n 1, 1) := by decide +kernel
theorem dX11_renewals_50 : decode cX11_renewals 50 = .ok (.aaload, 1) := by decide +kernel
theorem dX11_renewals_51 : decode cX11_renewals 51 = .ok (.getfield 235, 3) := by decide +kernel
theorem dX11_renewals_54 : decode cX11_renewals 54 = .ok (.ireturn, 1) := by decide +kernel
theorem dX11_foresee_0 : decode cX11_foresee 0 = .ok (.iconst 0, 1) := by decide +kernel
theorem dX11_foresee_1 : decode cX11_foresee 1 = .ok (.istore_n 2, 1) := by decide +kernel
theorem dX11_foresee_2 : decode cX11_foresee 2 = .ok (.iconst 0, 1) := by decide +kernel
theorem dX11_foresee_3 : decode cX11_foresee 3 = .ok (.istore_n 3, 1) := by decide +kernel
theorem dX11_foresee_4 : decode cX11_foresee 4 = .ok (.iload_n 3, 1) := by decide +kernel
theorem dX11_foresee_5 : decode cX11_foresee 5 = .ok (.aload_n 0, 1) := by decide +kernel
theorem dX11_foresee_6 : decode cX11_foresee 6 = .ok (.getfield 10, 3) := by decide +kernel
theorem dX11_foresee_9 : decode cX11_foresee 9 = .ok (.getfield 271, 3) := by decide +kernel
theorem dX11_foresee_12 : decode cX11_foresee 12 = .ok (.if_icmp .ge 75, 3) := by decide +kernel
theorem dX11_foresee_15 : decode cX11_foresee 15 = .ok (.aload_n 0, 1) := by decide +kernel
theorem dX11_foresee_16 : decode cX11_foresee 16 = .ok (.getfield 10, 3) := by decide +kernel
theorem dX11_foresee_19 : decode cX11_foresee 19 = .ok (.iload_n 3, 1) := by decide +kernel
theorem dX11_foresee_20 : decode cX11_foresee 20 = .ok (.invokevirtual 274, 3) := by decide +kernel
theorem dX11_foresee_23 : decode cX11_foresee 23 = .ok (.ifCond .eq 58, 3) := by decide +kernel
theorem dX11_foresee_26 : decode cX11_foresee 26 = .ok (.aload_n 0, 1) := by decide +kernel
theorem dX11_foresee_27 : decode cX11_foresee 27 = .ok (.getfield 10, 3) := by decide +kernel
theorem dX11_foresee_30 : decode cX11_foresee 30 = .ok (.getfield 200, 3) := by decide +kernel
theorem dX11_foresee_33 : decode cX11_foresee 33 = .ok (.iload_n 3, 1) := by decide +kernel
theorem dX11_foresee_34 : decode cX11_foresee 34 = .ok (.aaload, 1) := by decide +kernel
theorem dX11_foresee_35 : decode cX11_foresee 35 = .ok (.astore 4, 2) := by decide +kernel
theorem dX11_foresee_37 : decode cX11_foresee 37 = .ok (.iload_n 1, 1) := by decide +kernel
theorem dX11_foresee_38 : decode cX11_foresee 38 = .ok (.ifCond .eq 15, 3) := by decide +kernel
theorem dX11_foresee_41 : decode cX11_foresee 41 = .ok (.aload_n 0, 1) := by decide +kernel
theorem dX11_foresee_42 : decode cX11_foresee 42 = .ok (.getfield 10, 3) := by decide +kernel
theorem dX11_foresee_45 : decode cX11_foresee 45 = .ok (.aload 4, 2) := by decide +kernel
theorem dX11_foresee_47 : decode cX11_foresee 47 = .ok (.invokevirtual 268, 3) := by decide +kernel
theorem dX11_foresee_50 : decode cX11_foresee 50 = .ok (.goto 12, 3) := by decide +kernel
theorem dX11_foresee_53 : decode cX11_foresee 53 = .ok (.aload_n 0, 1) := by decide +kernel
theorem dX11_foresee_54 : decode cX11_foresee 54 = .ok (.getfield 10, 3) := by decide +kernel
theorem dX11_foresee_57 : decode cX11_foresee 57 = .ok (.aload 4, 2) := by decide +kernel
theorem dX11_foresee_59 : decode cX11_foresee 59 = .ok (.invokevirtual 265, 3) := by decide +kernel
theorem dX11_foresee_62 : decode cX11_foresee 62 = .ok (.istore 5, 2) := by decide +kernel
theorem dX11_foresee_64 : decode cX11_foresee 64 = .ok (.iload_n 2, 1) := by decide +kernel
theorem dX11_foresee_65 : decode cX11_foresee 65 = .ok (.iconst 2, 1) := by decide +kernel
theorem dX11_foresee_66 : decode cX11_foresee 66 = .ok (.iload 5, 2) := by decide +kernel
theorem dX11_foresee_68 : decode cX11_foresee 68 = .ok (.imul, 1) := by decide +kernel
theorem dX11_foresee_69 : decode cX11_foresee 69 = .ok (.aload_n 0, 1) := by decide +kernel
theorem dX11_foresee_70 : decode cX11_foresee 70 = .ok (.getfield 10, 3) := by decide +kernel
theorem dX11_foresee_73 : decode cX11_foresee 73 = .ok (.aload 4, 2) := by decide +kernel
theorem dX11_foresee_75 : decode cX11_foresee 75 = .ok (.invokevirtual 204, 3) := by decide +kernel
theorem dX11_foresee_78 : decode cX11_foresee 78 = .ok (.isub, 1) := by decide +kernel
theorem dX11_foresee_79 : decode cX11_foresee 79 = .ok (.iadd, 1) := by decide +kernel
theorem dX11_foresee_80 : decode cX11_foresee 80 = .ok (.istore_n 2, 1) := by decide +kernel
theorem dX11_foresee_81 : decode cX11_foresee 81 = .ok (.iinc 3 1, 3) := by decide +kernel
theorem dX11_foresee_84 : decode cX11_foresee 84 = .ok (.goto (-80), 3) := by decide +kernel
theorem dX11_foresee_87 : decode cX11_foresee 87 = .ok (.iload_n 2, 1) := by decide +kernel
theorem dX11_foresee_88 : decode cX11_foresee 88 = .ok (.ireturn, 1) := by decide +kernel
theorem dX11_list_0 : decode cX11_list 0 = .ok (.aload_n 0, 1) := by decide +kernel
theorem dX11_list_1 : decode cX11_list 1 = .ok (.getfield 10, 3) := by decide +kernel
theorem dX11_list_4 : decode cX11_list 4 = .ok (.iload_n 1, 1) := by decide +kernel
theorem dX11_list_5 : decode cX11_list 5 = .ok (.invokevirtual 291, 3) := by decide +kernel
theorem dX11_list_8 : decode cX11_list 8 = .ok (.ifCond .ne 6, 3) := by decide +kernel
theorem dX11_list_11 : decode cX11_list 11 = .ok (.bipush (-2), 2) := by decide +kernel
theorem dX11_list_13 : decode cX11_list 13 = .ok (.ireturn, 1) := by decide +kernel
theorem dX11_list_14 : decode cX11_list 14 = .ok (.iload_n 2, 1) := by decide +kernel
theorem dX11_list_15 : decode cX11_list 15 = .ok (.iconst 0, 1) := by decide +kernel
theorem dX11_list_16 : decode cX11_list 16 = .ok (.sipush 300, 3) := by decide +kernel
theorem dX11_list_19 : decode cX11_list 19 = .ok (.invokestatic 59, 3) := by decide +kernel
theorem dX11_list_22 : decode cX11_list 22 = .ok (.ifCond .ne 6, 3) := by decide +kernel
theorem dX11_list_25 : decode cX11_list 25 = .ok (.bipush (-3), 2) := by decide +kernel
theorem dX11_list_27 : decode cX11_list 27 = .ok (.ireturn, 1) := by decide +kernel
theorem dX11_list_28 : decode cX11_list 28 = .ok (.aload_n 0, 1) := by decide +kernel
theorem dX11_list_29 : decode cX11_list 29 = .ok (.getfield 10, 3) := by decide +kernel
theorem dX11_list_32 : decode cX11_list 32 = .ok (.getfield 416, 3) := by decide +kernel
theorem dX11_list_35 : decode cX11_list 35 = .ok (.bipush 12, 2) := by decide +kernel
theorem dX11_list_37 : decode cX11_list 37 = .ok (.if_icmp .lt 6, 3) := by decide +kernel
theorem dX11_list_40 : decode cX11_list 40 = .ok (.bipush (-4), 2) := by decide +kernel
theorem dX11_list_42 : decode cX11_list 42 = .ok (.ireturn, 1) := by decide +kernel
theorem dX11_list_43 : decode cX11_list 43 = .ok (.aload_n 0, 1) := by decide +kernel
theorem dX11_list_44 : decode cX11_list 44 = .ok (.getfield 10, 3) := by decide +kernel
theorem dX11_list_47 : decode cX11_list 47 = .ok (.getfield 419, 3) := by decide +kernel
theorem dX11_list_50 : decode cX11_list 50 = .ok (.aload_n 0, 1) := by decide +kernel
theorem dX11_list_51 : decode cX11_list 51 = .ok (.getfield 10, 3) := by decide +kernel
theorem dX11_list_54 : decode cX11_list 54 = .ok (.getfield 416, 3) := by decide +kernel
theorem dX11_list_57 : decode cX11_list 57 = .ok (.aaload, 1) := by decide +kernel
theorem dX11_list_58 : decode cX11_list 58 = .ok (.iconst 0, 1) := by decide +kernel
theorem dX11_list_59 : decode cX11_list 59 = .ok (.iload_n 1, 1) := by decide +kernel
theorem dX11_list_60 : decode cX11_list 60 = .ok (.iastore, 1) := by decide +kernel
theorem dX11_list_61 : decode cX11_list 61 = .ok (.aload_n 0, 1) := by decide +kernel
theorem dX11_list_62 : decode cX11_list 62 = .ok (.getfield 10, 3) := by decide +kernel
theorem dX11_list_65 : decode cX11_list 65 = .ok (.getfield 419, 3) := by decide +kernel
theorem dX11_list_68 : decode cX11_list 68 = .ok (.aload_n 0, 1) := by decide +kernel
theorem dX11_list_69 : decode cX11_list 69 = .ok (.getfield 10, 3) := by decide +kernel
theorem dX11_list_72 : decode cX11_list 72 = .ok (.getfield 416, 3) := by decide +kernel
theorem dX11_list_75 : decode cX11_list 75 = .ok (.aaload, 1) := by decide +kernel
theorem dX11_list_76 : decode cX11_list 76 = .ok (.iconst 1, 1) := by decide +kernel
theorem dX11_list_77 : decode cX11_list 77 = .ok (.iload_n 2, 1) := by decide +kernel
theorem dX11_list_78 : decode cX11_list 78 = .ok (.iastore, 1) := by decide +kernel
theorem dX11_list_79 : decode cX11_list 79 = .ok (.aload_n 0, 1) := by decide +kernel
theorem dX11_list_80 : decode cX11_list 80 = .ok (.getfield 10, 3) := by decide +kernel
theorem dX11_list_83 : decode cX11_list 83 = .ok (.dup, 1) := by decide +kernel
theorem dX11_list_84 : decode cX11_list 84 = .ok (.getfield 416, 3) := by decide +kernel
theorem dX11_list_87 : decode cX11_list 87 = .ok (.iconst 1, 1) := by decide +kernel
theorem dX11_list_88 : decode cX11_list 88 = .ok (.iadd, 1) := by decide +kernel
theorem dX11_list_89 : decode cX11_list 89 = .ok (.putfield 416, 3) := by decide +kernel
theorem dX11_list_92 : decode cX11_list 92 = .ok (.aload_n 0, 1) := by decide +kernel
theorem dX11_list_93 : decode cX11_list 93 = .ok (.getfield 10, 3) := by decide +kernel
theorem dX11_list_96 : decode cX11_list 96 = .ok (.getfield 416, 3) := by decide +kernel
theorem dX11_list_99 : decode cX11_list 99 = .ok (.iconst 1, 1) := by decide +kernel
theorem dX11_list_100 : decode cX11_list 100 = .ok (.isub, 1) := by decide +kernel
theorem dX11_list_101 : decode cX11_list 101 = .ok (.ireturn, 1) := by decide +kernel
theorem dX11_match_0 : decode cX11_match 0 = .ok (.iload_n 1, 1) := by decide +kernel
theorem dX11_match_1 : decode cX11_match 1 = .ok (.iconst (-1), 1) := by decide +kernel
theorem dX11_match_2 : decode cX11_match 2 = .ok (.if_icmp .eq 22, 3) := by decide +kernel
theorem dX11_match_5 : decode cX11_match 5 = .ok (.iload_n 1, 1) := by decide +kernel
theorem dX11_match_6 : decode cX11_match 6 = .ok (.iconst 0, 1) := by decide +kernel
theorem dX11_match_7 : decode cX11_match 7 = .ok (.aload_n 0, 1) := by decide +kernel
theorem dX11_match_8 : decode cX11_match 8 = .ok (.getfield 10, 3) := by decide +kernel
theorem dX11_match_11 : decode cX11_match 11 = .ok (.getfield 416, 3) := by decide +kernel
theorem dX11_match_14 : decode cX11_match 14 = .ok (.iconst 1, 1) := by decide +kernel
theorem dX11_match_15 : decode cX11_match 15 = .ok (.isub, 1) := by decide +kernel
theorem dX11_match_16 : decode cX11_match 16 = .ok (.invokestatic 59, 3) := by decide +kernel
theorem dX11_match_19 : decode cX11_match 19 = .ok (.ifCond .ne 5, 3) := by decide +kernel
theorem dX11_match_22 : decode cX11_match 22 = .ok (.iconst (-1), 1) := by decide +kernel
theorem dX11_match_23 : decode cX11_match 23 = .ok (.ireturn, 1) := by decide +kernel
theorem dX11_match_24 : decode cX11_match 24 = .ok (.aload_n 0, 1) := by decide +kernel
theorem dX11_match_25 : decode cX11_match 25 = .ok (.getfield 41, 3) := by decide +kernel
theorem dX11_match_28 : decode cX11_match 28 = .ok (.aload_n 0, 1) := by decide +kernel
theorem dX11_match_29 : decode cX11_match 29 = .ok (.getfield 10, 3) := by decide +kernel
theorem dX11_match_32 : decode cX11_match 32 = .ok (.iload_n 1, 1) := by decide +kernel
theorem dX11_match_33 : decode cX11_match 33 = .ok (.invokevirtual 422, 3) := by decide +kernel
theorem dX11_match_36 : decode cX11_match 36 = .ok (.ireturn, 1) := by decide +kernel
theorem dX11_row_0 : decode cX11_row 0 = .ok (.iload_n 1, 1) := by decide +kernel
theorem dX11_row_1 : decode cX11_row 1 = .ok (.iconst 0, 1) := by decide +kernel
theorem dX11_row_2 : decode cX11_row 2 = .ok (.iconst 3, 1) := by decide +kernel
theorem dX11_row_3 : decode cX11_row 3 = .ok (.invokestatic 59, 3) := by decide +kernel
theorem dX11_row_6 : decode cX11_row 6 = .ok (.ifCond .eq 12, 3) := by decide +kernel
theorem dX11_row_9 : decode cX11_row 9 = .ok (.iload_n 2, 1) := by decide +kernel
theorem dX11_row_10 : decode cX11_row 10 = .ok (.iconst 0, 1) := by decide +kernel
theorem dX11_row_11 : decode cX11_row 11 = .ok (.iconst 3, 1) := by decide +kernel
theorem dX11_row_12 : decode cX11_row 12 = .ok (.invokestatic 59, 3) := by decide +kernel
theorem dX11_row_15 : decode cX11_row 15 = .ok (.ifCond .ne 6, 3) := by decide +kernel
theorem dX11_row_18 : decode cX11_row 18 = .ok (.bipush (-2), 2) := by decide +kernel
theorem dX11_row_20 : decode cX11_row 20 = .ok (.ireturn, 1) := by decide +kernel
theorem dX11_row_21 : decode cX11_row 21 = .ok (.iload_n 3, 1) := by decide +kernel
theorem dX11_row_22 : decode cX11_row 22 = .ok (.iconst 0, 1) := by decide +kernel
theorem dX11_row_23 : decode cX11_row 23 = .ok (.bipush 40, 2) := by decide +kernel
theorem dX11_row_25 : decode cX11_row 25 = .ok (.invokestatic 59, 3) := by decide +kernel
theorem dX11_row_28 : decode cX11_row 28 = .ok (.ifCond .ne 6, 3) := by decide +kernel
theorem dX11_row_31 : decode cX11_row 31 = .ok (.bipush (-3), 2) := by decide +kernel
theorem dX11_row_33 : decode cX11_row 33 = .ok (.ireturn, 1) := by decide +kernel
theorem dX11_row_34 : decode cX11_row 34 = .ok (.aload_n 0, 1) := by decide +kernel
theorem dX11_row_35 : decode cX11_row 35 = .ok (.getfield 33, 3) := by decide +kernel
theorem dX11_row_38 : decode cX11_row 38 = .ok (.iload_n 1, 1) := by decide +kernel
theorem dX11_row_39 : decode cX11_row 39 = .ok (.aaload, 1) := by decide +kernel
theorem dX11_row_40 : decode cX11_row 40 = .ok (.iload_n 2, 1) := by decide +kernel
theorem dX11_row_41 : decode cX11_row 41 = .ok (.iload_n 3, 1) := by decide +kernel
theorem dX11_row_42 : decode cX11_row 42 = .ok (.invokevirtual 425, 3) := by decide +kernel
theorem dX11_row_45 : decode cX11_row 45 = .ok (.iconst 0, 1) := by decide +kernel
theorem dX11_row_46 : decode cX11_row 46 = .ok (.ireturn, 1) := by decide +kernel
theorem dX11_write_0 : decode cX11_write 0 = .ok (.iload_n 1, 1) := by decide +kernel
theorem dX11_write_1 : decode cX11_write 1 = .ok (.iconst 0, 1) := by decide +kernel
theorem dX11_write_2 : decode cX11_write 2 = .ok (.iconst 3, 1) := by decide +kernel
theorem dX11_write_3 : decode cX11_write 3 = .ok (.invokestatic 59, 3) := by decide +kernel
theorem dX11_write_6 : decode cX11_write 6 = .ok (.ifCond .ne 7, 3) := by decide +kernel
theorem dX11_write_9 : decode cX11_write 9 = .ok (.ldc2_w 302, 3) := by decide +kernel
theorem dX11_write_12 : decode cX11_write 12 = .ok (.lreturn, 1) := by decide +kernel
theorem dX11_write_13 : decode cX11_write 13 = .ok (.aload_n 0, 1) := by decide +kernel
theorem dX11_write_14 : decode cX11_write 14 = .ok (.getfield 33, 3) := by decide +kernel
theorem dX11_write_17 : decode cX11_write 17 = .ok (.iload_n 1, 1) := by decide +kernel
theorem dX11_write_18 : decode cX11_write 18 = .ok (.aaload, 1) := by decide +kernel
theorem dX11_write_19 : decode cX11_write 19 = .ok (.getfield 339, 3) := by decide +kernel
theorem dX11_write_22 : decode cX11_write 22 = .ok (.iconst (-1), 1) := by decide +kernel
theorem dX11_write_23 : decode cX11_write 23 = .ok (.if_icmp .ne 7, 3) := by decide +kernel
theorem dX11_write_26 : decode cX11_write 26 = .ok (.ldc2_w 428, 3) := by decide +kernel
theorem dX11_write_29 : decode cX11_write 29 = .ok (.lreturn, 1) := by decide +kernel
theorem dX11_write_30 : decode cX11_write 30 = .ok (.iload_n 2, 1) := by decide +kernel
theorem dX11_write_31 : decode cX11_write 31 = .ok (.iconst 0, 1) := by decide +kernel
theorem dX11_write_32 : decode cX11_write 32 = .ok (.aload_n 0, 1) := by decide +kernel
theorem dX11_write_33 : decode cX11_write 33 = .ok (.getfield 33, 3) := by decide +kernel
theorem dX11_write_36 : decode cX11_write 36 = .ok (.iload_n 1, 1) := by decide +kernel
theorem dX11_write_37 : decode cX11_write 37 = .ok (.aaload, 1) := by decide +kernel
theorem dX11_write_38 : decode cX11_write 38 = .ok (.getfield 339, 3) := by decide +kernel
theorem dX11_write_41 : decode cX11_write 41 = .ok (.iconst 1, 1) := by decide +kernel
theorem dX11_write_42 : decode cX11_write 42 = .ok (.isub, 1) := by decide +kernel
theorem dX11_write_43 : decode cX11_write 43 = .ok (.invokestatic 59, 3) := by decide +kernel
theorem dX11_write_46 : decode cX11_write 46 = .ok (.ifCond .ne 7, 3) := by decide +kernel
theorem dX11_write_49 : decode cX11_write 49 = .ok (.ldc2_w 430, 3) := by decide +kernel
theorem dX11_write_52 : decode cX11_write 52 = .ok (.lreturn, 1) := by decide +kernel
theorem dX11_write_53 : decode cX11_write 53 = .ok (.aload_n 0, 1) := by decide +kernel
theorem dX11_write_54 : decode cX11_write 54 = .ok (.getfield 33, 3) := by decide +kernel
theorem dX11_write_57 : decode cX11_write 57 = .ok (.iload_n 1, 1) := by decide +kernel
theorem dX11_write_58 : decode cX11_write 58 = .ok (.aaload, 1) := by decide +kernel
theorem dX11_write_59 : decode cX11_write 59 = .ok (.iload_n 2, 1) := by decide +kernel
theorem dX11_write_60 : decode cX11_write 60 = .ok (.lload_n 3, 1) := by decide +kernel
theorem dX11_write_61 : decode cX11_write 61 = .ok (.invokevirtual 432, 3) := by decide +kernel
theorem dX11_write_64 : decode cX11_write 64 = .ok (.lreturn, 1) := by decide +kernel
theorem dX11_clerk_0 : decode cX11_clerk 0 = .ok (.iload_n 1, 1) := by decide +kernel
theorem dX11_clerk_1 : decode cX11_clerk 1 = .ok (.iconst 0, 1) := by decide +kernel
theorem dX11_clerk_2 : decode cX11_clerk 2 = .ok (.iconst 3, 1) := by decide +kernel
theorem dX11_clerk_3 : decode cX11_clerk 3 = .ok (.invokestatic 59, 3) := by decide +kernel
theorem dX11_clerk_6 : decode cX11_clerk 6 = .ok (.ifCond .ne 6, 3) := by decide +kernel
theorem dX11_clerk_9 : decode cX11_clerk 9 = .ok (.bipush (-2), 2) := by decide +kernel
theorem dX11_clerk_11 : decode cX11_clerk 11 = .ok (.ireturn, 1) := by decide +kernel
theorem dX11_clerk_12 : decode cX11_clerk 12 = .ok (.aload_n 0, 1) := by decide +kernel
theorem dX11_clerk_13 : decode cX11_clerk 13 = .ok (.getfield 33, 3) := by decide +kernel
theorem dX11_clerk_16 : decode cX11_clerk 16 = .ok (.iload_n 1, 1) := by decide +kernel
theorem dX11_clerk_17 : decode cX11_clerk 17 = .ok (.aaload, 1) := by decide +kernel
theorem dX11_clerk_18 : decode cX11_clerk 18 = .ok (.astore_n 2, 1) := by decide +kernel
theorem dX11_clerk_19 : decode cX11_clerk 19 = .ok (.aload_n 2, 1) := by decide +kernel
theorem dX11_clerk_20 : decode cX11_clerk 20 = .ok (.getfield 339, 3) := by decide +kernel
theorem dX11_clerk_23 : decode cX11_clerk 23 = .ok (.iconst (-1), 1) := by decide +kernel
theorem dX11_clerk_24 : decode cX11_clerk 24 = .ok (.if_icmp .ne 6, 3) := by decide +kernel
theorem dX11_clerk_27 : decode cX11_clerk 27 = .ok (.bipush (-6), 2) := by decide +kernel
theorem dX11_clerk_29 : decode cX11_clerk 29 = .ok (.ireturn, 1) := by decide +kernel
theorem dX11_clerk_30 : decode cX11_clerk 30 = .ok (.iconst 0, 1) := by decide +kernel
theorem dX11_clerk_31 : decode cX11_clerk 31 = .ok (.istore_n 3, 1) := by decide +kernel
theorem dX11_clerk_32 : decode cX11_clerk 32 = .ok (.iconst 0, 1) := by decide +kernel
theorem dX11_clerk_33 : decode cX11_clerk 33 = .ok (.istore 4, 2) := by decide +kernel
theorem dX11_clerk_35 : decode cX11_clerk 35 = .ok (.iload 4, 2) := by decide +kernel
theorem dX11_clerk_37 : decode cX11_clerk 37 = .ok (.iconst 3, 1) := by decide +kernel
theorem dX11_clerk_38 : decode cX11_clerk 38 = .ok (.iadd, 1) := by decide +kernel
theorem dX11_clerk_39 : decode cX11_clerk 39 = .ok (.aload_n 2, 1) := by decide +kernel
theorem dX11_clerk_40 : decode cX11_clerk 40 = .ok (.getfield 339, 3) := by decide +kernel
theorem dX11_clerk_43 : decode cX11_clerk 43 = .ok (.if_icmp .gt 46, 3) := by decide +kernel
theorem dX11_clerk_46 : decode cX11_clerk 46 = .ok (.aload_n 0, 1) := by decide +kernel
theorem dX11_clerk_47 : decode cX11_clerk 47 = .ok (.getfield 10, 3) := by decide +kernel
theorem dX11_clerk_50 : decode cX11_clerk 50 = .ok (.aload_n 2, 1) := by decide +kernel
theorem dX11_clerk_51 : decode cX11_clerk 51 = .ok (.iload 4, 2) := by decide +kernel
theorem dX11_clerk_53 : decode cX11_clerk 53 = .ok (.invokevirtual 436, 3) := by decide +kernel
theorem dX11_clerk_56 : decode cX11_clerk 56 = .ok (.aload_n 2, 1) := by decide +kernel
theorem dX11_clerk_57 : decode cX11_clerk 57 = .ok (.iload 4, 2) := by decide +kernel
theorem dX11_clerk_59 : decode cX11_clerk 59 = .ok (.iconst 1, 1) := by decide +kernel
theorem dX11_clerk_60 : decode cX11_clerk 60 = .ok (.iadd, 1) := by decide +kernel
theorem dX11_clerk_61 : decode cX11_clerk 61 = .ok (.invokevirtual 436, 3) := by decide +kernel
theorem dX11_clerk_64 : decode cX11_clerk 64 = .ok (.aload_n 2, 1) := by decide +kernel
theorem dX11_clerk_65 : decode cX11_clerk 65 = .ok (.iload 4, 2) := by decide +kernel
theorem dX11_clerk_67 : decode cX11_clerk 67 = .ok (.iconst 2, 1) := by decide +kernel
theorem dX11_clerk_68 : decode cX11_clerk 68 = .ok (.iadd, 1) := by decide +kernel
theorem dX11_clerk_69 : decode cX11_clerk 69 = .ok (.invokevirtual 436, 3) := by decide +kernel
theorem dX11_clerk_72 : decode cX11_clerk 72 = .ok (.invokevirtual 177, 3) := by decide +kernel
theorem dX11_clerk_75 : decode cX11_clerk 75 = .ok (.ifCond .ge 5, 3) := by decide +kernel
theorem dX11_clerk_78 : decode cX11_clerk 78 = .ok (.iload_n 3, 1) := by decide +kernel
theorem dX11_clerk_79 : decode cX11_clerk 79 = .ok (.ireturn, 1) := by decide +kernel
theorem dX11_clerk_80 : decode cX11_clerk 80 = .ok (.iinc 3 1, 3) := by decide +kernel
theorem dX11_clerk_83 : decode cX11_clerk 83 = .ok (.iinc 4 3, 3) := by decide +kernel
theorem dX11_clerk_86 : decode cX11_clerk 86 = .ok (.goto (-51), 3) := by decide +kernel
theorem dX11_clerk_89 : decode cX11_clerk 89 = .ok (.iload_n 3, 1) := by decide +kernel
theorem dX11_clerk_90 : decode cX11_clerk 90 = .ok (.ireturn, 1) := by decide +kernel
theorem dX11_image_0 : decode cX11_image 0 = .ok (.iload_n 1, 1) := by decide +kernel
theorem dX11_image_1 : decode cX11_image 1 = .ok (.iconst 0, 1) := by decide +kernel
theorem dX11_image_2 : decode cX11_image 2 = .ok (.iconst 1, 1) := by decide +kernel
theorem dX11_image_3 : decode cX11_image 3 = .ok (.invokestatic 59, 3) := by decide +kernel
theorem dX11_image_6 : decode cX11_image 6 = .ok (.ifCond .ne 6, 3) := by decide +kernel
theorem dX11_image_9 : decode cX11_image 9 = .ok (.bipush (-2), 2) := by decide +kernel
theorem dX11_image_11 : decode cX11_image 11 = .ok (.ireturn, 1) := by decide +kernel
theorem dX11_image_12 : decode cX11_image 12 = .ok (.aload_n 0, 1) := by decide +kernel
theorem dX11_image_13 : decode cX11_image 13 = .ok (.getfield 16, 3) := by decide +kernel
theorem dX11_image_16 : decode cX11_image 16 = .ok (.iload_n 1, 1) := by decide +kernel
theorem dX11_image_17 : decode cX11_image 17 = .ok (.aaload, 1) := by decide +kernel
theorem dX11_image_18 : decode cX11_image 18 = .ok (.aload_n 0, 1) := by decide +kernel
theorem dX11_image_19 : decode cX11_image 19 = .ok (.getfield 10, 3) := by decide +kernel
theorem dX11_image_22 : decode cX11_image 22 = .ok (.invokevirtual 439, 3) := by decide +kernel
theorem dX11_image_25 : decode cX11_image 25 = .ok (.aload_n 0, 1) := by decide +kernel
theorem dX11_image_26 : decode cX11_image 26 = .ok (.getfield 20, 3) := by decide +kernel
theorem dX11_image_29 : decode cX11_image 29 = .ok (.iload_n 1, 1) := by decide +kernel
theorem dX11_image_30 : decode cX11_image 30 = .ok (.iconst 1, 1) := by decide +kernel
theorem dX11_image_31 : decode cX11_image 31 = .ok (.bastore, 1) := by decide +kernel
theorem dX11_image_32 : decode cX11_image 32 = .ok (.iconst 0, 1) := by decide +kernel
theorem dX11_image_33 : decode cX11_image 33 = .ok (.ireturn, 1) := by decide +kernel
theorem dX11_restore_0 : decode cX11_restore 0 = .ok (.iload_n 1, 1) := by decide +kernel
theorem dX11_restore_1 : decode cX11_restore 1 = .ok (.iconst 0, 1) := by decide +kernel
theorem dX11_restore_2 : decode cX11_restore 2 = .ok (.iconst 1, 1) := by decide +kernel
theorem dX11_restore_3 : decode cX11_restore 3 = .ok (.invokestatic 59, 3) := by decide +kernel
theorem dX11_restore_6 : decode cX11_restore 6 = .ok (.ifCond .ne 6, 3) := by decide +kernel
theorem dX11_restore_9 : decode cX11_restore 9 = .ok (.bipush (-2), 2) := by decide +kernel
theorem dX11_restore_11 : decode cX11_restore 11 = .ok (.ireturn, 1) := by decide +kernel
theorem dX11_restore_12 : decode cX11_restore 12 = .ok (.aload_n 0, 1) := by decide +kernel
theorem dX11_restore_13 : decode cX11_restore 13 = .ok (.getfield 20, 3) := by decide +kernel
theorem dX11_restore_16 : decode cX11_restore 16 = .ok (.iload_n 1, 1) := by decide +kernel
theorem dX11_restore_17 : decode cX11_restore 17 = .ok (.baload, 1) := by decide +kernel
theorem dX11_restore_18 : decode cX11_restore 18 = .ok (.ifCond .ne 6, 3) := by decide +kernel
theorem dX11_restore_21 : decode cX11_restore 21 = .ok (.bipush (-5), 2) := by decide +kernel
theorem dX11_restore_23 : decode cX11_restore 23 = .ok (.ireturn, 1) := by decide +kernel
theorem dX11_restore_24 : decode cX11_restore 24 = .ok (.aload_n 0, 1) := by decide +kernel
theorem dX11_restore_25 : decode cX11_restore 25 = .ok (.getfield 10, 3) := by decide +kernel
theorem dX11_restore_28 : decode cX11_restore 28 = .ok (.aload_n 0, 1) := by decide +kernel
theorem dX11_restore_29 : decode cX11_restore 29 = .ok (.getfield 16, 3) := by decide +kernel
theorem dX11_restore_32 : decode cX11_restore 32 = .ok (.iload_n 1, 1) := by decide +kernel
theorem dX11_restore_33 : decode cX11_restore 33 = .ok (.aaload, 1) := by decide +kernel
theorem dX11_restore_34 : decode cX11_restore 34 = .ok (.invokevirtual 439, 3) := by decide +kernel
theorem dX11_restore_37 : decode cX11_restore 37 = .ok (.iconst 0, 1) := by decide +kernel
theorem dX11_restore_38 : decode cX11_restore 38 = .ok (.ireturn, 1) := by decide +kernel
theorem dX11_count_0 : decode cX11_count 0 = .ok (.iload_n 1, 1) := by decide +kernel
theorem dX11_count_1 : decode cX11_count 1 = .ok (.tableswitch 168 0 11 #[63, 71, 79, 87, 95, 103, 114, 125, 136, 144, 152, 160], 63) := by decide +kernel
theorem dX11_count_64 : decode cX11_count 64 = .ok (.aload_n 0, 1) := by decide +kernel
theorem dX11_count_65 : decode cX11_count 65 = .ok (.getfield 10, 3) := by decide +kernel
theorem dX11_count_68 : decode cX11_count 68 = .ok (.getfield 122, 3) := by decide +kernel
theorem dX11_count_71 : decode cX11_count 71 = .ok (.ireturn, 1) := by decide +kernel
theorem dX11_count_72 : decode cX11_count 72 = .ok (.aload_n 0, 1) := by decide +kernel
theorem dX11_count_73 : decode cX11_count 73 = .ok (.getfield 10, 3) := by decide +kernel
theorem dX11_count_76 : decode cX11_count 76 = .ok (.getfield 146, 3) := by decide +kernel
theorem dX11_count_79 : decode cX11_count 79 = .ok (.ireturn, 1) := by decide +kernel
theorem dX11_count_80 : decode cX11_count 80 = .ok (.aload_n 0, 1) := by decide +kernel
theorem dX11_count_81 : decode cX11_count 81 = .ok (.getfield 10, 3) := by decide +kernel
theorem dX11_count_84 : decode cX11_count 84 = .ok (.getfield 271, 3) := by decide +kernel
theorem dX11_count_87 : decode cX11_count 87 = .ok (.ireturn, 1) := by decide +kernel
theorem dX11_count_88 : decode cX11_count 88 = .ok (.aload_n 0, 1) := by decide +kernel
theorem dX11_count_89 : decode cX11_count 89 = .ok (.getfield 10, 3) := by decide +kernel
theorem dX11_count_92 : decode cX11_count 92 = .ok (.getfield 222, 3) := by decide +kernel
theorem dX11_count_95 : decode cX11_count 95 = .ok (.ireturn, 1) := by decide +kernel
theorem dX11_count_96 : decode cX11_count 96 = .ok (.aload_n 0, 1) := by decide +kernel
theorem dX11_count_97 : decode cX11_count 97 = .ok (.getfield 10, 3) := by decide +kernel
theorem dX11_count_100 : decode cX11_count 100 = .ok (.getfield 315, 3) := by decide +kernel
theorem dX11_count_103 : decode cX11_count 103 = .ok (.ireturn, 1) := by decide +kernel
theorem dX11_count_104 : decode cX11_count 104 = .ok (.aload_n 0, 1) := by decide +kernel
theorem dX11_count_105 : decode cX11_count 105 = .ok (.getfield 10, 3) := by decide +kernel
theorem dX11_count_108 : decode cX11_count 108 = .ok (.getfield 73, 3) := by decide +kernel
theorem dX11_count_111 : decode cX11_count 111 = .ok (.getfield 84, 3) := by decide +kernel
theorem dX11_count_114 : decode cX11_count 114 = .ok (.ireturn, 1) := by decide +kernel
theorem dX11_count_115 : decode cX11_count 115 = .ok (.aload_n 0, 1) := by decide +kernel
theorem dX11_count_116 : decode cX11_count 116 = .ok (.getfield 10, 3) := by decide +kernel
theorem dX11_count_119 : decode cX11_count 119 = .ok (.getfield 87, 3) := by decide +kernel
theorem dX11_count_122 : decode cX11_count 122 = .ok (.getfield 97, 3) := by decide +kernel
theorem dX11_count_125 : decode cX11_count 125 = .ok (.ireturn, 1) := by decide +kernel
theorem dX11_count_126 : decode cX11_count 126 = .ok (.aload_n 0, 1) := by decide +kernel
theorem dX11_count_127 : decode cX11_count 127 = .ok (.getfield 27, 3) := by decide +kernel
theorem dX11_count_130 : decode cX11_count 130 = .ok (.getfield 45, 3) := by decide +kernel
theorem dX11_count_133 : decode cX11_count 133 = .ok (.getfield 49, 3) := by decide +kernel
theorem dX11_count_136 : decode cX11_count 136 = .ok (.ireturn, 1) := by decide +kernel
theorem dX11_count_137 : decode cX11_count 137 = .ok (.aload_n 0, 1) := by decide +kernel
theorem dX11_count_138 : decode cX11_count 138 = .ok (.getfield 10, 3) := by decide +kernel
theorem dX11_count_141 : decode cX11_count 141 = .ok (.getfield 174, 3) := by decide +kernel
theorem dX11_count_144 : decode cX11_count 144 = .ok (.ireturn, 1) := by decide +kernel
theorem dX11_count_145 : decode cX11_count 145 = .ok (.aload_n 0, 1) := by decide +kernel
theorem dX11_count_146 : decode cX11_count 146 = .ok (.getfield 10, 3) := by decide +kernel
theorem dX11_count_149 : decode cX11_count 149 = .ok (.invokevirtual 442, 3) := by decide +kernel
theorem dX11_count_152 : decode cX11_count 152 = .ok (.ireturn, 1) := by decide +kernel
theorem dX11_count_153 : decode cX11_count 153 = .ok (.aload_n 0, 1) := by decide +kernel
theorem dX11_count_154 : decode cX11_count 154 = .ok (.getfield 10, 3) := by decide +kernel
theorem dX11_count_157 : decode cX11_count 157 = .ok (.getfield 416, 3) := by decide +kernel
theorem dX11_count_160 : decode cX11_count 160 = .ok (.ireturn, 1) := by decide +kernel
theorem dX11_count_161 : decode cX11_count 161 = .ok (.aload_n 0, 1) := by decide +kernel
theorem dX11_count_162 : decode cX11_count 162 = .ok (.getfield 10, 3) := by decide +kernel
theorem dX11_count_165 : decode cX11_count 165 = .ok (.getfield 394, 3) := by decide +kernel
theorem dX11_count_168 : decode cX11_count 168 = .ok (.ireturn, 1) := by decide +kernel
theorem dX11_count_169 : decode cX11_count 169 = .ok (.iload_n 1, 1) := by decide +kernel
theorem dX11_count_170 : decode cX11_count 170 = .ok (.bipush 20, 2) := by decide +kernel
theorem dX11_count_172 : decode cX11_count 172 = .ok (.bipush 19, 2) := by decide +kernel
theorem dX11_count_174 : decode cX11_count 174 = .ok (.aload_n 0, 1) := by decide +kernel
theorem dX11_count_175 : decode cX11_count 175 = .ok (.getfield 10, 3) := by decide +kernel
theorem dX11_count_178 : decode cX11_count 178 = .ok (.getfield 315, 3) := by decide +kernel
theorem dX11_count_181 : decode cX11_count 181 = .ok (.iadd, 1) := by decide +kernel
theorem dX11_count_182 : decode cX11_count 182 = .ok (.invokestatic 59, 3) := by decide +kernel
theorem dX11_count_185 : decode cX11_count 185 = .ok (.ifCond .eq 17, 3) := by decide +kernel
theorem dX11_count_188 : decode cX11_count 188 = .ok (.aload_n 0, 1) := by decide +kernel
theorem dX11_count_189 : decode cX11_count 189 = .ok (.getfield 10, 3) := by decide +kernel
theorem dX11_count_192 : decode cX11_count 192 = .ok (.iload_n 1, 1) := by decide +kernel
theorem dX11_count_193 : decode cX11_count 193 = .ok (.bipush 20, 2) := by decide +kernel
theorem dX11_count_195 : decode cX11_count 195 = .ok (.isub, 1) := by decide +kernel
theorem dX11_count_196 : decode cX11_count 196 = .ok (.invokevirtual 325, 3) := by decide +kernel
theorem dX11_count_199 : decode cX11_count 199 = .ok (.goto 4, 3) := by decide +kernel
theorem dX11_count_202 : decode cX11_count 202 = .ok (.iconst (-1), 1) := by decide +kernel
theorem dX11_count_203 : decode cX11_count 203 = .ok (.ireturn, 1) := by decide +kernel
